set_option maxRecDepth 20000 in
set_option maxHeartbeats 4000000 in
theorem l_cut1 {g : zg_G} {k : zk_T} {Q : Option Value → zs_S → Prop} (C : zk_ok g mX1_cutBest k) (hr : zk_ret g mX1_cutBest Q k) (n : Int) (hg : (g.2.2.2 : Int) = n) (σ0 : zs_S) (hS : ks_s σ0 n) (hK : ks_k σ0) (hex : ∀ τ, zf_x σ0 τ [5, 6, 20, 21] → bk_z σ0 n (τ 20) (τ 21) → zw_W g mX1_cutBest k 23 [(0, .ref (g.2.2.1 1))] [] τ) : ∀ (N : Nat) (σ : zs_S) (p : Int), (p + 1).toNat < N → (-1 ≤ p ∧ p ≤ n) → (zf_x σ0 σ [5, 6, 20, 21]) → (σ 20 (n + 1) = 0) → (∀ x, p < x → x ≤ n → (σ 20 x = (bk_f σ0 n x (σ 20) 6).1 ∧ σ 21 x = (bk_f σ0 n x (σ 20) 6).2) ∧ (0 ≤ σ 20 x ∧ σ 20 x ≤ (n + 1 - x) * 1000000)) → zw_W g mX1_cutBest k 8 [(0, .ref (g.2.2.1 1)), (1, zv_i p)] [] σ := by
  intro N
  induction N with
  | zero =>
    intro σ p hN
    exact absurd hN (by omega)
  | succ N ih =>
    intro σ p hN hp fr h0 hz
    obtain ⟨hn1, hn2, hlast, hd, hgd⟩ := id hS
    have hS1 : ks_s σ n := ks_sx hS (fun i => fr 2 (by decide) i) (fun i => fr 3 (by decide) i) (fun i => fr 4 (by decide) i)
    have hK1 : ks_k σ := ks_kx hK (fun c h1 h2 i => fr c (by simp; omega) i)
    have hB1 : bk_b n p (σ 20) := fun x y1 y2 => by
      rcases (show x ≤ n ∨ x = n + 1 by omega) with y | y
      · exact (hz x y1 y).2
      · rw [y, h0]; omega
    refine zr_iload_n (pc := 8) C dX1_cutBest_8 1 rfl ?_
    refine zr_if_lt (pc := 9) C 23 dX1_cutBest_9 (by decide) (by omega) (fun h_1 => ?_) (fun h_1 => ?_)
    · refine zr_sub [0] rfl ?_
      exact hex σ fr ⟨h0, fun x y1 y2 => hz x (by omega) y2⟩
    · refine zr_aload_n (pc := 12) C dX1_cutBest_12 0 rfl ?_
      refine zr_iload_n (pc := 13) C dX1_cutBest_13 1 rfl ?_
      refine zr_callV (As := [zv_i p]) (rest := []) (b := 1) (pc := 14) C dX1_cutBest_14 kX1_choose vX1_48 rfl (by decide) (by decide) (hs_1 _) rfl (Nat.le_of_ble_eq_true rfl) (m_choose g σ n hg p (by exact hS1) (by exact hK1) (by omega) (by exact hB1)) (fun v_ τ_ h_ => ?_)
      obtain ⟨rfl, h_3⟩ := h_
      generalize τ_ = τ_2 at h_3 ⊢
      show zw_W g mX1_cutBest k 17 [(0, .ref (g.2.2.1 1)), (1, zv_i p)] [] τ_2
      refine zr_iinc (L' := [(1, zv_i (p + (-1))), (0, .ref (g.2.2.1 1))]) (pc := 17) C dX1_cutBest_17 1 rfl (by decide) rfl ?_
      refine zr_goto (pc := 20) C 8 dX1_cutBest_20 (by decide) ?_
      refine zr_sub [1, 0] rfl ?_
      obtain ⟨fz, a20, a21, b20, b21⟩ := h_3
      have fb := bk_fb hS1 hK1 (p := p) (by omega) hB1 6 (by omega)
      have ec : bk_f σ n p (σ 20) 6 = bk_f σ0 n p (τ_2 20) 6 := bk_fc (fun i => fr 3 (by decide) i) (fun i => fr 4 (by decide) i) (fun c y1 y2 i => fr c (by simp; omega) i) hp.2 (fun x y1 y2 => (a20 x (by omega)).symm) 6 (by omega)
      exact ih τ_2 (p + (-1)) (by omega) (by omega) (zf_t fr fz (by simp) (by simp)) (by rw [a20 _ (by omega)]; exact h0) (fun x y1 y2 => by
        rcases (show x = p ∨ p < x by omega) with y | y
        · rw [y, b20, b21, ← ec]
          exact ⟨⟨rfl, rfl⟩, fb.1⟩
        · have e2 : bk_f σ0 n x (τ_2 20) 6 = bk_f σ0 n x (σ 20) 6 := bk_fc (fun _ => rfl) (fun _ => rfl) (fun _ _ _ _ => rfl) y2 (fun z z1 z2 => a20 z (by omega)) 6 (by omega)
          rw [a20 x (by omega), a21 x (by omega), e2]
          exact hz x y y2)

set_option maxRecDepth 20000 in
set_option maxHeartbeats 4000000 in
theorem l_cut2 {g : zg_G} {k : zk_T} {Q : Option Value → zs_S → Prop} (C : zk_ok g mX1_cutBest k) (hr : zk_ret g mX1_cutBest Q k) (n : Int) (hg : (g.2.2.2 : Int) = n) (q b : Nat) (hq : zs_q q) (hb : zs_q b) (hqb : q ≠ b) (σ0 : zs_S) (hS : ks_s σ0 n) (hK : ks_k σ0) (B K : Int → Int) (hz : bk_z σ0 n B K) (hb4 : σ0 1 4 = b) (hs5 : σ0 1 5 = q) (hQ : ∀ r τ l, bk_O σ0 τ n q b B K l r → Q (some (zv_i r)) τ) : ∀ (N : Nat) (σ : zs_S) (l : List (Int × Int)) (e x f : Int), (n + 1 - x).toNat < N → ((0 ≤ x ∧ x ≤ n + 1) ∧ (0 ≤ f ∧ f ≤ n + 1)) → (e = max x f) → (zf_x σ0 σ [5, 6, 20, 21, q, q + 1]) → (∀ y, σ 20 y = B y) → (∀ y, σ 21 y = K y) → (bk_D σ0 K l 0 e) → (σ q 0 = l.length) → (σ q 1 + B e = B 0) → (bk_R σ0 (σ (q + 1)) l) → (2 * (l.length : Int) ≤ e) → (bk_W σ0 n e l) → zw_W g mX1_cutBest k 34 [(0, .ref (g.2.2.1 1)), (1, zv_i f), (2, zv_i x)] [] σ := by
  intro N
  induction N with
  | zero =>
    intro σ l e x f hN
    exact absurd hN (by omega)
  | succ N ih =>
    intro σ l e x f hN hx he fr hB hKK hD hc hv hR h2 hW
    obtain ⟨hn1, hn2, hlast, hd, hgd⟩ := id hS
    have hS1 : ks_s σ n := ks_sx hS (fun i => fr 2 (by simp; omega) i) (fun i => fr 3 (by simp; omega) i) (fun i => fr 4 (by simp; omega) i)
    have hK1 : ks_k σ := ks_kx hK (fun c h1 h2 i => fr c (by simp; omega) i)
    have e1 : σ 2 0 = n := (fr 2 (by simp; omega) 0).trans hlast
    refine zr_iload_n (pc := 34) C dX1_cutBest_34 2 rfl ?_
    refine zr_aload_n (pc := 35) C dX1_cutBest_35 0 rfl ?_
    refine zr_get (v := .ref (g.2.2.1 2)) (pc := 36) C 0 (some (some 2)) dX1_cutBest_36 fX1_32 (by decide) (hs_1 _) rfl rfl ?_
    refine zr_get (v := zv_i (σ 2 0)) (pc := 39) C 0 none dX1_cutBest_39 fX1_44 (by decide) (hs_2 _) rfl rfl ?_
    refine zr_icmp_gt (pc := 42) C 99 dX1_cutBest_42 (by decide) (by omega) (by omega) (fun h_1 => ?_) (fun h_1 => ?_)
    · refine zr_aload_n (pc := 99) C dX1_cutBest_99 0 rfl ?_
      refine zr_callV (As := []) (rest := []) (b := 1) (pc := 100) C dX1_cutBest_100 kX1_keepSpare vX1_61 rfl (by decide) (by decide) (hs_1 _) rfl (Nat.le_of_ble_eq_true rfl) (m_keepSpare g σ b q hb hq (by rw [fr 1 (by simp; omega) 4]; exact hb4) (by rw [fr 1 (by simp; omega) 5]; exact hs5)) (fun v_ τ_ h_ => ?_)
      obtain ⟨rfl, h_3⟩ := h_
      generalize τ_ = τ_2 at h_3 ⊢
      show zw_W g mX1_cutBest k 103 [(0, .ref (g.2.2.1 1)), (1, zv_i f), (2, zv_i x)] [zv_i (σ q 1)] τ_2
      exact zr_iret (pc := 103) C hr dX1_cutBest_103 rfl (hQ _ τ_2 l (by
              have e0 : e = n + 1 := by omega
              rw [e0] at hv hD hW h2
              rw [hz.1] at hv
              obtain ⟨k1, k2, k3⟩ := h_3
              exact ⟨hz, hD, hW, by omega, by rw [k3 q (by simp; omega) 0]; exact hc, by omega, by rw [show τ_2 (q + 1) = σ (q + 1) from funext fun y => k3 (q + 1) (by simp; omega) y]; exact hR, k1, k2, by rw [k3 20 (by decide), hB]; exact hz.1, zf_t fr k3 (by simp) (by simp)⟩))
    · refine zr_iload_n (pc := 45) C dX1_cutBest_45 2 rfl ?_
      refine zr_iload_n (pc := 46) C dX1_cutBest_46 1 rfl ?_
      refine zr_icmp_lt (pc := 47) C 93 dX1_cutBest_47 (by decide) (by omega) (by omega) (fun h_5 => ?_) (fun h_5 => ?_)
      · 
        refine zr_iinc (L' := [(2, zv_i (x + 1)), (0, .ref (g.2.2.1 1)), (1, zv_i f)]) (pc := 93) C dX1_cutBest_93 2 rfl (by decide) rfl ?_
        refine zr_goto (pc := 96) C 34 dX1_cutBest_96 (by decide) ?_
        refine zr_sub [1, 2, 0] rfl ?_
        exact ih σ l e (x + 1) f (by omega) (by omega) (by omega) fr hB hKK hD hc hv hR h2 hW
      · have zrx := hz.2 x (by omega) (by omega)
        have kb := bk_fb hS hK (p := x) (by omega) (B := B) (fun y y1 y2 => by
          rcases (show y ≤ n ∨ y = n + 1 by omega) with z | z
          · exact (hz.2 y (by omega) z).2
          · rw [z, hz.1]; omega) 6 (by omega)
        have hkx0 : σ 21 x = K x := hKK x
        have kb2 := kb.2
        rw [← zrx.1.2] at kb2
        refine zr_aload_n (pc := 50) C dX1_cutBest_50 0 rfl ?_
        refine zr_get (v := .ref (g.2.2.1 21)) (pc := 51) C 3 (some (some 21)) dX1_cutBest_51 fX1_40 (by decide) (hs_1 _) rfl rfl ?_
        refine zr_iload_n (pc := 54) C dX1_cutBest_54 2 rfl ?_
        refine zr_iaload (pc := 55) C dX1_cutBest_55 (by decide) (hs_21 _) (by omega) (by omega) ?_
        refine zr_iconst (pc := 56) C dX1_cutBest_56 ?_
        refine zr_icmp_eq (pc := 57) C 93 dX1_cutBest_57 (by decide) (by omega) (by omega) (fun h_6 => ?_) (fun h_6 => ?_)
        · 
          refine zr_iinc (L' := [(2, zv_i (x + 1)), (0, .ref (g.2.2.1 1)), (1, zv_i f)]) (pc := 93) C dX1_cutBest_93 2 rfl (by decide) rfl ?_
          refine zr_goto (pc := 96) C 34 dX1_cutBest_96 (by decide) ?_
          have hk : K x = -1 := by rw [← hKK x]; exact h_6
          refine zr_sub [1, 2, 0] rfl ?_
          have e0 : e = x := by omega
          subst e0
          obtain ⟨⟨zb, zk⟩, zr⟩ := hz.2 e (by omega) (by omega)
          have hB2 : B e = B (e + 1) := by
            obtain ⟨-, -, h | h⟩ := bk_fs (σ := σ0) (n := n) (p := e) (B := B) 6
            · rw [zb]; exact h.2
            · have := h.1; omega
          exact ih σ l (e + 1) (e + 1) f (by omega) (by omega) (by omega) fr hB hKK (bk_Dn hD hk) hc (by rw [← hB2]; exact hv) hR (by omega) (bk_We hW (by omega))
        · have e0 : e = x := by omega
          obtain ⟨⟨zb, zk⟩, zr⟩ := hz.2 x (by omega) (by omega)
          have hkx : σ 21 x = K x := hKK x
          obtain ⟨-, -, hfs | ⟨f1, f2, ha, f4, -, -⟩⟩ := bk_fs (σ := σ0) (n := n) (p := x) (B := B) 6
          · exact absurd hfs.1 (by omega)
          rw [← zk] at f1 f2 ha f4
          rw [← zb] at f4
          have f2 : K x < 6 := f2
          obtain ⟨-, en, ett, egg⟩ := bk_pc (n := n) (p := x) (j := K x) (σ := σ0) (τ := σ) (fun i => fr 3 (by simp; omega) i) (fun i => fr 4 (by simp; omega) i) ⟨by omega, by omega⟩ (fun c h1 h2 i => fr c (by simp; omega) i)
          obtain ⟨eaa, evv⟩ := bk_ac (n := n) (p := x) (j := K x) (σ := σ0) (τ := σ) (fun i => fr 3 (by simp; omega) i) (fun i => fr 4 (by simp; omega) i) ⟨by omega, by omega⟩ (fun c h1 h2 i => fr c (by simp; omega) i)
          have hBe : B x = bk_v σ0 x (K x) + B (x + bk_n σ0 (K x) + 1) := f4
          have ha1 : bk_a σ n x (σ 21 x) := by rw [hkx]; exact eaa.mpr ha
          have l1 : 0 < bk_n σ0 (K x) := ha.1
          have l2 : x + bk_n σ0 (K x) ≤ n := ha.2.1
          refine zr_aload_n (pc := 60) C dX1_cutBest_60 0 rfl ?_
          refine zr_aload_n (pc := 61) C dX1_cutBest_61 0 rfl ?_
          refine zr_get (v := .ref (g.2.2.1 21)) (pc := 62) C 3 (some (some 21)) dX1_cutBest_62 fX1_40 (by decide) (hs_1 _) rfl rfl ?_
          refine zr_iload_n (pc := 65) C dX1_cutBest_65 2 rfl ?_
          refine zr_iaload (pc := 66) C dX1_cutBest_66 (by decide) (hs_21 _) (by omega) (by omega) ?_
          refine zr_iload_n (pc := 67) C dX1_cutBest_67 2 rfl ?_
          refine zr_callV (As := [zv_i (σ 21 x), zv_i x]) (rest := []) (b := 1) (pc := 68) C dX1_cutBest_68 kX1_addLog vX1_54 rfl (by decide) (by decide) (hs_1 _) rfl (Nat.le_of_ble_eq_true rfl) (m_addLog g σ n hg q hq (σ 21 x) x (l.length) (by omega) (by omega) (by exact hS1) (by exact hK1) (by rw [fr 1 (by simp; omega) 5]; exact hs5) (by exact hc) (by refine ⟨by omega, fun _ => ?_⟩; omega)) (fun v_ τ_ h_ => ?_)
          obtain ⟨rfl, h_8⟩ := h_
          generalize τ_ = τ_7 at h_8 ⊢
          show zw_W g mX1_cutBest k 71 [(0, .ref (g.2.2.1 1)), (1, zv_i f), (2, zv_i x)] [zv_i (zi_b (bk_a σ n x (σ 21 x)))] τ_7
          refine zr_if_eq_b (pc := 71) C 93 dX1_cutBest_71 (by decide) (fun h_9 => ?_) (fun h_9 => ?_)
          · exact absurd ha1 h_9
          · have ek : τ_7 21 x = K x := (h_8.1 21 (by simp; omega) x).trans hkx
            refine zr_iload_n (pc := 74) C dX1_cutBest_74 2 rfl ?_
            refine zr_aload_n (pc := 75) C dX1_cutBest_75 0 rfl ?_
            refine zr_get (v := .ref (g.2.2.1 7)) (pc := 76) C 1 (some (some 7)) dX1_cutBest_76 fX1_11 (by decide) (hs_1 _) rfl rfl ?_
            refine zr_aload_n (pc := 79) C dX1_cutBest_79 0 rfl ?_
            refine zr_get (v := .ref (g.2.2.1 21)) (pc := 80) C 3 (some (some 21)) dX1_cutBest_80 fX1_40 (by decide) (hs_1 _) rfl rfl ?_
            refine zr_iload_n (pc := 83) C dX1_cutBest_83 2 rfl ?_
            refine zr_iaload (pc := 84) C dX1_cutBest_84 (by decide) (hs_21 _) (by omega) (by omega) ?_
            refine zr_aaload (pc := 85) C dX1_cutBest_85 (by decide) (hs_7 _) (by decide) (by omega) (by decide) ?_
            show zw_W g mX1_cutBest k 86 [(0, .ref (g.2.2.1 1)), (1, zv_i f), (2, zv_i x)] [.ref (g.2.2.1 (8 + 2 * ((τ_7 21 x)).toNat)), zv_i x] τ_7
            refine zr_get (v := zv_i (τ_7 (8 + 2 * ((τ_7 21 x)).toNat) 0)) (pc := 86) C 0 none dX1_cutBest_86 fX1_58 (hn_kind (by omega)) (hs_kind (by omega)) rfl rfl ?_
            refine zr_iadd (pc := 89) C dX1_cutBest_89 ?_
            refine zr_iconst (pc := 90) C dX1_cutBest_90 ?_
            refine zr_iadd (pc := 91) C dX1_cutBest_91 ?_
            refine zr_istore_n (L' := [(1, zv_i ((x + (τ_7 (8 + 2 * ((τ_7 21 x)).toNat) 0)) + 1)), (0, .ref (g.2.2.1 1)), (2, zv_i x)]) (pc := 92) C dX1_cutBest_92 (by decide) rfl ?_
            refine zr_iinc (L' := [(2, zv_i (x + 1)), (1, zv_i ((x + (τ_7 (8 + 2 * ((τ_7 21 x)).toNat) 0)) + 1)), (0, .ref (g.2.2.1 1))]) (pc := 93) C dX1_cutBest_93 2 rfl (by decide) rfl ?_
            refine zr_goto (pc := 96) C 34 dX1_cutBest_96 (by decide) ?_
            obtain ⟨fz, -, hyes⟩ := h_8
            obtain ⟨c1, c2, c3, c4⟩ := hyes ha1
            have hlen : τ_7 (8 + 2 * (τ_7 21 x).toNat) 0 = bk_n σ0 (K x) := by
              rw [ek]
              exact (fz _ (by simp; omega) 0).trans (fr _ (by simp; omega) 0)
            have l1 : 0 < bk_n σ0 (K x) := ha.1
            have l2 : x + bk_n σ0 (K x) ≤ n := ha.2.1
            refine zr_sub [2, 1, 0] rfl ?_
            rw [hlen]
            have e0 : e = x := by omega
            subst e0
            exact ih τ_7 (l ++ [(e, K e)]) (e + bk_n σ0 (K e) + 1) (e + 1) (e + bk_n σ0 (K e) + 1) (by omega) (by omega) (by omega) (zf_t fr fz (by simp) (by simp)) (fun y => by rw [fz 20 (by simp; omega)]; exact hB y) (fun y => by rw [fz 21 (by simp; omega)]; exact hKK y) (bk_Dy hD (by omega)) (by rw [c1, List.length_append]; simp) (by rw [c2, hKK e, evv]; omega) (bk_Ra hR (fun j y1 y2 => c3 j y2) (by
              obtain ⟨z0, z1, z2, z3, z4, z5⟩ := c4
              exact ⟨z0, by rw [z1]; exact hKK e, by rw [z2, hKK e, ett], by rw [z3, hKK e, ett], by rw [z4, hKK e, egg], by rw [z5, hKK e, evv]⟩)) (by rw [List.length_append]; simp; omega) (bk_Wa hW (by omega) ⟨by omega, by omega, ⟨by omega, by omega⟩, ha⟩)

set_option maxRecDepth 20000 in
set_option maxHeartbeats 4000000 in
theorem m_cutBest (g : zg_G) (σ : zs_S) (n : Int) (hg : (g.2.2.2 : Int) = n) (q b : Nat) (hq : zs_q q) (hb : zs_q b) (hqb : q ≠ b) (hS : ks_s σ n) (hK : ks_k σ) (hb4 : σ 1 4 = b) (hs5 : σ 1 5 = q) (h20 : σ 20 (n + 1) = 0) : zm_Met g mX1_cutBest σ [.ref (g.2.2.1 1)] (fun v τ => ∃ r B K l, v = some (zv_i r) ∧ bk_O σ τ n q b B K l r) := by
  refine zm_of (by decide +kernel) (Nat.le_of_ble_eq_true rfl) ?_
  intro k C hr
  show zw_W g mX1_cutBest k 0 [(0, .ref (g.2.2.1 1))] [] σ
  obtain ⟨hn1, hn2, hlast, hd, hgd⟩ := id hS
  refine zr_aload_n (pc := 0) C dX1_cutBest_0 0 rfl ?_
  refine zr_get (v := .ref (g.2.2.1 2)) (pc := 1) C 0 (some (some 2)) dX1_cutBest_1 fX1_32 (by decide) (hs_1 _) rfl rfl ?_
  refine zr_get (v := zv_i (σ 2 0)) (pc := 4) C 0 none dX1_cutBest_4 fX1_44 (by decide) (hs_2 _) rfl rfl ?_
  refine zr_istore_n (L' := [(1, zv_i (σ 2 0)), (0, .ref (g.2.2.1 1))]) (pc := 7) C dX1_cutBest_7 (by decide) rfl ?_
  rw [hlast]
  refine zr_sub [1, 0] rfl ?_
  refine l_cut1 C hr n hg σ hS hK (fun τ fr hz => ?_) (n.toNat + 2) σ n (by omega) (by omega) (zf_r σ _) h20 (fun x y1 y2 => absurd y2 (by omega))
  refine zr_aload_n (pc := 23) C dX1_cutBest_23 0 rfl ?_
  refine zr_get (v := .ref (g.2.2.1 (τ 1 5).toNat)) (pc := 24) C 5 (some none) dX1_cutBest_24 fX1_24 (by decide) (hs_1 _) rfl rfl ?_
  rw [show τ 1 5 = (q : Int) from (fr 1 (by decide) 5).trans hs5]
  show zw_W g mX1_cutBest k 27 [(0, .ref (g.2.2.1 1))] [.ref (g.2.2.1 (q))] τ
  refine zr_callV (As := []) (rest := []) (b := q) (pc := 27) C dX1_cutBest_27 kX3_clear vX1_51 rfl (by decide) (hn_cut hq) (hs_cut hq) rfl (Nat.le_of_ble_eq_true rfl) (m_clear g τ q hq) (fun v_ τ_ h_ => ?_)
  obtain ⟨rfl, h_102⟩ := h_
  generalize τ_ = τ_101 at h_102 ⊢
  show zw_W g mX1_cutBest k 30 [(0, .ref (g.2.2.1 1))] [] τ_101
  refine zr_iconst (pc := 30) C dX1_cutBest_30 ?_
  refine zr_istore_n (L' := [(1, zv_i 0), (0, .ref (g.2.2.1 1))]) (pc := 31) C dX1_cutBest_31 (by decide) rfl ?_
  refine zr_iconst (pc := 32) C dX1_cutBest_32 ?_
  refine zr_istore_n (L' := [(2, zv_i 0), (1, zv_i 0), (0, .ref (g.2.2.1 1))]) (pc := 33) C dX1_cutBest_33 (by decide) rfl ?_
  refine zr_sub [2, 1, 0] rfl ?_
  obtain ⟨y1, y2, y3⟩ := h_102
  exact l_cut2 C hr n hg q b hq hb hqb σ hS hK (τ 20) (τ 21) hz hb4 hs5 (fun r υ l hO => ⟨r, _, _, l, rfl, hO⟩) (n.toNat + 2) τ_101 [] 0 0 0 (by omega) (by omega) (by omega) (zf_t fr y3 (by simp) (by simp)) (fun y => by rw [y3 20 (by simp; omega)]) (fun y => by rw [y3 21 (by simp; omega)]) ⟨Int.le_refl _, fun x y1 y2 => absurd y2 (by omega)⟩ (by rw [y1]; rfl) (by rw [y2]; omega) (fun i p j h => by simp at h) (by simp) (fun z hz => by simp at hz)
