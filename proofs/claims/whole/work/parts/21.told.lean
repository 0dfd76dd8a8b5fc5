set_option maxRecDepth 20000 in
set_option maxHeartbeats 4000000 in
theorem l_told {g : zg_G} {k : zk_T} {Q : Option Value → zs_S → Prop} (C : zk_ok g mX1_cutAsTold k) (hr : zk_ret g mX1_cutAsTold Q k) (n : Int) (hg : (g.2.2.2 : Int) = n) (w : Int64) (q b : Nat) (hq : zs_q q) (hb : zs_q b) (hqb : q ≠ b) (σ0 : zs_S) (hS : ks_s σ0 n) (hK : ks_k σ0) (hb4 : σ0 1 4 = b) (hs5 : σ0 1 5 = q) (hQn : by_f σ0 n w 8 = none → ∀ (v : Option Value) (τ : zs_S), v = some (zv_i (-1)) → zf_x σ0 τ [5, 6, q, q + 1] → Q v τ) (hQy : ∀ f l, by_f σ0 n w 8 = some (f, l) → ∀ (v : Option Value) (τ : zs_S), v = some (zv_i (bk_S σ0 l)) → (τ q 0 = l.length ∧ (l.length : Int) ≤ 8 ∧ bk_R σ0 (τ (q + 1)) l ∧ bk_W σ0 n (n + 1) l ∧ τ 1 4 = q ∧ τ 1 5 = b ∧ zf_x σ0 τ [1, 5, 6, q, q + 1]) → Q v τ) : ∀ (N : Nat) (σ : zs_S) (m : Nat) (f : Int) (l : List (Int × Int)), 8 - m < N → (m ≤ 8) → (by_f σ0 n w m = some (f, l)) → (0 ≤ f ∧ f ≤ n + 1) → (zf_x σ0 σ [5, 6, q, q + 1]) → (σ q 0 = l.length) → (σ q 1 = bk_S σ0 l) → (bk_R σ0 (σ (q + 1)) l) → (bk_W σ0 n f l) → ((l.length : Int) ≤ m) → zw_W g mX1_cutAsTold k 12 [(0, .ref (g.2.2.1 1)), (1, .long w), (3, zv_i f), (4, zv_i (8 * (m : Int)))] [] σ := by
  intro N
  induction N with
  | zero =>
    intro σ m f l hN
    exact absurd hN (by omega)
  | succ N ih =>
    intro σ m f l hN hm hf hf0 fr hc hv hR hW hll
    obtain ⟨hn1, hn2, hlast, hd, hgd⟩ := id hS
    have hS1 : ks_s σ n := ks_sx hS (fun i => fr 2 (by simp; omega) i) (fun i => fr 3 (by simp; omega) i) (fun i => fr 4 (by simp; omega) i)
    have hK1 : ks_k σ := ks_kx hK (fun c h1 h2 i => fr c (by simp; omega) i)
    have hbb0 := by_b w (8 * (m : Int))
    refine zr_iload (pc := 12) C dX1_cutAsTold_12 3 rfl ?_
    refine zr_bipush (pc := 14) C dX1_cutAsTold_14 (by decide) ?_
    refine zr_icmp_ge (pc := 16) C 93 dX1_cutAsTold_16 (by decide) (by omega) (by omega) (fun h_1 => ?_) (fun h_1 => ?_)
    · refine zr_aload_n (pc := 93) C dX1_cutAsTold_93 0 rfl ?_
      refine zr_callV (As := []) (rest := []) (b := 1) (pc := 94) C dX1_cutAsTold_94 kX1_keepSpare vX1_61 rfl (by decide) (by decide) (hs_1 _) rfl (Nat.le_of_ble_eq_true rfl) (m_keepSpare g σ b q hb hq (by rw [fr 1 (by simp; omega) 4]; exact hb4) (by rw [fr 1 (by simp; omega) 5]; exact hs5)) (fun v_ τ_ h_ => ?_)
      obtain ⟨rfl, h_3⟩ := h_
      generalize τ_ = τ_2 at h_3 ⊢
      show zw_W g mX1_cutAsTold k 97 [(0, .ref (g.2.2.1 1)), (1, .long w), (3, zv_i f), (4, zv_i (8 * (m : Int)))] [zv_i (σ q 1)] τ_2
      exact zr_iret (pc := 97) C hr dX1_cutAsTold_97 rfl (hQy f l (by rw [show (8 : Nat) = m by omega]; exact hf) _ τ_2 (zq_i hv) (by
              obtain ⟨k1, k2, k3⟩ := h_3
              exact ⟨by rw [k3 q (by simp; omega) 0]; exact hc, by omega, by rw [show τ_2 (q + 1) = σ (q + 1) from funext fun y => k3 (q + 1) (by simp; omega) y]; exact hR, bk_We hW (by omega), k1, k2, zf_t fr k3 (by simp) (by simp)⟩))
    · refine zr_lload_n (pc := 19) C dX1_cutAsTold_19 1 rfl ?_
      refine zr_iload (pc := 20) C dX1_cutAsTold_20 3 rfl ?_
      refine zr_byte (pc := 22) C dX1_cutAsTold_22 dX1_cutAsTold_23 dX1_cutAsTold_24 dX1_cutAsTold_27 ?_
      refine zr_istore (L' := [(5, zv_i (by_c w (8 * (m : Int)))), (0, .ref (g.2.2.1 1)), (1, .long w), (3, zv_i f), (4, zv_i (8 * (m : Int)))]) (pc := 28) C dX1_cutAsTold_28 (by decide) rfl ?_
      refine zr_iload (pc := 30) C dX1_cutAsTold_30 0 rfl ?_
      refine zr_if_ne (pc := 32) C 38 dX1_cutAsTold_32 (by decide) (by omega) (fun h_5 => ?_) (fun h_5 => ?_)
      · have hbb := by_b w (8 * (m : Int))
        obtain ⟨-, en, ett, egg⟩ := bk_pc (n := n) (p := f + (by_c w (8 * (m : Int)) - 1) / 6) (j := (by_c w (8 * (m : Int)) - 1) % 6) (σ := σ0) (τ := σ) (fun i => fr 3 (by simp; omega) i) (fun i => fr 4 (by simp; omega) i) ⟨by omega, by omega⟩ (fun c h1 h2 i => fr c (by simp; omega) i)
        obtain ⟨eaa, evv⟩ := bk_ac (n := n) (p := f + (by_c w (8 * (m : Int)) - 1) / 6) (j := (by_c w (8 * (m : Int)) - 1) % 6) (σ := σ0) (τ := σ) (fun i => fr 3 (by simp; omega) i) (fun i => fr 4 (by simp; omega) i) ⟨by omega, by omega⟩ (fun c h1 h2 i => fr c (by simp; omega) i)
        refine zr_iload (pc := 38) C dX1_cutAsTold_38 0 rfl ?_
        refine zr_iconst (pc := 40) C dX1_cutAsTold_40 ?_
        refine zr_isub (pc := 41) C dX1_cutAsTold_41 ?_
        refine zr_bipush (pc := 42) C dX1_cutAsTold_42 (by decide) ?_
        refine zr_irem (pc := 44) C dX1_cutAsTold_44 (by omega) (by omega) (by omega) (by omega) ?_
        refine zr_istore (L' := [(6, zv_i (((by_c w (8 * (m : Int))) - 1) % 6)), (5, zv_i (by_c w (8 * (m : Int)))), (0, .ref (g.2.2.1 1)), (1, .long w), (3, zv_i f), (4, zv_i (8 * (m : Int)))]) (pc := 45) C dX1_cutAsTold_45 (by decide) rfl ?_
        refine zr_iload_n (pc := 47) C dX1_cutAsTold_47 4 rfl ?_
        refine zr_iload (pc := 48) C dX1_cutAsTold_48 1 rfl ?_
        refine zr_iconst (pc := 50) C dX1_cutAsTold_50 ?_
        refine zr_isub (pc := 51) C dX1_cutAsTold_51 ?_
        refine zr_bipush (pc := 52) C dX1_cutAsTold_52 (by decide) ?_
        refine zr_idiv (pc := 54) C dX1_cutAsTold_54 (by omega) (by omega) (by omega) (by omega) ?_
        refine zr_iadd (pc := 55) C dX1_cutAsTold_55 ?_
        refine zr_istore (L' := [(7, zv_i (f + (((by_c w (8 * (m : Int))) - 1) / 6))), (6, zv_i (((by_c w (8 * (m : Int))) - 1) % 6)), (5, zv_i (by_c w (8 * (m : Int)))), (0, .ref (g.2.2.1 1)), (1, .long w), (3, zv_i f), (4, zv_i (8 * (m : Int)))]) (pc := 56) C dX1_cutAsTold_56 (by decide) rfl ?_
        refine zr_aload_n (pc := 58) C dX1_cutAsTold_58 3 rfl ?_
        refine zr_iload (pc := 59) C dX1_cutAsTold_59 1 rfl ?_
        refine zr_iload (pc := 61) C dX1_cutAsTold_61 0 rfl ?_
        refine zr_callV (As := [zv_i (((by_c w (8 * (m : Int))) - 1) % 6), zv_i (f + (((by_c w (8 * (m : Int))) - 1) / 6))]) (rest := []) (b := 1) (pc := 63) C dX1_cutAsTold_63 kX1_addLog vX1_54 rfl (by decide) (by decide) (hs_1 _) rfl (Nat.le_of_ble_eq_true rfl) (m_addLog g σ n hg q hq (((by_c w (8 * (m : Int))) - 1) % 6) (f + (((by_c w (8 * (m : Int))) - 1) / 6)) (l.length) (by omega) (by omega) (by exact hS1) (by exact hK1) (by rw [fr 1 (by simp; omega) 5]; exact hs5) (by exact hc) (by refine ⟨by omega, fun _ => ?_⟩; omega)) (fun v_ τ_ h_ => ?_)
        obtain ⟨rfl, h_7⟩ := h_
        generalize τ_ = τ_6 at h_7 ⊢
        show zw_W g mX1_cutAsTold k 66 [(7, zv_i (f + (((by_c w (8 * (m : Int))) - 1) / 6))), (6, zv_i (((by_c w (8 * (m : Int))) - 1) % 6)), (5, zv_i (by_c w (8 * (m : Int)))), (0, .ref (g.2.2.1 1)), (1, .long w), (3, zv_i f), (4, zv_i (8 * (m : Int)))] [zv_i (zi_b (bk_a σ n (f + (((by_c w (8 * (m : Int))) - 1) / 6)) (((by_c w (8 * (m : Int))) - 1) % 6)))] τ_6
        refine zr_if_ne_b (pc := 66) C 71 dX1_cutAsTold_66 (by decide) (fun h_8 => ?_) (fun h_8 => ?_)
        · 
          refine zr_iload (pc := 71) C dX1_cutAsTold_71 0 rfl ?_
          refine zr_aload_n (pc := 73) C dX1_cutAsTold_73 3 rfl ?_
          refine zr_get (v := .ref (g.2.2.1 7)) (pc := 74) C 1 (some (some 7)) dX1_cutAsTold_74 fX1_11 (by decide) (hs_1 _) rfl rfl ?_
          refine zr_iload (pc := 77) C dX1_cutAsTold_77 1 rfl ?_
          refine zr_aaload (pc := 79) C dX1_cutAsTold_79 (by decide) (hs_7 _) (by decide) (by omega) (by decide) ?_
          show zw_W g mX1_cutAsTold k 80 [(7, zv_i (f + (((by_c w (8 * (m : Int))) - 1) / 6))), (6, zv_i (((by_c w (8 * (m : Int))) - 1) % 6)), (5, zv_i (by_c w (8 * (m : Int)))), (0, .ref (g.2.2.1 1)), (1, .long w), (3, zv_i f), (4, zv_i (8 * (m : Int)))] [.ref (g.2.2.1 (8 + 2 * ((((by_c w (8 * (m : Int))) - 1) % 6)).toNat)), zv_i (f + (((by_c w (8 * (m : Int))) - 1) / 6))] τ_6
          refine zr_get (v := zv_i (τ_6 (8 + 2 * ((((by_c w (8 * (m : Int))) - 1) % 6)).toNat) 0)) (pc := 80) C 0 none dX1_cutAsTold_80 fX1_58 (hn_kind (by omega)) (hs_kind (by omega)) rfl rfl ?_
          refine zr_iadd (pc := 83) C dX1_cutAsTold_83 ?_
          refine zr_iconst (pc := 84) C dX1_cutAsTold_84 ?_
          refine zr_iadd (pc := 85) C dX1_cutAsTold_85 ?_
          refine zr_istore_n (L' := [(3, zv_i (((f + (((by_c w (8 * (m : Int))) - 1) / 6)) + (τ_6 (8 + 2 * ((((by_c w (8 * (m : Int))) - 1) % 6)).toNat) 0)) + 1)), (7, zv_i (f + (((by_c w (8 * (m : Int))) - 1) / 6))), (6, zv_i (((by_c w (8 * (m : Int))) - 1) % 6)), (5, zv_i (by_c w (8 * (m : Int)))), (0, .ref (g.2.2.1 1)), (1, .long w), (4, zv_i (8 * (m : Int)))]) (pc := 86) C dX1_cutAsTold_86 (by decide) rfl ?_
          refine zr_iinc (L' := [(4, zv_i ((8 * (m : Int)) + 8)), (3, zv_i (((f + (((by_c w (8 * (m : Int))) - 1) / 6)) + (τ_6 (8 + 2 * ((((by_c w (8 * (m : Int))) - 1) % 6)).toNat) 0)) + 1)), (7, zv_i (f + (((by_c w (8 * (m : Int))) - 1) / 6))), (6, zv_i (((by_c w (8 * (m : Int))) - 1) % 6)), (5, zv_i (by_c w (8 * (m : Int)))), (0, .ref (g.2.2.1 1)), (1, .long w)]) (pc := 87) C dX1_cutAsTold_87 6 rfl (by decide) rfl ?_
          refine zr_goto (pc := 90) C 12 dX1_cutAsTold_90 (by decide) ?_
          obtain ⟨fz, -, hyes⟩ := h_7
          obtain ⟨c1, c2, c3, c4⟩ := hyes h_8
          have ha : bk_a σ0 n (f + (by_c w (8 * (m : Int)) - 1) / 6) ((by_c w (8 * (m : Int)) - 1) % 6) := eaa.mp h_8
          have hlen : τ_6 (8 + 2 * ((by_c w (8 * (m : Int)) - 1) % 6).toNat) 0 = bk_n σ0 ((by_c w (8 * (m : Int)) - 1) % 6) := (fz _ (by simp; omega) 0).trans (fr _ (by simp; omega) 0)
          have l1 : 0 < bk_n σ0 ((by_c w (8 * (m : Int)) - 1) % 6) := ha.1
          have l2 : f + (by_c w (8 * (m : Int)) - 1) / 6 + bk_n σ0 ((by_c w (8 * (m : Int)) - 1) % 6) ≤ n := ha.2.1
          refine zr_sub [5, 6, 1, 0] rfl ?_
          rw [hlen]
          exact ih τ_6 (m + 1) (f + (by_c w (8 * (m : Int)) - 1) / 6 + bk_n σ0 ((by_c w (8 * (m : Int)) - 1) % 6) + 1) (l ++ [(f + (by_c w (8 * (m : Int)) - 1) / 6, (by_c w (8 * (m : Int)) - 1) % 6)]) (by omega) (by omega) (by_fy hf (by omega) ha) (by omega) (zf_t fr fz (by simp) (by simp)) (by rw [c1, List.length_append]; simp) (by rw [c2, bk_Sa, hv, evv]) (bk_Ra hR (fun j y1 y2 => c3 j y2) (by
            obtain ⟨z0, z1, z2, z3, z4, z5⟩ := c4
            exact ⟨z0, z1, by rw [z2, ett], by rw [z3, ett], by rw [z4, egg], by rw [z5, evv]⟩)) (bk_Wa hW (by omega) ⟨by omega, by omega, ⟨by omega, by omega⟩, ha⟩) (by rw [List.length_append]; simp; omega)
        · 
          refine zr_iconst (pc := 69) C dX1_cutAsTold_69 ?_
          exact zr_iret (pc := 70) C hr dX1_cutAsTold_70 rfl (hQn (by_f8 (by_fn hf (by omega) (fun z => h_8 (eaa.mpr z))) (by omega)) _ τ_6 rfl (zf_w (zf_t fr (h_7.2.1 h_8) (by simp) (by simp) (es := [5, 6, q, q + 1])) (by simp)))
      · 
        refine zr_goto (pc := 35) C 87 dX1_cutAsTold_35 (by decide) ?_
        refine zr_iinc (L' := [(4, zv_i ((8 * (m : Int)) + 8)), (5, zv_i (by_c w (8 * (m : Int)))), (0, .ref (g.2.2.1 1)), (1, .long w), (3, zv_i f)]) (pc := 87) C dX1_cutAsTold_87 4 rfl (by decide) rfl ?_
        refine zr_goto (pc := 90) C 12 dX1_cutAsTold_90 (by decide) ?_
        refine zr_sub [2, 3, 4, 0] rfl ?_
        exact ih σ (m + 1) f l (by omega) (by omega) (by_f0 hf h_5) hf0 fr hc hv hR hW (by omega)

set_option maxRecDepth 20000 in
set_option maxHeartbeats 4000000 in
theorem m_cutAsTold (g : zg_G) (σ : zs_S) (n : Int) (hg : (g.2.2.2 : Int) = n) (w : Int64) (q b : Nat) (hq : zs_q q) (hb : zs_q b) (hqb : q ≠ b) (hS : ks_s σ n) (hK : ks_k σ) (hb4 : σ 1 4 = b) (hs5 : σ 1 5 = q) : zm_Met g mX1_cutAsTold σ [.ref (g.2.2.1 1), .long w] (fun v τ => (by_f σ n w 8 = none → v = some (zv_i (-1)) ∧ zf_x σ τ [5, 6, q, q + 1]) ∧ (∀ f l, by_f σ n w 8 = some (f, l) → v = some (zv_i (bk_S σ l)) ∧ τ q 0 = l.length ∧ (l.length : Int) ≤ 8 ∧ bk_R σ (τ (q + 1)) l ∧ bk_W σ n (n + 1) l ∧ τ 1 4 = q ∧ τ 1 5 = b ∧ zf_x σ τ [1, 5, 6, q, q + 1])) := by
  refine zm_of (by decide +kernel) (Nat.le_of_ble_eq_true rfl) ?_
  intro k C hr
  show zw_W g mX1_cutAsTold k 0 [(0, .ref (g.2.2.1 1)), (1, .long w)] [] σ
  obtain ⟨hn1, hn2, hlast, hd, hgd⟩ := id hS
  refine zr_aload_n (pc := 0) C dX1_cutAsTold_0 0 rfl ?_
  refine zr_get (v := .ref (g.2.2.1 (σ 1 5).toNat)) (pc := 1) C 5 (some none) dX1_cutAsTold_1 fX1_24 (by decide) (hs_1 _) rfl rfl ?_
  rw [hs5]
  show zw_W g mX1_cutAsTold k 4 [(0, .ref (g.2.2.1 1)), (1, .long w)] [.ref (g.2.2.1 (q))] σ
  refine zr_callV (As := []) (rest := []) (b := q) (pc := 4) C dX1_cutAsTold_4 kX3_clear vX1_51 rfl (by decide) (hn_cut hq) (hs_cut hq) rfl (Nat.le_of_ble_eq_true rfl) (m_clear g σ q hq) (fun v_ τ_ h_ => ?_)
  obtain ⟨rfl, h_2⟩ := h_
  generalize τ_ = τ_1 at h_2 ⊢
  show zw_W g mX1_cutAsTold k 7 [(0, .ref (g.2.2.1 1)), (1, .long w)] [] τ_1
  refine zr_iconst (pc := 7) C dX1_cutAsTold_7 ?_
  refine zr_istore_n (L' := [(3, zv_i 0), (0, .ref (g.2.2.1 1)), (1, .long w)]) (pc := 8) C dX1_cutAsTold_8 (by decide) rfl ?_
  refine zr_iconst (pc := 9) C dX1_cutAsTold_9 ?_
  refine zr_istore (L' := [(4, zv_i 0), (3, zv_i 0), (0, .ref (g.2.2.1 1)), (1, .long w)]) (pc := 10) C dX1_cutAsTold_10 (by decide) rfl ?_
  obtain ⟨y1, y2, y3⟩ := h_2
  refine zr_sub [2, 3, 1, 0] rfl ?_
  exact l_told C hr n hg w q b hq hb hqb σ hS hK hb4 hs5 (fun h1 v τ h2 h3 => ⟨fun _ => ⟨h2, h3⟩, fun f l h => by rw [h1] at h; cases h⟩) (fun f l h1 v τ h2 h3 => ⟨fun h => (by rw [h1] at h; cases h), fun f' l' h => (by rw [h1] at h; cases h; exact ⟨h2, h3⟩)⟩) 9 τ_1 0 0 [] (by omega) (by omega) rfl (by omega) (zf_w y3 (by simp)) (by rw [y1]; rfl) (by rw [y2]; rfl) (fun i p j h => by simp at h) (fun z hz => by simp at hz) (by simp)
