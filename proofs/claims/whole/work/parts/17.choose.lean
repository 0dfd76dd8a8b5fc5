set_option maxRecDepth 20000 in
set_option maxHeartbeats 4000000 in
theorem l_choose {g : zg_G} {k : zk_T} {Q : Option Value → zs_S → Prop} (C : zk_ok g mX1_choose k) (hr : zk_ret g mX1_choose Q k) (n : Int) (hg : (g.2.2.2 : Int) = n) (p : Int) (σ0 : zs_S) (hS : ks_s σ0 n) (hK : ks_k σ0) (hp : 0 ≤ p ∧ p ≤ n) (hB : bk_b n p (σ0 20)) (hQ : ∀ τ, zf_x σ0 τ [5, 6, 20, 21] → (∀ x, x ≠ p → τ 20 x = σ0 20 x) → (∀ x, x ≠ p → τ 21 x = σ0 21 x) → τ 20 p = (bk_f σ0 n p (σ0 20) 6).1 → τ 21 p = (bk_f σ0 n p (σ0 20) 6).2 → Q none τ) : ∀ (N : Nat) (σ : zs_S) (a : Int), (6 - a).toNat < N → (0 ≤ a ∧ a ≤ 6) → (zf_x σ0 σ [5, 6, 20, 21]) → (∀ x, x ≠ p → σ 20 x = σ0 20 x) → (∀ x, x ≠ p → σ 21 x = σ0 21 x) → (σ 20 p = (bk_f σ0 n p (σ0 20) a.toNat).1) → (σ 21 p = (bk_f σ0 n p (σ0 20) a.toNat).2) → (ks_l σ n p) → zw_W g mX1_choose k 31 [(0, .ref (g.2.2.1 1)), (1, zv_i p), (2, zv_i a)] [] σ := by
  intro N
  induction N with
  | zero =>
    intro σ a hN
    exact absurd hN (by omega)
  | succ N ih =>
    intro σ a hN ha0 fr h20 h21 hb hc hl
    obtain ⟨hn1, hn2, hlast, hd, hgd⟩ := id hS
    have hS1 : ks_s σ n := ks_sx hS (fun i => fr 2 (by decide) i) (fun i => fr 3 (by decide) i) (fun i => fr 4 (by decide) i)
    have hK1 : ks_k σ := ks_kx hK (fun c h1 h2 i => fr c (by simp; omega) i)
    have fb := bk_fb hS hK hp hB a.toNat (by omega)
    refine zr_iload_n (pc := 31) C dX1_choose_31 2 rfl ?_
    refine zr_bipush (pc := 32) C dX1_choose_32 (by decide) ?_
    refine zr_icmp_ge (pc := 34) C 111 dX1_choose_34 (by decide) (by omega) (by omega) (fun h_1 => ?_) (fun h_1 => ?_)
    · exact zr_vret (pc := 111) C hr dX1_choose_111 rfl (by
            have h6 : a.toNat = 6 := by omega
            rw [h6] at hb hc
            exact hQ σ fr h20 h21 hb hc)
    · obtain ⟨ep, en, et, eg⟩ := bk_pc (n := n) (p := p) (j := a) (σ := σ0) (τ := σ) (fun i => fr 3 (by decide) i) (fun i => fr 4 (by decide) i) ⟨by omega, by omega⟩ (fun c h1 h2 i => fr c (by simp; omega) i)
      obtain ⟨ea, ev⟩ := bk_ac (n := n) (p := p) (j := a) (σ := σ0) (τ := σ) (fun i => fr 3 (by decide) i) (fun i => fr 4 (by decide) i) ⟨by omega, by omega⟩ (fun c h1 h2 i => fr c (by simp; omega) i)
      have pr := bk_pr hS1 hK1 (j := a) ⟨by omega, by omega⟩ (p := p) (by omega)
      refine zr_aload_n (pc := 37) C dX1_choose_37 0 rfl ?_
      refine zr_iload_n (pc := 38) C dX1_choose_38 1 rfl ?_
      refine zr_aload_n (pc := 39) C dX1_choose_39 0 rfl ?_
      refine zr_get (v := .ref (g.2.2.1 7)) (pc := 40) C 1 (some (some 7)) dX1_choose_40 fX1_11 (by decide) (hs_1 _) rfl rfl ?_
      refine zr_iload_n (pc := 43) C dX1_choose_43 2 rfl ?_
      refine zr_aaload (pc := 44) C dX1_choose_44 (by decide) (hs_7 _) (by decide) (by omega) (by decide) ?_
      show zw_W g mX1_choose k 45 [(0, .ref (g.2.2.1 1)), (1, zv_i p), (2, zv_i a)] [.ref (g.2.2.1 (8 + 2 * a.toNat)), zv_i p, .ref (g.2.2.1 1)] σ
      refine zr_callV (As := [zv_i p, .ref (g.2.2.1 (8 + 2 * a.toNat))]) (rest := []) (b := 1) (pc := 45) C dX1_choose_45 kX1_priceFrom vX1_68 rfl (by decide) (by decide) (hs_1 _) rfl (Nat.le_of_ble_eq_true rfl) (m_price g σ n hg p a (by omega) (by omega) (by exact hS1) (by exact hK1) (by exact hl)) (fun v_ τ_ h_ => ?_)
      obtain ⟨rfl, rfl⟩ := h_
      show zw_W g mX1_choose k 48 [(0, .ref (g.2.2.1 1)), (1, zv_i p), (2, zv_i a)] [zv_i (bk_p σ n p a)] σ
      refine zr_istore_n (L' := [(3, zv_i (bk_p σ n p a)), (0, .ref (g.2.2.1 1)), (1, zv_i p), (2, zv_i a)]) (pc := 48) C dX1_choose_48 (by decide) rfl ?_
      refine zr_iload_n (pc := 49) C dX1_choose_49 0 rfl ?_
      refine zr_iconst (pc := 50) C dX1_choose_50 ?_
      refine zr_icmp_ne (pc := 51) C 57 dX1_choose_51 (by decide) (by omega) (by omega) (fun h_2 => ?_) (fun h_2 => ?_)
      · 
        have ha1 : bk_a σ n p a := bk_pa h_2
        have ha : bk_a σ0 n p a := ea.mp ha1
        have a1 : 0 < σ (8 + 2 * a.toNat) 0 := ha1.1
        have a2 : p + σ (8 + 2 * a.toNat) 0 ≤ n := ha1.2.1
        have epv : bk_p σ n p a = bk_v σ0 p a := by rw [bk_pp ha1, ev]
        have en1 : bk_n σ0 a = σ (8 + 2 * a.toNat) 0 := en.symm
        have hB1 := hB (p + σ (8 + 2 * a.toNat) 0 + 1) (by omega) (by omega)
        have e20 : σ 20 (p + σ (8 + 2 * a.toNat) 0 + 1) = σ0 20 (p + σ (8 + 2 * a.toNat) 0 + 1) := h20 _ (by omega)
        refine zr_iload_n (pc := 57) C dX1_choose_57 0 rfl ?_
        refine zr_aload_n (pc := 58) C dX1_choose_58 1 rfl ?_
        refine zr_get (v := .ref (g.2.2.1 20)) (pc := 59) C 2 (some (some 20)) dX1_choose_59 fX1_36 (by decide) (hs_1 _) rfl rfl ?_
        refine zr_iload_n (pc := 62) C dX1_choose_62 2 rfl ?_
        refine zr_aload_n (pc := 63) C dX1_choose_63 1 rfl ?_
        refine zr_get (v := .ref (g.2.2.1 7)) (pc := 64) C 1 (some (some 7)) dX1_choose_64 fX1_11 (by decide) (hs_1 _) rfl rfl ?_
        refine zr_iload_n (pc := 67) C dX1_choose_67 3 rfl ?_
        refine zr_aaload (pc := 68) C dX1_choose_68 (by decide) (hs_7 _) (by decide) (by omega) (by decide) ?_
        show zw_W g mX1_choose k 69 [(3, zv_i (bk_p σ n p a)), (0, .ref (g.2.2.1 1)), (1, zv_i p), (2, zv_i a)] [.ref (g.2.2.1 (8 + 2 * a.toNat)), zv_i p, .ref (g.2.2.1 20), zv_i (bk_p σ n p a)] σ
        refine zr_get (v := zv_i (σ (8 + 2 * a.toNat) 0)) (pc := 69) C 0 none dX1_choose_69 fX1_58 (hn_kind (by omega)) (hs_kind (by omega)) rfl rfl ?_
        refine zr_iadd (pc := 72) C dX1_choose_72 ?_
        refine zr_iconst (pc := 73) C dX1_choose_73 ?_
        refine zr_iadd (pc := 74) C dX1_choose_74 ?_
        refine zr_iaload (pc := 75) C dX1_choose_75 (by decide) (hs_20 _) (by omega) (by omega) ?_
        refine zr_iadd (pc := 76) C dX1_choose_76 ?_
        refine zr_istore (L' := [(4, zv_i ((bk_p σ n p a) + (σ 20 ((p + (σ (8 + 2 * a.toNat) 0)) + 1)))), (3, zv_i (bk_p σ n p a)), (0, .ref (g.2.2.1 1)), (1, zv_i p), (2, zv_i a)]) (pc := 77) C dX1_choose_77 (by decide) rfl ?_
        refine zr_iload (pc := 79) C dX1_choose_79 0 rfl ?_
        refine zr_aload_n (pc := 81) C dX1_choose_81 2 rfl ?_
        refine zr_get (v := .ref (g.2.2.1 20)) (pc := 82) C 2 (some (some 20)) dX1_choose_82 fX1_36 (by decide) (hs_1 _) rfl rfl ?_
        refine zr_iload_n (pc := 85) C dX1_choose_85 3 rfl ?_
        refine zr_iaload (pc := 86) C dX1_choose_86 (by decide) (hs_20 _) (by omega) (by omega) ?_
        refine zr_icmp_le (pc := 87) C 105 dX1_choose_87 (by decide) (by rw [e20] at *; omega) (by rw [hb]; omega) (fun h_3 => ?_) (fun h_3 => ?_)
        · 
          refine zr_iinc (L' := [(2, zv_i (a + 1)), (4, zv_i ((bk_p σ n p a) + (σ 20 ((p + (σ (8 + 2 * a.toNat) 0)) + 1)))), (3, zv_i (bk_p σ n p a)), (0, .ref (g.2.2.1 1)), (1, zv_i p)]) (pc := 105) C dX1_choose_105 4 rfl (by decide) rfl ?_
          refine zr_goto (pc := 108) C 31 dX1_choose_108 (by decide) ?_
          have hne : ¬ (bk_a σ0 n p a ∧ (bk_f σ0 n p (σ0 20) a.toNat).1 < bk_v σ0 p a + σ0 20 (p + bk_n σ0 a + 1)) := fun z => by
            have z2 := z.2
            rw [en1, ← e20, ← epv, ← hb] at z2
            omega
          refine zr_sub [3, 4, 0] rfl ?_
          exact ih σ (a + 1) (by omega) (by omega) fr h20 h21 (by rw [bk_fni (by omega) hne]; exact hb) (by rw [bk_fni (by omega) hne]; exact hc) hl
        · 
          refine zr_aload_n (pc := 90) C dX1_choose_90 2 rfl ?_
          refine zr_get (v := .ref (g.2.2.1 20)) (pc := 91) C 2 (some (some 20)) dX1_choose_91 fX1_36 (by decide) (hs_1 _) rfl rfl ?_
          refine zr_iload_n (pc := 94) C dX1_choose_94 3 rfl ?_
          refine zr_iload (pc := 95) C dX1_choose_95 0 rfl ?_
          refine zr_iastore (pc := 97) C dX1_choose_97 (by decide) (hs_20 _) (by omega) (by omega) (fun τ_4 e_5 => ?_)
          refine zr_aload_n (pc := 98) C dX1_choose_98 2 rfl ?_
          refine zr_get (v := .ref (g.2.2.1 21)) (pc := 99) C 3 (some (some 21)) dX1_choose_99 fX1_40 (by decide) (hs_1 _) rfl rfl ?_
          refine zr_iload_n (pc := 102) C dX1_choose_102 3 rfl ?_
          refine zr_iload_n (pc := 103) C dX1_choose_103 4 rfl ?_
          refine zr_iastore (pc := 104) C dX1_choose_104 (by decide) (hs_21 _) (by omega) (by omega) (fun τ_6 e_7 => ?_)
          refine zr_iinc (L' := [(2, zv_i (a + 1)), (4, zv_i ((bk_p σ n p a) + (σ 20 ((p + (σ (8 + 2 * a.toNat) 0)) + 1)))), (3, zv_i (bk_p σ n p a)), (0, .ref (g.2.2.1 1)), (1, zv_i p)]) (pc := 105) C dX1_choose_105 4 rfl (by decide) rfl ?_
          refine zr_goto (pc := 108) C 31 dX1_choose_108 (by decide) ?_
          have hy : bk_f σ0 n p (σ0 20) (a + 1).toNat = (bk_p σ n p a + σ 20 (p + σ (8 + 2 * a.toNat) 0 + 1), a) := by
            rw [bk_fyi (by omega) ha (by rw [en1, ← e20, ← epv, ← hb]; omega), en1, ← e20, ← epv]
          refine zr_sub [3, 4, 0] rfl ?_
          exact ih τ_6 (a + 1) (by omega) (by omega) (zf_p (zf_p fr e_5 (by decide)) e_7 (by decide)) (fun x hx => by rw [e_7, zs_put_ne (by decide), e_5, zs_put_off hx]; exact h20 x hx) (fun x hx => by rw [e_7, zs_put_off hx, e_5, zs_put_ne (by decide)]; exact h21 x hx) (by rw [hy, e_7, zs_put_ne (by decide), e_5, zs_put_self]) (by rw [hy, e_7, zs_put_self]) (fun j h1 h2 => by
            have q1 : ∀ c, c ≠ 20 → c ≠ 21 → τ_6 c = σ c := fun c x y => funext fun i => by rw [e_7, zs_put_ne y, e_5, zs_put_ne x]
            rw [q1 5 (by decide) (by decide), q1 6 (by decide) (by decide), q1 3 (by decide) (by decide), q1 4 (by decide) (by decide)]
            exact hl j h1 h2)
      · 
        refine zr_goto (pc := 54) C 105 dX1_choose_54 (by decide) ?_
        refine zr_iinc (L' := [(2, zv_i (a + 1)), (3, zv_i (bk_p σ n p a)), (0, .ref (g.2.2.1 1)), (1, zv_i p)]) (pc := 105) C dX1_choose_105 3 rfl (by decide) rfl ?_
        refine zr_goto (pc := 108) C 31 dX1_choose_108 (by decide) ?_
        refine zr_sub [2, 3, 0] rfl ?_
        exact ih σ (a + 1) (by omega) (by omega) fr h20 h21 (by rw [bk_fni (by omega) (fun z => bk_pz hS1 hK1 ⟨by omega, by omega⟩ (by omega) h_2 (ea.mpr z.1))]; exact hb) (by rw [bk_fni (by omega) (fun z => bk_pz hS1 hK1 ⟨by omega, by omega⟩ (by omega) h_2 (ea.mpr z.1))]; exact hc) hl

set_option maxRecDepth 20000 in
set_option maxHeartbeats 4000000 in
theorem m_choose (g : zg_G) (σ : zs_S) (n : Int) (hg : (g.2.2.2 : Int) = n) (p : Int) (hS : ks_s σ n) (hK : ks_k σ) (hp : 0 ≤ p ∧ p ≤ n) (hB : bk_b n p (σ 20)) : zm_Met g mX1_choose σ [.ref (g.2.2.1 1), zv_i p] (fun v τ => v = none ∧ zf_x σ τ [5, 6, 20, 21] ∧ (∀ x, x ≠ p → τ 20 x = σ 20 x) ∧ (∀ x, x ≠ p → τ 21 x = σ 21 x) ∧ τ 20 p = (bk_f σ n p (σ 20) 6).1 ∧ τ 21 p = (bk_f σ n p (σ 20) 6).2) := by
  refine zm_of (by decide +kernel) (Nat.le_of_ble_eq_true rfl) ?_
  intro k C hr
  show zw_W g mX1_choose k 0 [(0, .ref (g.2.2.1 1)), (1, zv_i p)] [] σ
  obtain ⟨hn1, hn2, hlast, hd, hgd⟩ := id hS
  refine zr_aload_n (pc := 0) C dX1_choose_0 0 rfl ?_
  refine zr_get (v := .ref (g.2.2.1 2)) (pc := 1) C 0 (some (some 2)) dX1_choose_1 fX1_32 (by decide) (hs_1 _) rfl rfl ?_
  refine zr_iload_n (pc := 4) C dX1_choose_4 1 rfl ?_
  refine zr_callV (As := [zv_i p]) (rest := []) (b := 2) (pc := 5) C dX1_choose_5 kX9_lookFrom vX1_65 rfl (by decide) (by decide) (hs_2 _) rfl (Nat.le_of_ble_eq_true rfl) (m_look g σ n hg p (by exact hS) (by exact hp)) (fun v_ τ_ h_ => ?_)
  obtain ⟨rfl, h_2⟩ := h_
  generalize τ_ = τ_1 at h_2 ⊢
  show zw_W g mX1_choose k 8 [(0, .ref (g.2.2.1 1)), (1, zv_i p)] [] τ_1
  refine zr_aload_n (pc := 8) C dX1_choose_8 0 rfl ?_
  refine zr_get (v := .ref (g.2.2.1 20)) (pc := 9) C 2 (some (some 20)) dX1_choose_9 fX1_36 (by decide) (hs_1 _) rfl rfl ?_
  refine zr_iload_n (pc := 12) C dX1_choose_12 1 rfl ?_
  refine zr_aload_n (pc := 13) C dX1_choose_13 0 rfl ?_
  refine zr_get (v := .ref (g.2.2.1 20)) (pc := 14) C 2 (some (some 20)) dX1_choose_14 fX1_36 (by decide) (hs_1 _) rfl rfl ?_
  refine zr_iload_n (pc := 17) C dX1_choose_17 1 rfl ?_
  refine zr_iconst (pc := 18) C dX1_choose_18 ?_
  refine zr_iadd (pc := 19) C dX1_choose_19 ?_
  refine zr_iaload (pc := 20) C dX1_choose_20 (by decide) (hs_20 _) (by omega) (by omega) ?_
  refine zr_iastore (pc := 21) C dX1_choose_21 (by decide) (hs_20 _) (by omega) (by omega) (fun τ_3 e_4 => ?_)
  refine zr_aload_n (pc := 22) C dX1_choose_22 0 rfl ?_
  refine zr_get (v := .ref (g.2.2.1 21)) (pc := 23) C 3 (some (some 21)) dX1_choose_23 fX1_40 (by decide) (hs_1 _) rfl rfl ?_
  refine zr_iload_n (pc := 26) C dX1_choose_26 1 rfl ?_
  refine zr_iconst (pc := 27) C dX1_choose_27 ?_
  refine zr_iastore (pc := 28) C dX1_choose_28 (by decide) (hs_21 _) (by omega) (by omega) (fun τ_5 e_6 => ?_)
  refine zr_iconst (pc := 29) C dX1_choose_29 ?_
  refine zr_istore_n (L' := [(2, zv_i 0), (0, .ref (g.2.2.1 1)), (1, zv_i p)]) (pc := 30) C dX1_choose_30 (by decide) rfl ?_
  refine zr_sub [1, 2, 0] rfl ?_
  have q1 : ∀ c, c ≠ 20 → c ≠ 21 → τ_5 c = τ_1 c := fun c x y => funext fun i => by rw [e_6, zs_put_ne y, e_4, zs_put_ne x]
  exact l_choose C hr n hg p σ hS hK hp hB (fun τ h1 h2 h3 h4 h5 => ⟨rfl, h1, h2, h3, h4, h5⟩) 7 τ_5 0 (by omega) (by omega) (zf_p (zf_p (zf_w h_2.1 (by simp)) e_4 (by decide)) e_6 (by decide)) (fun x hx => by rw [e_6, zs_put_ne (by decide), e_4, zs_put_off hx, h_2.1 20 (by decide)]) (fun x hx => by rw [e_6, zs_put_off hx, e_4, zs_put_ne (by decide), h_2.1 21 (by decide)]) (by rw [e_6, zs_put_ne (by decide), e_4, zs_put_self, h_2.1 20 (by decide)]; rfl) (by rw [e_6, zs_put_self]; rfl) (fun j h1 h2 => by
    rw [q1 5 (by decide) (by decide), q1 6 (by decide) (by decide), q1 3 (by decide) (by decide), q1 4 (by decide) (by decide)]
    exact h_2.2 j h1 h2)
