set_option maxRecDepth 20000 in
set_option maxHeartbeats 4000000 in
theorem n_put (g : zg_G) (σ : zs_S) (j w x c : Int) (hj : 0 ≤ j ∧ j < 6) (hc : σ 67 20 = c) (hcc : 0 ≤ c ∧ c ≤ 599) : zm_Met g mX11_put σ [.ref (g.2.2.1 67), zv_i j, zv_i w, zv_i x] (fun v τ => v = none ∧ bo_P σ τ c j w x) := by
  refine zm_of (by decide +kernel) (Nat.le_of_ble_eq_true rfl) ?_
  intro k C hr
  show zw_W g mX11_put k 0 [(0, .ref (g.2.2.1 67)), (1, zv_i j), (2, zv_i w), (3, zv_i x)] [] σ
  refine zr_iconst (pc := 0) C dX11_put_0 ?_
  refine zr_aload_n (pc := 1) C dX11_put_1 0 rfl ?_
  refine zr_get (v := zv_i (σ 67 20)) (pc := 2) C 20 none dX11_put_2 fX11_155 (by decide) (hs_67 _) rfl rfl ?_
  refine zr_imul (pc := 5) C dX11_put_5 ?_
  refine zr_istore (L' := [(4, zv_i (4 * (σ 67 20))), (0, .ref (g.2.2.1 67)), (1, zv_i j), (2, zv_i w), (3, zv_i x)]) (pc := 6) C dX11_put_6 (by decide) rfl ?_
  refine zr_aload_n (pc := 8) C dX11_put_8 1 rfl ?_
  refine zr_get (v := .ref (g.2.2.1 83)) (pc := 9) C 22 (some (some 83)) dX11_put_9 fX11_55 (by decide) (hs_67 _) rfl rfl ?_
  refine zr_iload (pc := 12) C dX11_put_12 0 rfl ?_
  refine zr_iload_n (pc := 14) C dX11_put_14 2 rfl ?_
  refine zr_iastore (pc := 15) C dX11_put_15 (by decide) (hs_83 _) (by omega) (by decide) (fun τ_1 e_2 => ?_)
  refine zr_aload_n (pc := 16) C dX11_put_16 1 rfl ?_
  refine zr_get (v := .ref (g.2.2.1 83)) (pc := 17) C 22 (some (some 83)) dX11_put_17 fX11_55 (by decide) (hs_67 _) rfl rfl ?_
  refine zr_iload (pc := 20) C dX11_put_20 0 rfl ?_
  refine zr_iconst (pc := 22) C dX11_put_22 ?_
  refine zr_iadd (pc := 23) C dX11_put_23 ?_
  refine zr_iload_n (pc := 24) C dX11_put_24 3 rfl ?_
  refine zr_iastore (pc := 25) C dX11_put_25 (by decide) (hs_83 _) (by omega) (by decide) (fun τ_3 e_4 => ?_)
  refine zr_aload_n (pc := 26) C dX11_put_26 1 rfl ?_
  refine zr_get (v := .ref (g.2.2.1 83)) (pc := 27) C 22 (some (some 83)) dX11_put_27 fX11_55 (by decide) (hs_67 _) rfl rfl ?_
  refine zr_iload (pc := 30) C dX11_put_30 0 rfl ?_
  refine zr_iconst (pc := 32) C dX11_put_32 ?_
  refine zr_iadd (pc := 33) C dX11_put_33 ?_
  refine zr_iload_n (pc := 34) C dX11_put_34 4 rfl ?_
  refine zr_iastore (pc := 35) C dX11_put_35 (by decide) (hs_83 _) (by omega) (by decide) (fun τ_5 e_6 => ?_)
  refine zr_aload_n (pc := 36) C dX11_put_36 1 rfl ?_
  refine zr_get (v := .ref (g.2.2.1 83)) (pc := 37) C 22 (some (some 83)) dX11_put_37 fX11_55 (by decide) (hs_67 _) rfl rfl ?_
  refine zr_iload (pc := 40) C dX11_put_40 0 rfl ?_
  refine zr_iconst (pc := 42) C dX11_put_42 ?_
  refine zr_iadd (pc := 43) C dX11_put_43 ?_
  refine zr_aload_n (pc := 44) C dX11_put_44 1 rfl ?_
  refine zr_get (v := .ref (g.2.2.1 84)) (pc := 45) C 23 (some (some 84)) dX11_put_45 fX11_58 (by decide) (hs_67 _) rfl rfl ?_
  refine zr_iload_n (pc := 48) C dX11_put_48 2 rfl ?_
  refine zr_iaload (pc := 49) C dX11_put_49 (by decide) (hs_84 _) (by omega) (by decide) ?_
  have hv3 : τ_5 84 j = σ 84 j := by rw [e_6, zs_put_ne (by decide), e_4, zs_put_ne (by decide), e_2, zs_put_ne (by decide)]
  refine zr_iastore (pc := 50) C dX11_put_50 (by decide) (hs_83 _) (by omega) (by decide) (fun τ_7 e_8 => ?_)
  have hv6 : τ_7 67 20 = c := by rw [e_8, zs_put_ne (by decide), e_6, zs_put_ne (by decide), e_4, zs_put_ne (by decide), e_2, zs_put_ne (by decide)]; exact hc
  refine zr_aload_n (pc := 51) C dX11_put_51 1 rfl ?_
  refine zr_dup (pc := 52) C dX11_put_52 rfl ?_
  refine zr_get (v := zv_i (τ_7 67 20)) (pc := 53) C 20 none dX11_put_53 fX11_155 (by decide) (hs_67 _) rfl rfl ?_
  refine zr_iconst (pc := 56) C dX11_put_56 ?_
  refine zr_iadd (pc := 57) C dX11_put_57 ?_
  refine zr_put (pc := 58) C 20 20 rfl dX11_put_58 pX11_155 (by decide) (hs_67 _) rfl (fun τ_9 e_10 => ?_)
  exact zr_vret (pc := 61) C hr dX11_put_61 rfl (⟨rfl, by rw [e_10, zs_put_self, hv6], fun y hy => by rw [e_10, zs_put_ne (by decide), e_8, zs_put_off (by omega), e_6, zs_put_off (by omega), e_4, zs_put_off (by omega), e_2, zs_put_off (by omega)], ⟨by rw [e_10, zs_put_ne (by decide), e_8, zs_put_off (by omega), e_6, zs_put_off (by omega), e_4, zs_put_off (by omega), e_2, zs_put_at, if_pos (by omega)], by rw [e_10, zs_put_ne (by decide), e_8, zs_put_off (by omega), e_6, zs_put_off (by omega), e_4, zs_put_at, if_pos (by omega)], by rw [e_10, zs_put_ne (by decide), e_8, zs_put_off (by omega), e_6, zs_put_at, if_pos (by omega)], by rw [e_10, zs_put_ne (by decide), e_8, zs_put_at, if_pos (by omega), hv3]⟩, fun y hy => by rw [e_10, zs_put_off hy, e_8, zs_put_ne (by decide), e_6, zs_put_ne (by decide), e_4, zs_put_ne (by decide), e_2, zs_put_ne (by decide)], zf_p (zf_p (zf_p (zf_p (zf_p (zf_r σ [67, 83]) e_2 (by decide)) e_4 (by decide)) e_6 (by decide)) e_8 (by decide)) e_10 (by decide)⟩)

set_option maxRecDepth 20000 in
set_option maxHeartbeats 4000000 in
theorem l_layR {g : zg_G} {k : zk_T} {Q : Option Value → zs_S → Prop} (C : zk_ok g mX11_lay k) (hr : zk_ret g mX11_lay Q k) (st : Int → Int) (gp : Int) (σc : zs_S) (hgp : (0 ≤ gp ∧ gp ≤ 100) ∧ σc 67 17 = gp) (hst : ∀ k : Int, 0 ≤ k → k < 6 → σc 76 k + gp = st k) (ch : Int) (l1 : List Int) (hb1 : bo_A (σc 87) 0 l1) (hm1 : ∀ x ∈ l1, 0 ≤ x ∧ x < 6) (hl1 : (l1.length : Int) ≤ 200) (hex : ∀ σ1, (zf_x σc σ1 [67, 83] ∧ (∀ y, y ≠ 20 → σ1 67 y = σc 67 y)) → σ1 67 20 = l1.length → bo_R (σ1 83) (σc 84) (bo_r st l1 0) → zw_W g mX11_lay k 74 [(0, .ref (g.2.2.1 67)), (1, zv_i ch)] [] σ1) : ∀ (N : Nat) (σ : zs_S) (la lb : List Int), lb.length < N → (l1 = la ++ lb) → (zf_x σc σ [67, 83] ∧ (∀ y, y ≠ 20 → σ 67 y = σc 67 y)) → (σ 67 20 = la.length) → (bo_R (σ 83) (σc 84) (bo_r st la 0)) → zw_W g mX11_lay k 28 [(0, .ref (g.2.2.1 67)), (1, zv_i ch), (2, zv_i (ch_t st la)), (3, zv_i ((la.length : Int)))] [] σ := by
  intro N
  induction N with
  | zero =>
    intro σ la lb hN
    exact absurd hN (by omega)
  | succ N ih =>
    intro σ la lb hN hll fr hc hR
    have ln : (la.length : Int) ≤ l1.length := by rw [hll]; simp; omega
    have bb : -1 ≤ σ 87 (la.length : Int) ∧ σ 87 (la.length : Int) < 6 := by
      rw [fr.1 87 (by decide)]
      cases lb with
      | nil =>
        subst hll
        have := bo_Ae hb1
        simp only [Int.zero_add] at this
        omega
      | cons x lc =>
        have := bo_Ag (hll ▸ hb1)
        have := hm1 x (by rw [hll]; simp)
        simp only [Int.zero_add] at *
        omega
    refine zr_aload_n (pc := 28) C dX11_lay_28 0 rfl ?_
    refine zr_get (v := .ref (g.2.2.1 87)) (pc := 29) C 26 (some (some 87)) dX11_lay_29 fX11_67 (by decide) (hs_67 _) rfl rfl ?_
    refine zr_iload_n (pc := 32) C dX11_lay_32 3 rfl ?_
    refine zr_iaload (pc := 33) C dX11_lay_33 (by decide) (hs_87 _) (by omega) (by decide) ?_
    refine zr_if_lt (pc := 34) C 74 dX11_lay_34 (by decide) (by omega) (fun h_1 => ?_) (fun h_1 => ?_)
    · have l0 : lb = [] := by
        cases lb with
        | nil => rfl
        | cons x lc =>
          have q := bo_Ag (hll ▸ hb1)
          rw [← fr.1 87 (by decide)] at q
          have := hm1 x (by rw [hll]; simp)
          simp only [Int.zero_add] at q
          omega
      subst l0
      rw [List.append_nil] at hll
      subst hll
      refine zr_sub [0, 1] rfl ?_
      exact hex σ fr hc hR
    · obtain ⟨x, lc, hx⟩ : ∃ x lc, lb = x :: lc := by
        cases lb with
        | cons x lc => exact ⟨x, lc, rfl⟩
        | nil =>
          subst hll
          have := bo_Ae hb1
          rw [← fr.1 87 (by decide)] at this
          simp only [Int.zero_add] at this
          omega
      subst hx
      have e87 : σ 87 (la.length : Int) = x := by
        subst hll
        have := bo_Ag hb1
        rw [← fr.1 87 (by decide)] at this
        simpa using this
      have xb := hm1 x (by rw [hll]; simp)
      have ll : la.length + (lc.length + 1) = l1.length := by rw [hll]; simp
      refine zr_aload_n (pc := 37) C dX11_lay_37 0 rfl ?_
      refine zr_aload_n (pc := 38) C dX11_lay_38 0 rfl ?_
      refine zr_get (v := .ref (g.2.2.1 87)) (pc := 39) C 26 (some (some 87)) dX11_lay_39 fX11_67 (by decide) (hs_67 _) rfl rfl ?_
      refine zr_iload_n (pc := 42) C dX11_lay_42 3 rfl ?_
      refine zr_iaload (pc := 43) C dX11_lay_43 (by decide) (hs_87 _) (by omega) (by decide) ?_
      refine zr_iconst (pc := 44) C dX11_lay_44 ?_
      refine zr_iload_n (pc := 45) C dX11_lay_45 2 rfl ?_
      refine zr_callV (As := [zv_i (σ 87 ((la.length : Int))), zv_i 0, zv_i (ch_t st la)]) (rest := []) (b := 67) (pc := 46) C dX11_lay_46 kX11_put vX11_158 rfl (by decide) (by decide) (hs_67 _) rfl (Nat.le_of_ble_eq_true rfl) (n_put g σ (σ 87 ((la.length : Int))) 0 (ch_t st la) ((la.length : Int)) (by omega) (by exact hc) (by omega)) (fun v_ τ_ h_ => ?_)
      obtain ⟨rfl, h_3⟩ := h_
      generalize τ_ = τ_2 at h_3 ⊢
      show zw_W g mX11_lay k 49 [(0, .ref (g.2.2.1 67)), (1, zv_i ch), (2, zv_i (ch_t st la)), (3, zv_i ((la.length : Int)))] [] τ_2
      have f46 := h_3.2.2.2.2
      have g46 := h_3.2.2.2.1
      have k87 : τ_2 87 (la.length : Int) = x := by rw [f46 87 (by decide)]; exact e87
      refine zr_iload_n (pc := 49) C dX11_lay_49 2 rfl ?_
      refine zr_aload_n (pc := 50) C dX11_lay_50 0 rfl ?_
      refine zr_get (v := .ref (g.2.2.1 76)) (pc := 51) C 12 (some (some 76)) dX11_lay_51 fX11_34 (by decide) (hs_67 _) rfl rfl ?_
      refine zr_aload_n (pc := 54) C dX11_lay_54 0 rfl ?_
      refine zr_get (v := .ref (g.2.2.1 87)) (pc := 55) C 26 (some (some 87)) dX11_lay_55 fX11_67 (by decide) (hs_67 _) rfl rfl ?_
      refine zr_iload_n (pc := 58) C dX11_lay_58 3 rfl ?_
      refine zr_iaload (pc := 59) C dX11_lay_59 (by decide) (hs_87 _) (by omega) (by decide) ?_
      refine zr_iaload (pc := 60) C dX11_lay_60 (by decide) (hs_76 _) (by omega) (by decide) ?_
      refine zr_aload_n (pc := 61) C dX11_lay_61 0 rfl ?_
      refine zr_get (v := zv_i (τ_2 67 17)) (pc := 62) C 17 none dX11_lay_62 fX11_121 (by decide) (hs_67 _) rfl rfl ?_
      refine zr_iadd (pc := 65) C dX11_lay_65 ?_
      refine zr_iadd (pc := 66) C dX11_lay_66 ?_
      refine zr_istore_n (L' := [(2, zv_i ((ch_t st la) + ((τ_2 76 (τ_2 87 ((la.length : Int)))) + (τ_2 67 17)))), (0, .ref (g.2.2.1 67)), (1, zv_i ch), (3, zv_i ((la.length : Int)))]) (pc := 67) C dX11_lay_67 (by decide) rfl ?_
      refine zr_iinc (L' := [(3, zv_i (((la.length : Int)) + 1)), (2, zv_i ((ch_t st la) + ((τ_2 76 (τ_2 87 ((la.length : Int)))) + (τ_2 67 17)))), (0, .ref (g.2.2.1 67)), (1, zv_i ch)]) (pc := 68) C dX11_lay_68 3 rfl (by decide) rfl ?_
      refine zr_goto (pc := 71) C 28 dX11_lay_71 (by decide) ?_
      have h46 := h_3
      obtain ⟨d1, d2, d3, d4, d5⟩ := h46
      refine zr_sub [2, 3, 1, 0] rfl ?_
      have et : ch_t st la + (τ_2 76 (τ_2 87 (la.length : Int)) + τ_2 67 17) = ch_t st (la ++ [x]) := by
        rw [ch_ta, d5 87 (by decide), e87, d5 76 (by decide), fr.1 76 (by decide), d4 17 (by decide), fr.2 17 (by decide), hgp.2]
        have := hst x (by omega) (by omega)
        omega
      have en : ((la.length : Int) + 1) = ((la ++ [x]).length : Int) := by rw [List.length_append]; simp
      rw [et, en]
      exact ih τ_2 (la ++ [x]) lc (by rw [List.length_cons] at hN; omega) (by rw [hll, List.append_assoc]; rfl) ⟨zf_t fr.1 d5 (by simp) (by simp), fun y hy => by rw [d4 y hy]; exact fr.2 y hy⟩ (by rw [d1, List.length_append]; simp) (by
        rw [bo_ra]
        exact bo_Ra hR (by rw [bo_rl, Int.zero_add, ← e87]; exact h_3) (by rw [fr.1 84 (by decide)]))

set_option maxRecDepth 20000 in
set_option maxHeartbeats 4000000 in
theorem l_layS {g : zg_G} {k : zk_T} {Q : Option Value → zs_S → Prop} (C : zk_ok g mX11_lay k) (hr : zk_ret g mX11_lay Q k) (st : Int → Int) (gp : Int) (σc : zs_S) (hgp : (0 ≤ gp ∧ gp ≤ 100) ∧ σc 67 17 = gp) (hst : ∀ k : Int, 0 ≤ k → k < 6 → σc 76 k + gp = st k) (ch w f face : Int) (P : List (Int × Int × Int)) (hPl : (P.length : Int) ≤ 400) (hff : (face = f ∧ 0 < f ∧ f ≤ 5000) ∨ (f = 0 ∧ face = -2 * gp)) (l2 : List Int) (hb2 : bo_A (σc 87) 300 l2) (hm2 : ∀ x ∈ l2, (0 ≤ x ∧ x < 6) ∧ 50 + gp ≤ st x ∧ st x ≤ 4100) (hl2 : (l2.length : Int) ≤ 200) (hex : ∀ σ1, (zf_x σc σ1 [67, 83] ∧ (∀ y, y ≠ 20 → σ1 67 y = σc 67 y)) → σ1 67 20 = (P ++ bo_s st w face l2 0).length → bo_R (σ1 83) (σc 84) (P ++ bo_s st w face l2 0) → zw_W g mX11_lay k 177 [(0, .ref (g.2.2.1 67)), (1, zv_i ch), (3, zv_i w)] [] σ1) : ∀ (N : Nat) (σ : zs_S) (la lb : List Int) (y : Int), lb.length < N → (l2 = la ++ lb) → (zf_x σc σ [67, 83] ∧ (∀ y, y ≠ 20 → σ 67 y = σc 67 y)) → ((la = [] ∧ y = f) ∨ (y = face + 2 * ch_t st la ∧ 100 + 2 * gp ≤ 2 * ch_t st la)) → (σ 67 20 = (P ++ bo_s st w face la 0).length) → (bo_R (σ 83) (σc 84) (P ++ bo_s st w face la 0)) → (0 ≤ ch_t st la ∧ ch_t st la ≤ 5000 * la.length) → zw_W g mX11_lay k 112 [(0, .ref (g.2.2.1 67)), (1, zv_i ch), (3, zv_i w), (4, zv_i y), (5, zv_i (300 + (la.length : Int)))] [] σ := by
  intro N
  induction N with
  | zero =>
    intro σ la lb y hN
    exact absurd hN (by omega)
  | succ N ih =>
    intro σ la lb y hN hll fr hy hc hR ht0
    have ln : (la.length : Int) ≤ l2.length := by rw [hll]; simp; omega
    have bb : -1 ≤ σ 87 (300 + (la.length : Int)) ∧ σ 87 (300 + (la.length : Int)) < 6 := by
      rw [fr.1 87 (by decide)]
      cases lb with
      | nil =>
        subst hll
        have := bo_Ae hb2
        omega
      | cons x lc =>
        have := bo_Ag (hll ▸ hb2)
        have := hm2 x (by rw [hll]; simp)
        omega
    have hyt : la = [] → ch_t st la = 0 := fun z => by rw [z]; rfl
    refine zr_aload_n (pc := 112) C dX11_lay_112 0 rfl ?_
    refine zr_get (v := .ref (g.2.2.1 87)) (pc := 113) C 26 (some (some 87)) dX11_lay_113 fX11_67 (by decide) (hs_67 _) rfl rfl ?_
    refine zr_iload (pc := 116) C dX11_lay_116 4 rfl ?_
    refine zr_iaload (pc := 118) C dX11_lay_118 (by decide) (hs_87 _) (by omega) (by decide) ?_
    refine zr_if_lt (pc := 119) C 177 dX11_lay_119 (by decide) (by omega) (fun h_1 => ?_) (fun h_1 => ?_)
    · have l0 : lb = [] := by
        cases lb with
        | nil => rfl
        | cons x lc =>
          have q := bo_Ag (hll ▸ hb2)
          rw [← fr.1 87 (by decide)] at q
          have := hm2 x (by rw [hll]; simp)
          omega
      subst l0
      rw [List.append_nil] at hll
      subst hll
      refine zr_sub [0, 1, 2] rfl ?_
      exact hex σ fr hc hR
    · obtain ⟨x, lc, hx⟩ : ∃ x lc, lb = x :: lc := by
        cases lb with
        | cons x lc => exact ⟨x, lc, rfl⟩
        | nil =>
          subst hll
          have := bo_Ae hb2
          rw [← fr.1 87 (by decide)] at this
          omega
      subst hx
      have e87 : σ 87 (300 + (la.length : Int)) = x := by
        subst hll
        have := bo_Ag hb2
        rw [← fr.1 87 (by decide)] at this
        exact this
      have xb := hm2 x (by rw [hll]; simp)
      have ll : la.length + (lc.length + 1) = l2.length := by rw [hll]; simp
      have ex : σ 76 (σ 87 (300 + (la.length : Int))) + gp = st x := by rw [e87, fr.1 76 (by decide)]; exact hst x (by omega) (by omega)
      have ek : σ 67 17 = gp := by rw [fr.2 17 (by decide)]; exact hgp.2
      have eL : ((P ++ bo_s st w face la 0).length : Int) = P.length + la.length := by rw [List.length_append, bo_sl]; omega
      refine zr_iload (pc := 122) C dX11_lay_122 3 rfl ?_
      refine zr_iconst (pc := 124) C dX11_lay_124 ?_
      refine zr_aload_n (pc := 125) C dX11_lay_125 0 rfl ?_
      refine zr_get (v := .ref (g.2.2.1 76)) (pc := 126) C 12 (some (some 76)) dX11_lay_126 fX11_34 (by decide) (hs_67 _) rfl rfl ?_
      refine zr_aload_n (pc := 129) C dX11_lay_129 0 rfl ?_
      refine zr_get (v := .ref (g.2.2.1 87)) (pc := 130) C 26 (some (some 87)) dX11_lay_130 fX11_67 (by decide) (hs_67 _) rfl rfl ?_
      refine zr_iload (pc := 133) C dX11_lay_133 4 rfl ?_
      refine zr_iaload (pc := 135) C dX11_lay_135 (by decide) (hs_87 _) (by omega) (by decide) ?_
      refine zr_iaload (pc := 136) C dX11_lay_136 (by decide) (hs_76 _) (by omega) (by decide) ?_
      refine zr_imul (pc := 137) C dX11_lay_137 ?_
      refine zr_iload (pc := 138) C dX11_lay_138 3 rfl ?_
      have yb : (y = f ∧ ch_t st la = 0) ∨ (y = face + 2 * ch_t st la ∧ 100 + 2 * gp ≤ 2 * ch_t st la) := hy.imp (fun z => ⟨z.2, hyt z.1⟩) id
      have rgy : -100000 ≤ y ∧ y ≤ 10000000 := by omega
      refine zr_if_ne (pc := 140) C 147 dX11_lay_140 (by decide) (by omega) (fun h_2 => ?_) (fun h_2 => ?_)
      · refine zr_iconst (pc := 147) C dX11_lay_147 ?_
        refine zr_aload_n (pc := 148) C dX11_lay_148 0 rfl ?_
        refine zr_get (v := zv_i (σ 67 17)) (pc := 149) C 17 none dX11_lay_149 fX11_121 (by decide) (hs_67 _) rfl rfl ?_
        refine zr_imul (pc := 152) C dX11_lay_152 ?_
        refine zr_iadd (pc := 153) C dX11_lay_153 ?_
        refine zr_iadd (pc := 154) C dX11_lay_154 ?_
        refine zr_istore (L' := [(4, zv_i (y + ((2 * (σ 76 (σ 87 (300 + (la.length : Int))))) + (2 * (σ 67 17))))), (0, .ref (g.2.2.1 67)), (1, zv_i ch), (3, zv_i w), (5, zv_i (300 + (la.length : Int)))]) (pc := 155) C dX11_lay_155 (by decide) rfl ?_
        refine zr_aload_n (pc := 157) C dX11_lay_157 1 rfl ?_
        refine zr_aload_n (pc := 158) C dX11_lay_158 1 rfl ?_
        refine zr_get (v := .ref (g.2.2.1 87)) (pc := 159) C 26 (some (some 87)) dX11_lay_159 fX11_67 (by decide) (hs_67 _) rfl rfl ?_
        refine zr_iload (pc := 162) C dX11_lay_162 4 rfl ?_
        refine zr_iaload (pc := 164) C dX11_lay_164 (by decide) (hs_87 _) (by omega) (by decide) ?_
        refine zr_iload_n (pc := 165) C dX11_lay_165 3 rfl ?_
        refine zr_iload (pc := 166) C dX11_lay_166 0 rfl ?_
        refine zr_callV (As := [zv_i (σ 87 (300 + (la.length : Int))), zv_i w, zv_i (y + ((2 * (σ 76 (σ 87 (300 + (la.length : Int))))) + (2 * (σ 67 17))))]) (rest := []) (b := 67) (pc := 168) C dX11_lay_168 kX11_put vX11_158 rfl (by decide) (by decide) (hs_67 _) rfl (Nat.le_of_ble_eq_true rfl) (n_put g σ (σ 87 (300 + (la.length : Int))) w (y + ((2 * (σ 76 (σ 87 (300 + (la.length : Int))))) + (2 * (σ 67 17)))) (((P ++ bo_s st w face la 0).length : Int)) (by omega) (by exact hc) (by omega)) (fun v_ τ_ h_ => ?_)
        obtain ⟨rfl, h_4⟩ := h_
        generalize τ_ = τ_3 at h_4 ⊢
        show zw_W g mX11_lay k 171 [(4, zv_i (y + ((2 * (σ 76 (σ 87 (300 + (la.length : Int))))) + (2 * (σ 67 17))))), (0, .ref (g.2.2.1 67)), (1, zv_i ch), (3, zv_i w), (5, zv_i (300 + (la.length : Int)))] [] τ_3
        refine zr_iinc (L' := [(5, zv_i ((300 + (la.length : Int)) + 1)), (4, zv_i (y + ((2 * (σ 76 (σ 87 (300 + (la.length : Int))))) + (2 * (σ 67 17))))), (0, .ref (g.2.2.1 67)), (1, zv_i ch), (3, zv_i w)]) (pc := 171) C dX11_lay_171 4 rfl (by decide) rfl ?_
        refine zr_goto (pc := 174) C 112 dX11_lay_174 (by decide) ?_
        have h46 := h_4
        obtain ⟨d1, d2, d3, d4, d5⟩ := h46
        have en : ((300 + (la.length : Int)) + 1) = 300 + ((la ++ [x]).length : Int) := by rw [List.length_append]; simp; omega
        refine zr_sub [2, 3, 4, 1, 0] rfl ?_
        rw [en]
        exact ih τ_3 (la ++ [x]) lc (y + ((2 * (σ 76 (σ 87 (300 + (la.length : Int))))) + (2 * (σ 67 17)))) (by rw [List.length_cons] at hN; omega) (by rw [hll, List.append_assoc]; rfl) ⟨zf_t fr.1 d5 (by simp) (by simp), fun y hy => by rw [d4 y hy]; exact fr.2 y hy⟩ (Or.inr (by rw [ch_ta]; omega)) (by rw [d1, bo_sa, ← List.append_assoc, bo_l1]) (by
          rw [bo_sa, ← List.append_assoc]
          refine bo_Ra hR ?_ (by rw [fr.1 84 (by decide)])
          rw [show face + 2 * (0 + ch_t st la + st x) = y + ((2 * (σ 76 (σ 87 (300 + (la.length : Int))))) + (2 * (σ 67 17))) by omega, ← e87]
          exact h_4) (by rw [ch_ta]; omega)
      · refine zr_iconst (pc := 143) C dX11_lay_143 ?_
        refine zr_goto (pc := 144) C 153 dX11_lay_144 (by decide) ?_
        refine zr_iadd (pc := 153) C dX11_lay_153 ?_
        refine zr_iadd (pc := 154) C dX11_lay_154 ?_
        refine zr_istore (L' := [(4, zv_i (y + ((2 * (σ 76 (σ 87 (300 + (la.length : Int))))) + 0))), (0, .ref (g.2.2.1 67)), (1, zv_i ch), (3, zv_i w), (5, zv_i (300 + (la.length : Int)))]) (pc := 155) C dX11_lay_155 (by decide) rfl ?_
        refine zr_aload_n (pc := 157) C dX11_lay_157 1 rfl ?_
        refine zr_aload_n (pc := 158) C dX11_lay_158 1 rfl ?_
        refine zr_get (v := .ref (g.2.2.1 87)) (pc := 159) C 26 (some (some 87)) dX11_lay_159 fX11_67 (by decide) (hs_67 _) rfl rfl ?_
        refine zr_iload (pc := 162) C dX11_lay_162 4 rfl ?_
        refine zr_iaload (pc := 164) C dX11_lay_164 (by decide) (hs_87 _) (by omega) (by decide) ?_
        refine zr_iload_n (pc := 165) C dX11_lay_165 3 rfl ?_
        refine zr_iload (pc := 166) C dX11_lay_166 0 rfl ?_
        refine zr_callV (As := [zv_i (σ 87 (300 + (la.length : Int))), zv_i w, zv_i (y + ((2 * (σ 76 (σ 87 (300 + (la.length : Int))))) + 0))]) (rest := []) (b := 67) (pc := 168) C dX11_lay_168 kX11_put vX11_158 rfl (by decide) (by decide) (hs_67 _) rfl (Nat.le_of_ble_eq_true rfl) (n_put g σ (σ 87 (300 + (la.length : Int))) w (y + ((2 * (σ 76 (σ 87 (300 + (la.length : Int))))) + 0)) (((P ++ bo_s st w face la 0).length : Int)) (by omega) (by exact hc) (by omega)) (fun v_ τ_ h_ => ?_)
        obtain ⟨rfl, h_6⟩ := h_
        generalize τ_ = τ_5 at h_6 ⊢
        show zw_W g mX11_lay k 171 [(4, zv_i (y + ((2 * (σ 76 (σ 87 (300 + (la.length : Int))))) + 0))), (0, .ref (g.2.2.1 67)), (1, zv_i ch), (3, zv_i w), (5, zv_i (300 + (la.length : Int)))] [] τ_5
        refine zr_iinc (L' := [(5, zv_i ((300 + (la.length : Int)) + 1)), (4, zv_i (y + ((2 * (σ 76 (σ 87 (300 + (la.length : Int))))) + 0))), (0, .ref (g.2.2.1 67)), (1, zv_i ch), (3, zv_i w)]) (pc := 171) C dX11_lay_171 4 rfl (by decide) rfl ?_
        refine zr_goto (pc := 174) C 112 dX11_lay_174 (by decide) ?_
        have h46 := h_6
        obtain ⟨d1, d2, d3, d4, d5⟩ := h46
        have en : ((300 + (la.length : Int)) + 1) = 300 + ((la ++ [x]).length : Int) := by rw [List.length_append]; simp; omega
        refine zr_sub [2, 3, 4, 1, 0] rfl ?_
        rw [en]
        exact ih τ_5 (la ++ [x]) lc (y + ((2 * (σ 76 (σ 87 (300 + (la.length : Int))))) + 0)) (by rw [List.length_cons] at hN; omega) (by rw [hll, List.append_assoc]; rfl) ⟨zf_t fr.1 d5 (by simp) (by simp), fun y hy => by rw [d4 y hy]; exact fr.2 y hy⟩ (Or.inr (by rw [ch_ta]; omega)) (by rw [d1, bo_sa, ← List.append_assoc, bo_l1]) (by
          rw [bo_sa, ← List.append_assoc]
          refine bo_Ra hR ?_ (by rw [fr.1 84 (by decide)])
          rw [show face + 2 * (0 + ch_t st la + st x) = y + ((2 * (σ 76 (σ 87 (300 + (la.length : Int))))) + 0) by omega, ← e87]
          exact h_6) (by rw [ch_ta]; omega)
