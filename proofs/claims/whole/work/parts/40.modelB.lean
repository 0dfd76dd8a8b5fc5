set_option maxRecDepth 20000 in
set_option maxHeartbeats 4000000 in
theorem n_add (g : zg_G) (σ : zs_S) (n j p c : Int) (hj : 0 ≤ j ∧ j < 6) (hp : 0 ≤ p ∧ p ≤ 1000) (hA : md_A σ n) (ha : bk_a σ n p j) (hc : σ 67 10 = c) (hcc : 0 ≤ c ∧ c ≤ 80) : zm_Met g mX11_add σ [.ref (g.2.2.1 67), zv_i j, zv_i p] (fun v τ => v = none ∧ τ 67 10 = c + 1 ∧ (∀ y, y < c * 6 → τ 75 y = σ 75 y) ∧ bk_e σ (τ 75) c p j ∧ (∀ y, y ≠ 10 → τ 67 y = σ 67 y) ∧ zf_x σ τ [67, 75]) := by
  refine zm_of (by decide +kernel) (Nat.le_of_ble_eq_true rfl) ?_
  intro k C hr
  show zw_W g mX11_add k 0 [(0, .ref (g.2.2.1 67)), (1, zv_i j), (2, zv_i p)] [] σ
  obtain ⟨hS, hK, hl, hd, hk, hc20, hdf, hgr⟩ := id hA
  obtain ⟨hn1, hn2, hlast, hd3, hd4⟩ := id hS
  obtain ⟨k1, k2, k3⟩ := hk j (by omega) (by omega)
  obtain ⟨b1, b2, b3⟩ := hK j (by omega) (by omega)
  have a1 : 0 < σ (8 + 2 * j.toNat) 0 := ha.1
  have a2 : p + σ (8 + 2 * j.toNat) 0 ≤ n := ha.2.1
  have tb := bk_tb hS hp.1 ha
  have et : lo_t (σ 3) p (σ 72 j + 1).toNat = bk_t σ p j := by rw [k1]
  have eg : hi_t (σ 4) p (σ 72 j + 1).toNat = bk_g σ p j := by rw [k1]
  refine zr_aload_n (pc := 0) C dX11_add_0 0 rfl ?_
  refine zr_get (v := .ref (g.2.2.1 72)) (pc := 1) C 7 (some (some 72)) dX11_add_1 fX11_22 (by decide) (hs_67 _) rfl rfl ?_
  refine zr_iload_n (pc := 4) C dX11_add_4 1 rfl ?_
  refine zr_iaload (pc := 5) C dX11_add_5 (by decide) (hs_72 _) (by omega) (by decide) ?_
  refine zr_istore_n (L' := [(3, zv_i (σ 72 j)), (0, .ref (g.2.2.1 67)), (1, zv_i j), (2, zv_i p)]) (pc := 6) C dX11_add_6 (by decide) rfl ?_
  refine zr_bipush (pc := 7) C dX11_add_7 (by decide) ?_
  refine zr_aload_n (pc := 9) C dX11_add_9 1 rfl ?_
  refine zr_get (v := zv_i (σ 67 10)) (pc := 10) C 10 none dX11_add_10 fX11_102 (by decide) (hs_67 _) rfl rfl ?_
  refine zr_imul (pc := 13) C dX11_add_13 ?_
  refine zr_istore (L' := [(4, zv_i (6 * (σ 67 10))), (3, zv_i (σ 72 j)), (0, .ref (g.2.2.1 67)), (1, zv_i j), (2, zv_i p)]) (pc := 14) C dX11_add_14 (by decide) rfl ?_
  refine zr_aload_n (pc := 16) C dX11_add_16 2 rfl ?_
  refine zr_get (v := .ref (g.2.2.1 75)) (pc := 17) C 11 (some (some 75)) dX11_add_17 fX11_31 (by decide) (hs_67 _) rfl rfl ?_
  refine zr_iload (pc := 20) C dX11_add_20 0 rfl ?_
  refine zr_iload_n (pc := 22) C dX11_add_22 4 rfl ?_
  refine zr_iastore (pc := 23) C dX11_add_23 (by decide) (hs_75 _) (by omega) (by decide) (fun τ_1 e_2 => ?_)
  have hA1 : md_A τ_1 n := md_Ap hA e_2 (by omega)
  have hE1 : md_E σ τ_1 := md_Ep (md_Er σ) e_2 (by decide)
  have ev1 := md_Ev (n := n) (p := p) hE1 hj
  refine zr_aload_n (pc := 24) C dX11_add_24 2 rfl ?_
  refine zr_get (v := .ref (g.2.2.1 75)) (pc := 25) C 11 (some (some 75)) dX11_add_25 fX11_31 (by decide) (hs_67 _) rfl rfl ?_
  refine zr_iload (pc := 28) C dX11_add_28 0 rfl ?_
  refine zr_iconst (pc := 30) C dX11_add_30 ?_
  refine zr_iadd (pc := 31) C dX11_add_31 ?_
  refine zr_iload_n (pc := 32) C dX11_add_32 3 rfl ?_
  refine zr_iastore (pc := 33) C dX11_add_33 (by decide) (hs_75 _) (by omega) (by decide) (fun τ_3 e_4 => ?_)
  have hA2 : md_A τ_3 n := md_Ap hA1 e_4 (by omega)
  have hE2 : md_E σ τ_3 := md_Ep hE1 e_4 (by decide)
  have ev2 := md_Ev (n := n) (p := p) hE2 hj
  refine zr_aload_n (pc := 34) C dX11_add_34 2 rfl ?_
  refine zr_get (v := .ref (g.2.2.1 75)) (pc := 35) C 11 (some (some 75)) dX11_add_35 fX11_31 (by decide) (hs_67 _) rfl rfl ?_
  refine zr_iload (pc := 38) C dX11_add_38 0 rfl ?_
  refine zr_iconst (pc := 40) C dX11_add_40 ?_
  refine zr_iadd (pc := 41) C dX11_add_41 ?_
  refine zr_aload_n (pc := 42) C dX11_add_42 2 rfl ?_
  refine zr_iload_n (pc := 43) C dX11_add_43 4 rfl ?_
  refine zr_iload_n (pc := 44) C dX11_add_44 1 rfl ?_
  refine zr_callV (As := [zv_i p, zv_i (σ 72 j)]) (rest := [zv_i ((6 * (σ 67 10)) + 2), .ref (g.2.2.1 75)]) (b := 67) (pc := 45) C dX11_add_45 kX11_topOf vX11_95 rfl (by decide) (by decide) (hs_67 _) rfl (Nat.le_of_ble_eq_true rfl) (n_topOf g τ_3 n p (σ 72 j) (by omega) (by exact hA2)) (fun v_ τ_ h_ => ?_)
  obtain ⟨rfl, rfl⟩ := h_
  show zw_W g mX11_add k 48 [(4, zv_i (6 * (σ 67 10))), (3, zv_i (σ 72 j)), (0, .ref (g.2.2.1 67)), (1, zv_i j), (2, zv_i p)] [zv_i (lo_t (τ_3 3) p ((σ 72 j) + 1).toNat), zv_i ((6 * (σ 67 10)) + 2), .ref (g.2.2.1 75)] τ_3
  have v2 : lo_t (τ_3 3) p ((σ 72 j) + 1).toNat = bk_t σ p j := by rw [show τ_3 3 = σ 3 from funext hE2.1, k1]
  refine zr_iastore (pc := 48) C dX11_add_48 (by decide) (hs_75 _) (by omega) (by decide) (fun τ_5 e_6 => ?_)
  have hA3 : md_A τ_5 n := md_Ap hA2 e_6 (by omega)
  have hE3 : md_E σ τ_5 := md_Ep hE2 e_6 (by decide)
  have ev3 := md_Ev (n := n) (p := p) hE3 hj
  refine zr_aload_n (pc := 49) C dX11_add_49 2 rfl ?_
  refine zr_get (v := .ref (g.2.2.1 75)) (pc := 50) C 11 (some (some 75)) dX11_add_50 fX11_31 (by decide) (hs_67 _) rfl rfl ?_
  refine zr_iload (pc := 53) C dX11_add_53 0 rfl ?_
  refine zr_iconst (pc := 55) C dX11_add_55 ?_
  refine zr_iadd (pc := 56) C dX11_add_56 ?_
  refine zr_aload_n (pc := 57) C dX11_add_57 2 rfl ?_
  refine zr_iload_n (pc := 58) C dX11_add_58 4 rfl ?_
  refine zr_iload_n (pc := 59) C dX11_add_59 1 rfl ?_
  refine zr_callV (As := [zv_i p, zv_i (σ 72 j)]) (rest := [zv_i ((6 * (σ 67 10)) + 3), .ref (g.2.2.1 75)]) (b := 67) (pc := 60) C dX11_add_60 kX11_topOf vX11_95 rfl (by decide) (by decide) (hs_67 _) rfl (Nat.le_of_ble_eq_true rfl) (n_topOf g τ_5 n p (σ 72 j) (by omega) (by exact hA3)) (fun v_ τ_ h_ => ?_)
  obtain ⟨rfl, rfl⟩ := h_
  show zw_W g mX11_add k 63 [(4, zv_i (6 * (σ 67 10))), (3, zv_i (σ 72 j)), (0, .ref (g.2.2.1 67)), (1, zv_i j), (2, zv_i p)] [zv_i (lo_t (τ_5 3) p ((σ 72 j) + 1).toNat), zv_i ((6 * (σ 67 10)) + 3), .ref (g.2.2.1 75)] τ_5
  have v3a : lo_t (τ_5 3) p ((σ 72 j) + 1).toNat = bk_t σ p j := by rw [show τ_5 3 = σ 3 from funext hE3.1, k1]
  refine zr_bipush (pc := 63) C dX11_add_63 (by decide) ?_
  refine zr_idiv (pc := 65) C dX11_add_65 (by rw [v3a] at *; omega) (by rw [v3a] at *; omega) (by rw [v3a] at *; omega) (by rw [v3a] at *; omega) ?_
  have v3 : (lo_t (τ_5 3) p ((σ 72 j) + 1).toNat) / 50 = bk_t σ p j / 50 := by rw [v3a]
  refine zr_iastore (pc := 66) C dX11_add_66 (by decide) (hs_75 _) (by omega) (by decide) (fun τ_7 e_8 => ?_)
  have hA4 : md_A τ_7 n := md_Ap hA3 e_8 (by omega)
  have hE4 : md_E σ τ_7 := md_Ep hE3 e_8 (by decide)
  have ev4 := md_Ev (n := n) (p := p) hE4 hj
  refine zr_aload_n (pc := 67) C dX11_add_67 2 rfl ?_
  refine zr_get (v := .ref (g.2.2.1 75)) (pc := 68) C 11 (some (some 75)) dX11_add_68 fX11_31 (by decide) (hs_67 _) rfl rfl ?_
  refine zr_iload (pc := 71) C dX11_add_71 0 rfl ?_
  refine zr_iconst (pc := 73) C dX11_add_73 ?_
  refine zr_iadd (pc := 74) C dX11_add_74 ?_
  refine zr_aload_n (pc := 75) C dX11_add_75 2 rfl ?_
  refine zr_iload_n (pc := 76) C dX11_add_76 4 rfl ?_
  refine zr_iload_n (pc := 77) C dX11_add_77 1 rfl ?_
  refine zr_callV (As := [zv_i p, zv_i (σ 72 j)]) (rest := [zv_i ((6 * (σ 67 10)) + 4), .ref (g.2.2.1 75)]) (b := 67) (pc := 78) C dX11_add_78 kX11_gradeOf vX11_99 rfl (by decide) (by decide) (hs_67 _) rfl (Nat.le_of_ble_eq_true rfl) (n_gradeOf g τ_7 n p (σ 72 j) (by omega) (by exact hA4)) (fun v_ τ_ h_ => ?_)
  obtain ⟨rfl, rfl⟩ := h_
  show zw_W g mX11_add k 81 [(4, zv_i (6 * (σ 67 10))), (3, zv_i (σ 72 j)), (0, .ref (g.2.2.1 67)), (1, zv_i j), (2, zv_i p)] [zv_i (hi_t (τ_7 4) p ((σ 72 j) + 1).toNat), zv_i ((6 * (σ 67 10)) + 4), .ref (g.2.2.1 75)] τ_7
  have v4 : hi_t (τ_7 4) p ((σ 72 j) + 1).toNat = bk_g σ p j := by rw [show τ_7 4 = σ 4 from funext hE4.2.1, k1]
  refine zr_iastore (pc := 81) C dX11_add_81 (by decide) (hs_75 _) (by omega) (by decide) (fun τ_9 e_10 => ?_)
  have hA5 : md_A τ_9 n := md_Ap hA4 e_10 (by omega)
  have hE5 : md_E σ τ_9 := md_Ep hE4 e_10 (by decide)
  have ev5 := md_Ev (n := n) (p := p) hE5 hj
  refine zr_aload_n (pc := 82) C dX11_add_82 2 rfl ?_
  refine zr_get (v := .ref (g.2.2.1 75)) (pc := 83) C 11 (some (some 75)) dX11_add_83 fX11_31 (by decide) (hs_67 _) rfl rfl ?_
  refine zr_iload (pc := 86) C dX11_add_86 0 rfl ?_
  refine zr_iconst (pc := 88) C dX11_add_88 ?_
  refine zr_iadd (pc := 89) C dX11_add_89 ?_
  refine zr_aload_n (pc := 90) C dX11_add_90 2 rfl ?_
  refine zr_iload_n (pc := 91) C dX11_add_91 3 rfl ?_
  refine zr_iload_n (pc := 92) C dX11_add_92 4 rfl ?_
  refine zr_callV (As := [zv_i j, zv_i p]) (rest := [zv_i ((6 * (σ 67 10)) + 5), .ref (g.2.2.1 75)]) (b := 67) (pc := 93) C dX11_add_93 kX11_worth vX11_105 rfl (by decide) (by decide) (hs_67 _) rfl (Nat.le_of_ble_eq_true rfl) (n_worth g τ_9 n j p (by omega) (by omega) (by exact hA5) (by exact ev5.1.mpr ha)) (fun v_ τ_ h_ => ?_)
  obtain ⟨rfl, rfl⟩ := h_
  show zw_W g mX11_add k 96 [(4, zv_i (6 * (σ 67 10))), (3, zv_i (σ 72 j)), (0, .ref (g.2.2.1 67)), (1, zv_i j), (2, zv_i p)] [zv_i (bk_v τ_9 p j), zv_i ((6 * (σ 67 10)) + 5), .ref (g.2.2.1 75)] τ_9
  have v5 : bk_v τ_9 p j = bk_v σ p j := ev5.2.1
  refine zr_iastore (pc := 96) C dX11_add_96 (by decide) (hs_75 _) (by omega) (by decide) (fun τ_11 e_12 => ?_)
  have hA6 : md_A τ_11 n := md_Ap hA5 e_12 (by omega)
  have hE6 : md_E σ τ_11 := md_Ep hE5 e_12 (by decide)
  have ev6 := md_Ev (n := n) (p := p) hE6 hj
  have hv6 : τ_11 67 10 = c := by rw [e_12, zs_put_ne (by decide), e_10, zs_put_ne (by decide), e_8, zs_put_ne (by decide), e_6, zs_put_ne (by decide), e_4, zs_put_ne (by decide), e_2, zs_put_ne (by decide)]; exact hc
  refine zr_aload_n (pc := 97) C dX11_add_97 2 rfl ?_
  refine zr_dup (pc := 98) C dX11_add_98 rfl ?_
  refine zr_get (v := zv_i (τ_11 67 10)) (pc := 99) C 10 none dX11_add_99 fX11_102 (by decide) (hs_67 _) rfl rfl ?_
  refine zr_iconst (pc := 102) C dX11_add_102 ?_
  refine zr_iadd (pc := 103) C dX11_add_103 ?_
  refine zr_put (pc := 104) C 10 10 rfl dX11_add_104 pX11_102 (by decide) (hs_67 _) rfl (fun τ_13 e_14 => ?_)
  exact zr_vret (pc := 107) C hr dX11_add_107 rfl (⟨rfl, by rw [e_14, zs_put_self, hv6], fun y hy => by rw [e_14, zs_put_ne (by decide), e_12, zs_put_off (by omega), e_10, zs_put_off (by omega), e_8, zs_put_off (by omega), e_6, zs_put_off (by omega), e_4, zs_put_off (by omega), e_2, zs_put_off (by omega)], ⟨by rw [e_14, zs_put_ne (by decide), e_12, zs_put_off (by omega), e_10, zs_put_off (by omega), e_8, zs_put_off (by omega), e_6, zs_put_off (by omega), e_4, zs_put_off (by omega), e_2, zs_put_at, if_pos (by omega)], by rw [e_14, zs_put_ne (by decide), e_12, zs_put_off (by omega), e_10, zs_put_off (by omega), e_8, zs_put_off (by omega), e_6, zs_put_off (by omega), e_4, zs_put_at, if_pos (by omega)], by rw [e_14, zs_put_ne (by decide), e_12, zs_put_off (by omega), e_10, zs_put_off (by omega), e_8, zs_put_off (by omega), e_6, zs_put_at, if_pos (by omega), v2], by rw [e_14, zs_put_ne (by decide), e_12, zs_put_off (by omega), e_10, zs_put_off (by omega), e_8, zs_put_at, if_pos (by omega), v3], by rw [e_14, zs_put_ne (by decide), e_12, zs_put_off (by omega), e_10, zs_put_at, if_pos (by omega), v4], by rw [e_14, zs_put_ne (by decide), e_12, zs_put_at, if_pos (by omega), v5]⟩, fun y hy => by rw [e_14, zs_put_off hy, e_12, zs_put_ne (by decide), e_10, zs_put_ne (by decide), e_8, zs_put_ne (by decide), e_6, zs_put_ne (by decide), e_4, zs_put_ne (by decide), e_2, zs_put_ne (by decide)], zf_p (zf_p (zf_p (zf_p (zf_p (zf_p (zf_p (zf_r σ [67, 75]) e_2 (by decide)) e_4 (by decide)) e_6 (by decide)) e_8 (by decide)) e_10 (by decide)) e_12 (by decide)) e_14 (by decide)⟩)

set_option maxRecDepth 20000 in
set_option maxHeartbeats 4000000 in
theorem n_steps (g : zg_G) (σ : zs_S) (n j p : Int) (hj : 0 ≤ j ∧ j < 6) (hp : 0 ≤ p ∧ p ≤ n) (hA : md_A σ n) (hV : ∀ x, 0 ≤ x → x ≤ n + 1 → 0 ≤ σ 88 x ∧ σ 88 x ≤ 100000000) (hL : ∀ x, p < x → x ≤ n + 1 → σ 89 x = 0 ∨ σ 89 x = 1) : zm_Met g mX11_steps σ [.ref (g.2.2.1 67), zv_i j, zv_i p] (fun v τ => v = some (zv_i (zi_b (bk_a σ n p j ∧ σ 89 (p + bk_n σ j + 1) = 1 ∧ σ 88 (p + bk_n σ j + 1) = σ 88 p + bk_v σ p j))) ∧ σ = τ) := by
  refine zm_of (by decide +kernel) (Nat.le_of_ble_eq_true rfl) ?_
  intro k C hr
  show zw_W g mX11_steps k 0 [(0, .ref (g.2.2.1 67)), (1, zv_i j), (2, zv_i p)] [] σ
  obtain ⟨hS, hK, hl, hd, hk, hc20, hdf, hgr⟩ := id hA
  obtain ⟨hn1, hn2, hlast, hd3, hd4⟩ := id hS
  obtain ⟨k1, k2, k3⟩ := hk j (by omega) (by omega)
  obtain ⟨b1, b2, b3⟩ := hK j (by omega) (by omega)
  refine zr_aload_n (pc := 0) C dX11_steps_0 0 rfl ?_
  refine zr_iload_n (pc := 1) C dX11_steps_1 1 rfl ?_
  refine zr_iload_n (pc := 2) C dX11_steps_2 2 rfl ?_
  refine zr_callV (As := [zv_i j, zv_i p]) (rest := []) (b := 67) (pc := 3) C dX11_steps_3 kX11_isAllowed vX11_108 rfl (by decide) (by decide) (hs_67 _) rfl (Nat.le_of_ble_eq_true rfl) (n_allowed g σ n j p (by omega) (by omega) (by exact hA)) (fun v_ τ_ h_ => ?_)
  obtain ⟨rfl, rfl⟩ := h_
  show zw_W g mX11_steps k 6 [(0, .ref (g.2.2.1 67)), (1, zv_i j), (2, zv_i p)] [zv_i (zi_b (bk_a σ n p j))] σ
  refine zr_if_ne_b (pc := 6) C 11 dX11_steps_6 (by decide) (fun h_1 => ?_) (fun h_1 => ?_)
  · have ha := h_1
    have a1 : 0 < σ (8 + 2 * j.toNat) 0 := ha.1
    have a2 : p + σ (8 + 2 * j.toNat) 0 ≤ n := ha.2.1
    have vb := bk_vb hS hK hj hp.1 ha
    have en : bk_n σ j = σ 72 j := k1.symm
    have v1 := hV (p + σ 72 j + 1) (by omega) (by omega)
    have v2 := hV p (by omega) (by omega)
    have l1 := hL (p + σ 72 j + 1) (by omega) (by omega)
    have x88 : σ 88 (p + bk_n σ j + 1) = σ 88 (p + σ 72 j + 1) := by rw [en]
    have x89 : σ 89 (p + bk_n σ j + 1) = σ 89 (p + σ 72 j + 1) := by rw [en]
    refine zr_iload_n (pc := 11) C dX11_steps_11 2 rfl ?_
    refine zr_aload_n (pc := 12) C dX11_steps_12 0 rfl ?_
    refine zr_get (v := .ref (g.2.2.1 72)) (pc := 13) C 7 (some (some 72)) dX11_steps_13 fX11_22 (by decide) (hs_67 _) rfl rfl ?_
    refine zr_iload_n (pc := 16) C dX11_steps_16 1 rfl ?_
    refine zr_iaload (pc := 17) C dX11_steps_17 (by decide) (hs_72 _) (by omega) (by decide) ?_
    refine zr_iadd (pc := 18) C dX11_steps_18 ?_
    refine zr_iconst (pc := 19) C dX11_steps_19 ?_
    refine zr_iadd (pc := 20) C dX11_steps_20 ?_
    refine zr_istore_n (L' := [(3, zv_i ((p + (σ 72 j)) + 1)), (0, .ref (g.2.2.1 67)), (1, zv_i j), (2, zv_i p)]) (pc := 21) C dX11_steps_21 (by decide) rfl ?_
    refine zr_aload_n (pc := 22) C dX11_steps_22 1 rfl ?_
    refine zr_get (v := .ref (g.2.2.1 89)) (pc := 23) C 28 (some (some 89)) dX11_steps_23 fX11_73 (by decide) (hs_67 _) rfl rfl ?_
    refine zr_iload_n (pc := 26) C dX11_steps_26 0 rfl ?_
    refine zr_baload (pc := 27) C dX11_steps_27 (by decide) (hs_89 _) (by omega) (by decide) ?_
    refine zr_if_eq (pc := 28) C 57 dX11_steps_28 (by decide) (by omega) (fun h_2 => ?_) (fun h_2 => ?_)
    · refine zr_iconst (pc := 57) C dX11_steps_57 ?_
      exact zr_zret (pc := 58) C hr dX11_steps_58 rfl (by decide) (⟨zq_0 (fun z => by have z2 := z.2.1; have z3 := z.2.2; omega), rfl⟩)
    · refine zr_aload_n (pc := 31) C dX11_steps_31 1 rfl ?_
      refine zr_get (v := .ref (g.2.2.1 88)) (pc := 32) C 27 (some (some 88)) dX11_steps_32 fX11_70 (by decide) (hs_67 _) rfl rfl ?_
      refine zr_iload_n (pc := 35) C dX11_steps_35 0 rfl ?_
      refine zr_iaload (pc := 36) C dX11_steps_36 (by decide) (hs_88 _) (by omega) (by decide) ?_
      refine zr_aload_n (pc := 37) C dX11_steps_37 1 rfl ?_
      refine zr_get (v := .ref (g.2.2.1 88)) (pc := 38) C 27 (some (some 88)) dX11_steps_38 fX11_70 (by decide) (hs_67 _) rfl rfl ?_
      refine zr_iload_n (pc := 41) C dX11_steps_41 3 rfl ?_
      refine zr_iaload (pc := 42) C dX11_steps_42 (by decide) (hs_88 _) (by omega) (by decide) ?_
      refine zr_aload_n (pc := 43) C dX11_steps_43 1 rfl ?_
      refine zr_iload_n (pc := 44) C dX11_steps_44 2 rfl ?_
      refine zr_iload_n (pc := 45) C dX11_steps_45 3 rfl ?_
      refine zr_callV (As := [zv_i j, zv_i p]) (rest := [zv_i (σ 88 p), zv_i (σ 88 ((p + (σ 72 j)) + 1))]) (b := 67) (pc := 46) C dX11_steps_46 kX11_worth vX11_105 rfl (by decide) (by decide) (hs_67 _) rfl (Nat.le_of_ble_eq_true rfl) (n_worth g σ n j p (by omega) (by omega) (by exact hA) (by exact ha)) (fun v_ τ_ h_ => ?_)
      obtain ⟨rfl, rfl⟩ := h_
      show zw_W g mX11_steps k 49 [(3, zv_i ((p + (σ 72 j)) + 1)), (0, .ref (g.2.2.1 67)), (1, zv_i j), (2, zv_i p)] [zv_i (bk_v σ p j), zv_i (σ 88 p), zv_i (σ 88 ((p + (σ 72 j)) + 1))] σ
      refine zr_iadd (pc := 49) C dX11_steps_49 ?_
      refine zr_icmp_ne (pc := 50) C 57 dX11_steps_50 (by decide) (by omega) (by omega) (fun h_3 => ?_) (fun h_3 => ?_)
      · refine zr_iconst (pc := 57) C dX11_steps_57 ?_
        exact zr_zret (pc := 58) C hr dX11_steps_58 rfl (by decide) (⟨zq_0 (fun z => by have z2 := z.2.1; have z3 := z.2.2; omega), rfl⟩)
      · refine zr_iconst (pc := 53) C dX11_steps_53 ?_
        refine zr_goto (pc := 54) C 58 dX11_steps_54 (by decide) ?_
        exact zr_zret (pc := 58) C hr dX11_steps_58 rfl (by decide) (⟨zq_1 ⟨ha, by omega, by omega⟩, rfl⟩)
  · refine zr_iconst (pc := 9) C dX11_steps_9 ?_
    exact zr_zret (pc := 10) C hr dX11_steps_10 rfl (by decide) (⟨zq_0 (fun z => h_1 z.1), rfl⟩)
