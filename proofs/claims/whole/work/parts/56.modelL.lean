section ZLC
variable {g : zg_G} {M : zm_T} {k : zk_T} {pc : Nat} {L L' : List (Nat × Value)} {S : List Value} {σ : zs_S}
/-- how two longs compare -/
def zl_c (x y : Int) : Int := if y < x then 1 else if x = y then 0 else -1
theorem zl_cb (x y : Int) : -1 ≤ zl_c x y ∧ zl_c x y ≤ 1 := by
  unfold zl_c
  split
  · omega
  · split <;> omega
theorem zl_cg {x y : Int} : 0 < zl_c x y ↔ y < x := by
  unfold zl_c
  split
  · omega
  · split <;> omega
theorem zl_ce {x y : Int} : zl_c x y = 0 ↔ x = y := by
  unfold zl_c
  split
  · omega
  · split <;> omega
abbrev zl_r (x : Int) : Prop := -9223372036854775808 ≤ x ∧ x ≤ 9223372036854775807
theorem zl_lt {x y : Int} (hx : zl_r x) (hy : zl_r y) : zi_l x < zi_l y ↔ x < y := by
  rw [Int64.lt_iff_toInt_lt, zl_toInt hx, zl_toInt hy]
theorem zl_eq {x y : Int} (hx : zl_r x) (hy : zl_r y) : zi_l x = zi_l y ↔ x = y := by
  rw [← Int64.toInt_inj, zl_toInt hx, zl_toInt hy]
theorem zl_cw {x y : Int} (hx : zl_r x) (hy : zl_r y) : lg_cmp (zi_l x) (zi_l y) = zi_w (zl_c x y) := by
  unfold lg_cmp zl_c
  by_cases h1 : y < x
  · rw [if_pos h1]
    simp [(zl_lt hy hx).mpr h1]
    rfl
  · have h1' : ¬ zi_l y < zi_l x := fun z => h1 ((zl_lt hy hx).mp z)
    rw [if_neg h1]
    by_cases h2 : x = y
    · rw [if_pos h2]
      have h2' : zi_l x = zi_l y := (zl_eq hx hy).mpr h2
      simp [h2']
      rfl
    · rw [if_neg h2]
      have h2' : ¬ zi_l x = zi_l y := fun z => h2 ((zl_eq hx hy).mp z)
      simp [h1', h2']
      rfl
theorem zr_lcmp (C : zk_ok g M k) {x y : Int} (hd : decode M.2.1 pc = .ok (.lcmp, 1)) (hx9 : zl_r x) (hy9 : zl_r y) (K : zw_W g M k (pc + 1) L (zv_i (zl_c x y) :: S) σ) : zw_W g M k pc L (zv_l y :: zv_l x :: S) σ := by
  obtain ⟨p, l, e, R, s, m, args, below, meth, c, cells, slots, Q, A⟩ := k
  obtain ⟨hx, hb, hml, hown, hts, hK, hA, hf1, hf2, hc1, hc2, hN⟩ := C
  intro H locs ls hP hS hl
  refine W.lcmp hx hb hd ?_
  rw [zl_cw hx9 hy9]
  exact K H locs ls hP hS hl
end ZLC
set_option maxRecDepth 20000 in
set_option maxHeartbeats 4000000 in
theorem n_fits (g : zg_G) (σ : zs_S) (a b c : Int) (har : zi_r a) (hbr : zi_r b) (hcr : zi_r c) (hI : (∀ k : Int, 0 ≤ k → k < 6 → (0 ≤ σ 76 k ∧ σ 76 k ≤ 4000) ∧ (0 ≤ σ 77 k ∧ σ 77 k ≤ 4000)) ∧ 0 ≤ σ 67 17 ∧ σ 67 17 ≤ 100) : zm_Met g mX11_fits σ [.ref (g.2.2.1 67), zv_i a, zv_i b, zv_i c] (fun v τ => v = some (zv_i (zi_b ((((0 ≤ a ∧ a ≤ 5) ∧ ¬ σ 76 a = 0) ∧ (1 ≤ b ∧ b ≤ 200) ∧ (50 ≤ c ∧ c ≤ 900)) ∧ (b * σ 76 a + (b - 1) * σ 67 17) * (b * σ 76 a + (b - 1) * σ 67 17) + σ 77 a * σ 77 a ≤ 10 * c * (10 * c)))) ∧ τ = zs_put σ 67 0 0) := by
  refine zm_of (by decide +kernel) (Nat.le_of_ble_eq_true rfl) ?_
  intro k C hr
  show zw_W g mX11_fits k 0 [(0, .ref (g.2.2.1 67)), (1, zv_i a), (2, zv_i b), (3, zv_i c)] [] σ
  refine zr_aload_n (pc := 0) C dX11_fits_0 0 rfl ?_
  refine zr_iconst (pc := 1) C dX11_fits_1 ?_
  refine zr_put (pc := 2) C 0 0 rfl dX11_fits_2 pX11_84 (by decide) (hs_67 _) rfl (fun τ_1 e_2 => ?_)
  have e76 : ∀ y, τ_1 76 y = σ 76 y := fun y => by rw [e_2, zs_put_ne (by decide)]
  have e77 : ∀ y, τ_1 77 y = σ 77 y := fun y => by rw [e_2, zs_put_ne (by decide)]
  have e17 : τ_1 67 17 = σ 67 17 := by rw [e_2, zs_put_off (by decide)]
  refine zr_iload_n (pc := 5) C dX11_fits_5 1 rfl ?_
  refine zr_iconst (pc := 6) C dX11_fits_6 ?_
  refine zr_iconst (pc := 7) C dX11_fits_7 ?_
  refine zr_callS (As := [zv_i a, zv_i 0, zv_i 5]) (rest := []) (pc := 8) C dX11_fits_8 kX11_in sX11_87 rfl (by decide) rfl (Nat.le_of_ble_eq_true rfl) (n_in g τ_1 a 0 5 (by omega) (by omega) (by omega)) (fun v_ τ_ h_ => ?_)
  obtain ⟨rfl, rfl⟩ := h_
  show zw_W g mX11_fits k 11 [(0, .ref (g.2.2.1 67)), (1, zv_i a), (2, zv_i b), (3, zv_i c)] [zv_i (zi_b (0 ≤ a ∧ a ≤ 5))] τ_1
  refine zr_if_eq_b (pc := 11) C 46 dX11_fits_11 (by decide) (fun h_3 => ?_) (fun h_3 => ?_)
  · refine zr_iconst (pc := 46) C dX11_fits_46 ?_
    exact zr_zret (pc := 47) C hr dX11_fits_47 rfl (by decide) (⟨zq_0 (by omega), e_2⟩)
  · have kb0 := hI.1 a (by omega) (by omega)
    have e76b := e76 a
    refine zr_aload_n (pc := 14) C dX11_fits_14 0 rfl ?_
    refine zr_get (v := .ref (g.2.2.1 76)) (pc := 15) C 12 (some (some 76)) dX11_fits_15 fX11_34 (by decide) (hs_67 _) rfl rfl ?_
    refine zr_iload_n (pc := 18) C dX11_fits_18 1 rfl ?_
    refine zr_iaload (pc := 19) C dX11_fits_19 (by decide) (hs_76 _) (by omega) (by decide) ?_
    refine zr_if_eq (pc := 20) C 46 dX11_fits_20 (by decide) (by omega) (fun h_4 => ?_) (fun h_4 => ?_)
    · have z76 : σ 76 a = 0 := (e76 a).symm.trans h_4
      refine zr_iconst (pc := 46) C dX11_fits_46 ?_
      exact zr_zret (pc := 47) C hr dX11_fits_47 rfl (by decide) (⟨zq_0 (by omega), e_2⟩)
    · have z76 : ¬ σ 76 a = 0 := fun z => h_4 ((e76 a).trans z)
      refine zr_iload_n (pc := 23) C dX11_fits_23 2 rfl ?_
      refine zr_iconst (pc := 24) C dX11_fits_24 ?_
      refine zr_sipush (pc := 25) C dX11_fits_25 (by decide) ?_
      refine zr_callS (As := [zv_i b, zv_i 1, zv_i 200]) (rest := []) (pc := 28) C dX11_fits_28 kX11_in sX11_87 rfl (by decide) rfl (Nat.le_of_ble_eq_true rfl) (n_in g τ_1 b 1 200 (by omega) (by omega) (by omega)) (fun v_ τ_ h_ => ?_)
      obtain ⟨rfl, rfl⟩ := h_
      show zw_W g mX11_fits k 31 [(0, .ref (g.2.2.1 67)), (1, zv_i a), (2, zv_i b), (3, zv_i c)] [zv_i (zi_b (1 ≤ b ∧ b ≤ 200))] τ_1
      refine zr_if_eq_b (pc := 31) C 46 dX11_fits_31 (by decide) (fun h_5 => ?_) (fun h_5 => ?_)
      · refine zr_iconst (pc := 46) C dX11_fits_46 ?_
        exact zr_zret (pc := 47) C hr dX11_fits_47 rfl (by decide) (⟨zq_0 (by omega), e_2⟩)
      · refine zr_iload_n (pc := 34) C dX11_fits_34 3 rfl ?_
        refine zr_bipush (pc := 35) C dX11_fits_35 (by decide) ?_
        refine zr_sipush (pc := 37) C dX11_fits_37 (by decide) ?_
        refine zr_callS (As := [zv_i c, zv_i 50, zv_i 900]) (rest := []) (pc := 40) C dX11_fits_40 kX11_in sX11_87 rfl (by decide) rfl (Nat.le_of_ble_eq_true rfl) (n_in g τ_1 c 50 900 (by omega) (by omega) (by omega)) (fun v_ τ_ h_ => ?_)
        obtain ⟨rfl, rfl⟩ := h_
        show zw_W g mX11_fits k 43 [(0, .ref (g.2.2.1 67)), (1, zv_i a), (2, zv_i b), (3, zv_i c)] [zv_i (zi_b (50 ≤ c ∧ c ≤ 900))] τ_1
        refine zr_if_ne_b (pc := 43) C 48 dX11_fits_43 (by decide) (fun h_6 => ?_) (fun h_6 => ?_)
        · have kb := hI.1 a (by omega) (by omega)
          have g1 := hI.2
          have m1 : 0 ≤ b * σ 76 a := Int.mul_nonneg (by omega) (by omega)
          have m2 : b * σ 76 a ≤ 200 * 4000 := Int.mul_le_mul (by omega) (by omega) (by omega) (by decide)
          have m3 : 0 ≤ (b - 1) * σ 67 17 := Int.mul_nonneg (by omega) (by omega)
          have m4 : (b - 1) * σ 67 17 ≤ 199 * 100 := Int.mul_le_mul (by omega) (by omega) (by omega) (by decide)
          have e76a := e76 a
          have e77a := e77 a
          refine zr_iload_n (pc := 48) C dX11_fits_48 2 rfl ?_
          refine zr_i2l (pc := 49) C dX11_fits_49 (by omega) ?_
          refine zr_aload_n (pc := 50) C dX11_fits_50 0 rfl ?_
          refine zr_get (v := .ref (g.2.2.1 76)) (pc := 51) C 12 (some (some 76)) dX11_fits_51 fX11_34 (by decide) (hs_67 _) rfl rfl ?_
          refine zr_iload_n (pc := 54) C dX11_fits_54 1 rfl ?_
          refine zr_iaload (pc := 55) C dX11_fits_55 (by decide) (hs_76 _) (by omega) (by decide) ?_
          refine zr_i2l (pc := 56) C dX11_fits_56 (by omega) ?_
          refine zr_lmul (pc := 57) C dX11_fits_57 ?_
          refine zr_iload_n (pc := 58) C dX11_fits_58 2 rfl ?_
          refine zr_iconst (pc := 59) C dX11_fits_59 ?_
          refine zr_isub (pc := 60) C dX11_fits_60 ?_
          refine zr_i2l (pc := 61) C dX11_fits_61 (by omega) ?_
          refine zr_aload_n (pc := 62) C dX11_fits_62 0 rfl ?_
          refine zr_get (v := zv_i (τ_1 67 17)) (pc := 63) C 17 none dX11_fits_63 fX11_121 (by decide) (hs_67 _) rfl rfl ?_
          refine zr_i2l (pc := 66) C dX11_fits_66 (by omega) ?_
          refine zr_lmul (pc := 67) C dX11_fits_67 ?_
          refine zr_ladd (pc := 68) C dX11_fits_68 ?_
          obtain ⟨ww, hww⟩ : ∃ x, x = ((b) * (τ_1 76 a)) + ((b - 1) * (τ_1 67 17)) := ⟨_, rfl⟩
          rw [← hww]
          rw [e76, e17] at hww
          have wb : 0 ≤ ww ∧ ww ≤ 819900 := by omega
          have w2 : 0 ≤ ww * ww := Int.mul_nonneg wb.1 wb.1
          have w3 : ww * ww ≤ 819900 * 819900 := Int.mul_le_mul wb.2 wb.2 wb.1 (by decide)
          have k2 : 0 ≤ σ 77 a * σ 77 a := Int.mul_nonneg kb.2.1 kb.2.1
          have k3 : σ 77 a * σ 77 a ≤ 4000 * 4000 := Int.mul_le_mul kb.2.2 kb.2.2 kb.2.1 (by decide)
          have d0 : 0 ≤ 10 * c ∧ 10 * c ≤ 9000 := by omega
          have d2 : 0 ≤ 10 * c * (10 * c) := Int.mul_nonneg d0.1 d0.1
          have d3 : 10 * c * (10 * c) ≤ 9000 * 9000 := Int.mul_le_mul d0.2 d0.2 d0.1 (by decide)
          refine zr_lstore (L' := [(4, zv_l (ww)), (0, .ref (g.2.2.1 67)), (1, zv_i a), (2, zv_i b), (3, zv_i c)]) (pc := 69) C dX11_fits_69 (by decide) rfl ?_
          refine zr_ldc2 (v := 10) (pc := 71) C 10 dX11_fits_71 (zt_mem 903 (by decide +kernel) rfl) (by decide) ?_
          refine zr_iload_n (pc := 74) C dX11_fits_74 4 rfl ?_
          refine zr_i2l (pc := 75) C dX11_fits_75 (by omega) ?_
          refine zr_lmul (pc := 76) C dX11_fits_76 ?_
          refine zr_lstore (L' := [(6, zv_l ((10) * (c))), (4, zv_l (ww)), (0, .ref (g.2.2.1 67)), (1, zv_i a), (2, zv_i b), (3, zv_i c)]) (pc := 77) C dX11_fits_77 (by decide) rfl ?_
          refine zr_lload (pc := 79) C dX11_fits_79 1 rfl ?_
          refine zr_lload (pc := 81) C dX11_fits_81 1 rfl ?_
          refine zr_lmul (pc := 83) C dX11_fits_83 ?_
          refine zr_aload_n (pc := 84) C dX11_fits_84 2 rfl ?_
          refine zr_get (v := .ref (g.2.2.1 77)) (pc := 85) C 13 (some (some 77)) dX11_fits_85 fX11_37 (by decide) (hs_67 _) rfl rfl ?_
          refine zr_iload_n (pc := 88) C dX11_fits_88 3 rfl ?_
          refine zr_iaload (pc := 89) C dX11_fits_89 (by decide) (hs_77 _) (by omega) (by decide) ?_
          refine zr_i2l (pc := 90) C dX11_fits_90 (by omega) ?_
          refine zr_aload_n (pc := 91) C dX11_fits_91 2 rfl ?_
          refine zr_get (v := .ref (g.2.2.1 77)) (pc := 92) C 13 (some (some 77)) dX11_fits_92 fX11_37 (by decide) (hs_67 _) rfl rfl ?_
          refine zr_iload_n (pc := 95) C dX11_fits_95 3 rfl ?_
          refine zr_iaload (pc := 96) C dX11_fits_96 (by decide) (hs_77 _) (by omega) (by decide) ?_
          refine zr_i2l (pc := 97) C dX11_fits_97 (by omega) ?_
          refine zr_lmul (pc := 98) C dX11_fits_98 ?_
          refine zr_ladd (pc := 99) C dX11_fits_99 ?_
          refine zr_lload (pc := 100) C dX11_fits_100 0 rfl ?_
          refine zr_lload (pc := 102) C dX11_fits_102 0 rfl ?_
          refine zr_lmul (pc := 104) C dX11_fits_104 ?_
          rw [e77]
          have zcb := zl_cb (ww * ww + σ 77 a * σ 77 a) (10 * c * (10 * c))
          have zcg := zl_cg (x := ww * ww + σ 77 a * σ 77 a) (y := 10 * c * (10 * c))
          refine zr_lcmp (pc := 105) C dX11_fits_105 (by omega) (by omega) ?_
          refine zr_if_gt (pc := 106) C 113 dX11_fits_106 (by decide) (by omega) (fun h_7 => ?_) (fun h_7 => ?_)
          · refine zr_iconst (pc := 113) C dX11_fits_113 ?_
            exact zr_zret (pc := 114) C hr dX11_fits_114 rfl (by decide) (⟨zq_0 (by rw [← hww]; omega), e_2⟩)
          · refine zr_iconst (pc := 109) C dX11_fits_109 ?_
            refine zr_goto (pc := 110) C 114 dX11_fits_110 (by decide) ?_
            exact zr_zret (pc := 114) C hr dX11_fits_114 rfl (by decide) (⟨zq_1 (by rw [← hww]; omega), e_2⟩)
        · refine zr_iconst (pc := 46) C dX11_fits_46 ?_
          exact zr_zret (pc := 47) C hr dX11_fits_47 rfl (by decide) (⟨zq_0 (by omega), e_2⟩)
