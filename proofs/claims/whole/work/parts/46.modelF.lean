set_option maxRecDepth 20000 in
set_option maxHeartbeats 4000000 in
theorem l_pr1 {g : zg_G} {k : zk_T} {Q : Option Value → zs_S → Prop} (C : zk_ok g mX11_prices k) (hr : zk_ret g mX11_prices Q k) (σ0 : zs_S) (σ1 : zs_S) (hM : md_S σ0 σ1) (gr a : Int) (ha : 0 ≤ a ∧ a < 6) (hex : zw_W g mX11_prices k 70 [(0, .ref (g.2.2.1 67)), (1, zv_i gr), (2, zv_i a), (3, zv_i (od_a (σ0 42) (σ0 43) (σ0 41 a) 4))] [] σ1) : ∀ (N : Nat) (σ : zs_S) (t s : Int), (4 - s).toNat < N → (σ = σ1) → (0 ≤ s ∧ s ≤ 4) → (t = od_a (σ0 42) (σ0 43) (σ0 41 a) s.toNat) → zw_W g mX11_prices k 13 [(0, .ref (g.2.2.1 67)), (1, zv_i gr), (2, zv_i a), (3, zv_i t), (4, zv_i s)] [] σ := by
  intro N
  induction N with
  | zero =>
    intro σ t s hN
    exact absurd hN (by omega)
  | succ N ih =>
    intro σ t s hN hs hs0 ht
    subst hs
    obtain ⟨hI, hz, hkf, hof⟩ := id hM
    obtain ⟨hI1, hI2, hI3, hI4⟩ := id hI
    have bt := od_b (sh := σ0 42) (ad := σ0 43) (nd := σ0 41 a) (fun j y1 y2 => (hI4.2 j y1 y2).2) s.toNat (by omega)
    rw [← ht] at bt
    obtain ⟨z1, z2, z3, z4⟩ := hz a (by omega) (by omega)
    have nb := hI4.1 a (by omega) (by omega)
    refine zr_iload (pc := 13) C dX11_prices_13 4 rfl ?_
    refine zr_iconst (pc := 15) C dX11_prices_15 ?_
    refine zr_icmp_ge (pc := 16) C 70 dX11_prices_16 (by decide) (by omega) (by omega) (fun h_1 => ?_) (fun h_1 => ?_)
    · refine zr_sub [0, 1, 2, 3] rfl ?_
      rw [ht, show s.toNat = 4 by omega]
      exact hex
    · have o := hof s (by omega) (by omega)
      have ob := hI4.2 s (by omega) (by omega)
      refine zr_aload_n (pc := 19) C dX11_prices_19 0 rfl ?_
      refine zr_get (v := .ref (g.2.2.1 81)) (pc := 20) C 18 (some (some 81)) dX11_prices_20 fX11_49 (by decide) (hs_67 _) rfl rfl ?_
      refine zr_iload (pc := 23) C dX11_prices_23 4 rfl ?_
      refine zr_iaload (pc := 25) C dX11_prices_25 (by decide) (hs_81 _) (by omega) (by decide) ?_
      refine zr_if_le (pc := 26) C 64 dX11_prices_26 (by decide) (by omega) (fun h_2 => ?_) (fun h_2 => ?_)
      · refine zr_iinc (L' := [(4, zv_i (s + 1)), (0, .ref (g.2.2.1 67)), (1, zv_i gr), (2, zv_i a), (3, zv_i t)]) (pc := 64) C dX11_prices_64 4 rfl (by decide) rfl ?_
        refine zr_goto (pc := 67) C 13 dX11_prices_67 (by decide) ?_
        refine zr_sub [1, 2, 3, 4, 0] rfl ?_
        exact ih σ (t) (s + 1) (by omega) rfl (by omega) (by rw [od_n (by omega) (by omega)]; exact ht)
      · refine zr_aload_n (pc := 29) C dX11_prices_29 0 rfl ?_
        refine zr_get (v := .ref (g.2.2.1 81)) (pc := 30) C 18 (some (some 81)) dX11_prices_30 fX11_49 (by decide) (hs_67 _) rfl rfl ?_
        refine zr_iload (pc := 33) C dX11_prices_33 4 rfl ?_
        refine zr_iaload (pc := 35) C dX11_prices_35 (by decide) (hs_81 _) (by omega) (by decide) ?_
        refine zr_aload_n (pc := 36) C dX11_prices_36 0 rfl ?_
        refine zr_get (v := .ref (g.2.2.1 79)) (pc := 37) C 15 (some (some 79)) dX11_prices_37 fX11_43 (by decide) (hs_67 _) rfl rfl ?_
        refine zr_iload_n (pc := 40) C dX11_prices_40 2 rfl ?_
        refine zr_iaload (pc := 41) C dX11_prices_41 (by decide) (hs_79 _) (by omega) (by decide) ?_
        refine zr_icmp_gt (pc := 42) C 64 dX11_prices_42 (by decide) (by omega) (by omega) (fun h_3 => ?_) (fun h_3 => ?_)
        · refine zr_iinc (L' := [(4, zv_i (s + 1)), (0, .ref (g.2.2.1 67)), (1, zv_i gr), (2, zv_i a), (3, zv_i t)]) (pc := 64) C dX11_prices_64 4 rfl (by decide) rfl ?_
          refine zr_goto (pc := 67) C 13 dX11_prices_67 (by decide) ?_
          refine zr_sub [1, 2, 3, 4, 0] rfl ?_
          exact ih σ (t) (s + 1) (by omega) rfl (by omega) (by rw [od_n (by omega) (by omega)]; exact ht)
        · refine zr_aload_n (pc := 45) C dX11_prices_45 0 rfl ?_
          refine zr_get (v := .ref (g.2.2.1 82)) (pc := 46) C 19 (some (some 82)) dX11_prices_46 fX11_52 (by decide) (hs_67 _) rfl rfl ?_
          refine zr_iload (pc := 49) C dX11_prices_49 4 rfl ?_
          refine zr_iaload (pc := 51) C dX11_prices_51 (by decide) (hs_82 _) (by omega) (by decide) ?_
          refine zr_iload_n (pc := 52) C dX11_prices_52 3 rfl ?_
          refine zr_icmp_le (pc := 53) C 64 dX11_prices_53 (by decide) (by omega) (by omega) (fun h_4 => ?_) (fun h_4 => ?_)
          · refine zr_iinc (L' := [(4, zv_i (s + 1)), (0, .ref (g.2.2.1 67)), (1, zv_i gr), (2, zv_i a), (3, zv_i t)]) (pc := 64) C dX11_prices_64 4 rfl (by decide) rfl ?_
            refine zr_goto (pc := 67) C 13 dX11_prices_67 (by decide) ?_
            refine zr_sub [1, 2, 3, 4, 0] rfl ?_
            exact ih σ (t) (s + 1) (by omega) rfl (by omega) (by rw [od_y (by omega) (by omega), ← ht]; omega)
          · refine zr_aload_n (pc := 56) C dX11_prices_56 0 rfl ?_
            refine zr_get (v := .ref (g.2.2.1 82)) (pc := 57) C 19 (some (some 82)) dX11_prices_57 fX11_52 (by decide) (hs_67 _) rfl rfl ?_
            refine zr_iload (pc := 60) C dX11_prices_60 4 rfl ?_
            refine zr_iaload (pc := 62) C dX11_prices_62 (by decide) (hs_82 _) (by omega) (by decide) ?_
            refine zr_istore_n (L' := [(3, zv_i (σ 82 s)), (0, .ref (g.2.2.1 67)), (1, zv_i gr), (2, zv_i a), (4, zv_i s)]) (pc := 63) C dX11_prices_63 (by decide) rfl ?_
            refine zr_iinc (L' := [(4, zv_i (s + 1)), (3, zv_i (σ 82 s)), (0, .ref (g.2.2.1 67)), (1, zv_i gr), (2, zv_i a)]) (pc := 64) C dX11_prices_64 4 rfl (by decide) rfl ?_
            refine zr_goto (pc := 67) C 13 dX11_prices_67 (by decide) ?_
            refine zr_sub [2, 3, 4, 1, 0] rfl ?_
            exact ih σ (σ 82 s) (s + 1) (by omega) rfl (by omega) (by rw [od_y (by omega) (by omega), ← ht]; omega)

set_option maxRecDepth 20000 in
set_option maxHeartbeats 4000000 in
theorem l_pr2 {g : zg_G} {k : zk_T} {Q : Option Value → zs_S → Prop} (C : zk_ok g mX11_prices k) (hr : zk_ret g mX11_prices Q k) (σ0 : zs_S) (σ1 : zs_S) (hM : md_S σ0 σ1) (gr : Int) (hg : 1 ≤ gr ∧ gr ≤ 3) (hQ : ∀ τ, zf_x σ1 τ [84] → (∀ y : Int, 0 ≤ y → y < 6 → τ 84 y = sw_p σ0 gr y) → Q none τ) : ∀ (N : Nat) (σ : zs_S) (a : Int), (6 - a).toNat < N → (0 ≤ a ∧ a ≤ 6) → (zf_x σ1 σ [84]) → (∀ y : Int, 0 ≤ y → y < a → σ 84 y = sw_p σ0 gr y) → zw_W g mX11_prices k 2 [(0, .ref (g.2.2.1 67)), (1, zv_i gr), (2, zv_i a)] [] σ := by
  intro N
  induction N with
  | zero =>
    intro σ a hN
    exact absurd hN (by omega)
  | succ N ih =>
    intro σ a hN ha fr hp
    obtain ⟨hI, hz, hkf, hof⟩ := id hM
    obtain ⟨hI1, hI2, hI3, hI4⟩ := id hI
    refine zr_iload_n (pc := 2) C dX11_prices_2 2 rfl ?_
    refine zr_bipush (pc := 3) C dX11_prices_3 (by decide) ?_
    refine zr_icmp_ge (pc := 5) C 107 dX11_prices_5 (by decide) (by omega) (by omega) (fun h_1 => ?_) (fun h_1 => ?_)
    · exact zr_vret (pc := 107) C hr dX11_prices_107 rfl (hQ σ fr (fun y y1 y2 => hp y y1 (by omega)))
    · refine zr_iconst (pc := 8) C dX11_prices_8 ?_
      refine zr_istore_n (L' := [(3, zv_i 0), (0, .ref (g.2.2.1 67)), (1, zv_i gr), (2, zv_i a)]) (pc := 9) C dX11_prices_9 (by decide) rfl ?_
      refine zr_iconst (pc := 10) C dX11_prices_10 ?_
      refine zr_istore (L' := [(4, zv_i 0), (3, zv_i 0), (0, .ref (g.2.2.1 67)), (1, zv_i gr), (2, zv_i a)]) (pc := 11) C dX11_prices_11 (by decide) rfl ?_
      refine zr_sub [2, 3, 4, 1, 0] rfl ?_
      refine l_pr1 C hr σ0 σ (md_Sf hM fr (by simp)) gr a (by omega) ?_ 5 σ 0 0 (by omega) rfl (by omega) rfl
      obtain ⟨z1, z2, z3, z4⟩ := hz a (by omega) (by omega)
      obtain ⟨y1, y2, y3⟩ := hI1 a (by omega) (by omega)
      have e76 : σ 76 a = σ0 (28 + 2 * a.toNat) 0 := by rw [fr 76 (by decide)]; exact z1
      have zz : σ 78 (4 * a + gr) = σ0 (29 + 2 * a.toNat) (gr - 1) := by rw [fr 78 (by decide)]; exact z4 gr (by omega) (by omega)
      refine zr_aload_n (pc := 70) C dX11_prices_70 0 rfl ?_
      refine zr_get (v := .ref (g.2.2.1 84)) (pc := 71) C 23 (some (some 84)) dX11_prices_71 fX11_58 (by decide) (hs_67 _) rfl rfl ?_
      refine zr_iload_n (pc := 74) C dX11_prices_74 2 rfl ?_
      refine zr_aload_n (pc := 75) C dX11_prices_75 0 rfl ?_
      refine zr_get (v := .ref (g.2.2.1 76)) (pc := 76) C 12 (some (some 76)) dX11_prices_76 fX11_34 (by decide) (hs_67 _) rfl rfl ?_
      refine zr_iload_n (pc := 79) C dX11_prices_79 2 rfl ?_
      refine zr_iaload (pc := 80) C dX11_prices_80 (by decide) (hs_76 _) (by omega) (by decide) ?_
      refine zr_if_ne (pc := 81) C 88 dX11_prices_81 (by decide) (by omega) (fun h_101 => ?_) (fun h_101 => ?_)
      · refine zr_aload_n (pc := 88) C dX11_prices_88 0 rfl ?_
        refine zr_get (v := .ref (g.2.2.1 78)) (pc := 89) C 14 (some (some 78)) dX11_prices_89 fX11_40 (by decide) (hs_67 _) rfl rfl ?_
        refine zr_iconst (pc := 92) C dX11_prices_92 ?_
        refine zr_iload_n (pc := 93) C dX11_prices_93 2 rfl ?_
        refine zr_imul (pc := 94) C dX11_prices_94 ?_
        refine zr_iload_n (pc := 95) C dX11_prices_95 1 rfl ?_
        refine zr_iadd (pc := 96) C dX11_prices_96 ?_
        refine zr_iaload (pc := 97) C dX11_prices_97 (by decide) (hs_78 _) (by omega) (by decide) ?_
        refine zr_iload_n (pc := 98) C dX11_prices_98 3 rfl ?_
        refine zr_iadd (pc := 99) C dX11_prices_99 ?_
        refine zr_iastore (pc := 100) C dX11_prices_100 (by decide) (hs_84 _) (by omega) (by decide) (fun τ_102 e_103 => ?_)
        refine zr_iinc (L' := [(2, zv_i (a + 1)), (0, .ref (g.2.2.1 67)), (1, zv_i gr), (3, zv_i (od_a (σ0 42) (σ0 43) (σ0 41 a) 4))]) (pc := 101) C dX11_prices_101 2 rfl (by decide) rfl ?_
        refine zr_goto (pc := 104) C 2 dX11_prices_104 (by decide) ?_
        have ep : (σ 78 ((4 * a) + gr)) + (od_a (σ0 42) (σ0 43) (σ0 41 a) 4) = sw_p σ0 gr a := by unfold sw_p; rw [if_pos (by omega)]; rw [zz]
        refine zr_sub [1, 2, 0] rfl ?_
        exact ih τ_102 (a + 1) (by omega) (by omega) (zf_p fr e_103 (by decide)) (fun y y1 y2 => by
          rw [e_103, zs_put_at]
          by_cases z : y = a
          · rw [if_pos z, z]; exact ep
          · rw [if_neg z]; exact hp y y1 (by omega))
      · refine zr_iconst (pc := 84) C dX11_prices_84 ?_
        refine zr_goto (pc := 85) C 100 dX11_prices_85 (by decide) ?_
        refine zr_iastore (pc := 100) C dX11_prices_100 (by decide) (hs_84 _) (by omega) (by decide) (fun τ_104 e_105 => ?_)
        refine zr_iinc (L' := [(2, zv_i (a + 1)), (0, .ref (g.2.2.1 67)), (1, zv_i gr), (3, zv_i (od_a (σ0 42) (σ0 43) (σ0 41 a) 4))]) (pc := 101) C dX11_prices_101 2 rfl (by decide) rfl ?_
        refine zr_goto (pc := 104) C 2 dX11_prices_104 (by decide) ?_
        have ep : 0 = sw_p σ0 gr a := by unfold sw_p; rw [if_neg (by omega)]
        refine zr_sub [1, 2, 0] rfl ?_
        exact ih τ_104 (a + 1) (by omega) (by omega) (zf_p fr e_105 (by decide)) (fun y y1 y2 => by
          rw [e_105, zs_put_at]
          by_cases z : y = a
          · rw [if_pos z, z]; exact ep
          · rw [if_neg z]; exact hp y y1 (by omega))

set_option maxRecDepth 20000 in
set_option maxHeartbeats 4000000 in
theorem n_prices (g : zg_G) (σ : zs_S) (σ0 : zs_S) (hM : md_S σ0 σ) (gr : Int) (hg : 1 ≤ gr ∧ gr ≤ 3) : zm_Met g mX11_prices σ [.ref (g.2.2.1 67), zv_i gr] (fun v τ => v = none ∧ zf_x σ τ [84] ∧ (∀ y : Int, 0 ≤ y → y < 6 → τ 84 y = sw_p σ0 gr y)) := by
  refine zm_of (by decide +kernel) (Nat.le_of_ble_eq_true rfl) ?_
  intro k C hr
  show zw_W g mX11_prices k 0 [(0, .ref (g.2.2.1 67)), (1, zv_i gr)] [] σ
  refine zr_iconst (pc := 0) C dX11_prices_0 ?_
  refine zr_istore_n (L' := [(2, zv_i 0), (0, .ref (g.2.2.1 67)), (1, zv_i gr)]) (pc := 1) C dX11_prices_1 (by decide) rfl ?_
  refine zr_sub [1, 2, 0] rfl ?_
  exact l_pr2 C hr σ0 σ hM gr hg (fun τ f h => ⟨rfl, f, h⟩) 7 σ 0 (by omega) (by omega) (zf_r σ _) (fun y y1 y2 => absurd y2 (by omega))

set_option maxRecDepth 20000 in
set_option maxHeartbeats 4000000 in
theorem n_within (g : zg_G) (σ : zs_S) (a b d : Int) (ha : 0 ≤ a ∧ a ≤ 20000) (hb : 0 ≤ b ∧ b ≤ 20000) (hd : 0 ≤ d ∧ d ≤ 20000) : zm_Met g mX11_isWithin σ [zv_i a, zv_i b, zv_i d] (fun v τ => v = some (zv_i (zi_b (a * a + b * b ≤ d * d))) ∧ σ = τ) := by
  refine zm_of (by decide +kernel) (Nat.le_of_ble_eq_true rfl) ?_
  intro k C hr
  show zw_W g mX11_isWithin k 0 [(0, zv_i a), (1, zv_i b), (2, zv_i d)] [] σ
  have qa := Int.mul_nonneg ha.1 ha.1
  have qb := Int.mul_nonneg hb.1 hb.1
  have qd := Int.mul_nonneg hd.1 hd.1
  have qa2 : a * a ≤ 20000 * 20000 := Int.mul_le_mul ha.2 ha.2 ha.1 (by decide)
  have qb2 : b * b ≤ 20000 * 20000 := Int.mul_le_mul hb.2 hb.2 hb.1 (by decide)
  have qd2 : d * d ≤ 20000 * 20000 := Int.mul_le_mul hd.2 hd.2 hd.1 (by decide)
  refine zr_iload_n (pc := 0) C dX11_isWithin_0 0 rfl ?_
  refine zr_iload_n (pc := 1) C dX11_isWithin_1 0 rfl ?_
  refine zr_imul (pc := 2) C dX11_isWithin_2 ?_
  refine zr_iload_n (pc := 3) C dX11_isWithin_3 1 rfl ?_
  refine zr_iload_n (pc := 4) C dX11_isWithin_4 1 rfl ?_
  refine zr_imul (pc := 5) C dX11_isWithin_5 ?_
  refine zr_iadd (pc := 6) C dX11_isWithin_6 ?_
  refine zr_iload_n (pc := 7) C dX11_isWithin_7 2 rfl ?_
  refine zr_iload_n (pc := 8) C dX11_isWithin_8 2 rfl ?_
  refine zr_imul (pc := 9) C dX11_isWithin_9 ?_
  refine zr_icmp_gt (pc := 10) C 17 dX11_isWithin_10 (by decide) (by omega) (by omega) (fun h_1 => ?_) (fun h_1 => ?_)
  · refine zr_iconst (pc := 17) C dX11_isWithin_17 ?_
    exact zr_zret (pc := 18) C hr dX11_isWithin_18 rfl (by decide) (⟨zq_0 (by omega), rfl⟩)
  · refine zr_iconst (pc := 13) C dX11_isWithin_13 ?_
    refine zr_goto (pc := 14) C 18 dX11_isWithin_14 (by decide) ?_
    exact zr_zret (pc := 18) C hr dX11_isWithin_18 rfl (by decide) (⟨zq_1 (by omega), rfl⟩)

set_option maxRecDepth 20000 in
set_option maxHeartbeats 4000000 in
theorem n_beside (g : zg_G) (σ : zs_S) (w j h d : Int) (hj : 0 ≤ j ∧ j < 6) (hw : 0 ≤ w ∧ w ≤ 9300) (hh : 0 ≤ h ∧ h ≤ 5000) (hd : 0 ≤ d ∧ d ≤ 9000) (hI : sq_I σ) : zm_Met g mX11_beside σ [.ref (g.2.2.1 67), zv_i w, zv_i j, zv_i h, zv_i d] (fun v τ => v = some (zv_i (sq_b σ h d w j)) ∧ σ = τ) := by
  refine zm_of (by decide +kernel) (Nat.le_of_ble_eq_true rfl) ?_
  intro k C hr
  show zw_W g mX11_beside k 0 [(0, .ref (g.2.2.1 67)), (1, zv_i w), (2, zv_i j), (3, zv_i h), (4, zv_i d)] [] σ
  obtain ⟨b1, b2, b3⟩ := hI.1 j (by omega) (by omega)
  have b4 := hI.2
  have ew : w + σ 76 j + σ 67 17 - σ 67 17 = w + σ 76 j := by omega
  refine zr_aload_n (pc := 0) C dX11_beside_0 0 rfl ?_
  refine zr_get (v := .ref (g.2.2.1 84)) (pc := 1) C 23 (some (some 84)) dX11_beside_1 fX11_58 (by decide) (hs_67 _) rfl rfl ?_
  refine zr_iload_n (pc := 4) C dX11_beside_4 2 rfl ?_
  refine zr_iaload (pc := 5) C dX11_beside_5 (by decide) (hs_84 _) (by omega) (by decide) ?_
  refine zr_if_eq (pc := 6) C 19 dX11_beside_6 (by decide) (by omega) (fun h_1 => ?_) (fun h_1 => ?_)
  · refine zr_iconst (pc := 19) C dX11_beside_19 ?_
    exact zr_iret (pc := 20) C hr dX11_beside_20 rfl (⟨zq_i (by unfold sq_b; rw [if_pos (by omega)]), rfl⟩)
  · refine zr_aload_n (pc := 9) C dX11_beside_9 0 rfl ?_
    refine zr_get (v := .ref (g.2.2.1 77)) (pc := 10) C 13 (some (some 77)) dX11_beside_10 fX11_37 (by decide) (hs_67 _) rfl rfl ?_
    refine zr_iload_n (pc := 13) C dX11_beside_13 2 rfl ?_
    refine zr_iaload (pc := 14) C dX11_beside_14 (by decide) (hs_77 _) (by omega) (by decide) ?_
    refine zr_iload_n (pc := 15) C dX11_beside_15 3 rfl ?_
    refine zr_icmp_eq (pc := 16) C 21 dX11_beside_16 (by decide) (by omega) (by omega) (fun h_2 => ?_) (fun h_2 => ?_)
    · refine zr_iload_n (pc := 21) C dX11_beside_21 1 rfl ?_
      refine zr_aload_n (pc := 22) C dX11_beside_22 0 rfl ?_
      refine zr_get (v := .ref (g.2.2.1 76)) (pc := 23) C 12 (some (some 76)) dX11_beside_23 fX11_34 (by decide) (hs_67 _) rfl rfl ?_
      refine zr_iload_n (pc := 26) C dX11_beside_26 2 rfl ?_
      refine zr_iaload (pc := 27) C dX11_beside_27 (by decide) (hs_76 _) (by omega) (by decide) ?_
      refine zr_iadd (pc := 28) C dX11_beside_28 ?_
      refine zr_aload_n (pc := 29) C dX11_beside_29 0 rfl ?_
      refine zr_get (v := zv_i (σ 67 17)) (pc := 30) C 17 none dX11_beside_30 fX11_121 (by decide) (hs_67 _) rfl rfl ?_
      refine zr_iadd (pc := 33) C dX11_beside_33 ?_
      refine zr_istore (L' := [(5, zv_i ((w + (σ 76 j)) + (σ 67 17))), (0, .ref (g.2.2.1 67)), (1, zv_i w), (2, zv_i j), (3, zv_i h), (4, zv_i d)]) (pc := 34) C dX11_beside_34 (by decide) rfl ?_
      refine zr_iload (pc := 36) C dX11_beside_36 0 rfl ?_
      refine zr_aload_n (pc := 38) C dX11_beside_38 1 rfl ?_
      refine zr_get (v := zv_i (σ 67 17)) (pc := 39) C 17 none dX11_beside_39 fX11_121 (by decide) (hs_67 _) rfl rfl ?_
      refine zr_isub (pc := 42) C dX11_beside_42 ?_
      refine zr_iload_n (pc := 43) C dX11_beside_43 4 rfl ?_
      refine zr_iload (pc := 44) C dX11_beside_44 5 rfl ?_
      refine zr_callS (As := [zv_i (((w + (σ 76 j)) + (σ 67 17)) - (σ 67 17)), zv_i h, zv_i d]) (rest := []) (pc := 46) C dX11_beside_46 kX11_isWithin sX11_125 rfl (by decide) rfl (Nat.le_of_ble_eq_true rfl) (n_within g σ (((w + (σ 76 j)) + (σ 67 17)) - (σ 67 17)) h d (by omega) (by omega) (by omega)) (fun v_ τ_ h_ => ?_)
      obtain ⟨rfl, rfl⟩ := h_
      show zw_W g mX11_beside k 49 [(5, zv_i ((w + (σ 76 j)) + (σ 67 17))), (0, .ref (g.2.2.1 67)), (1, zv_i w), (2, zv_i j), (3, zv_i h), (4, zv_i d)] [zv_i (zi_b ((((w + (σ 76 j)) + (σ 67 17)) - (σ 67 17)) * (((w + (σ 76 j)) + (σ 67 17)) - (σ 67 17)) + h * h ≤ d * d))] σ
      refine zr_if_eq_b (pc := 49) C 57 dX11_beside_49 (by decide) (fun h_3 => ?_) (fun h_3 => ?_)
      · refine zr_iconst (pc := 57) C dX11_beside_57 ?_
        exact zr_iret (pc := 58) C hr dX11_beside_58 rfl (⟨zq_i (by unfold sq_b; rw [if_pos (Or.inr (Or.inr (by rw [ew] at h_3; exact h_3)))]), rfl⟩)
      · refine zr_iload (pc := 52) C dX11_beside_52 0 rfl ?_
        refine zr_goto (pc := 54) C 58 dX11_beside_54 (by decide) ?_
        exact zr_iret (pc := 58) C hr dX11_beside_58 rfl (⟨zq_i (by unfold sq_b; rw [if_neg (by rintro (z | z | z); exact h_1 z; exact z h_2; rw [ew] at h_3; exact z h_3)]), rfl⟩)
    · refine zr_iconst (pc := 19) C dX11_beside_19 ?_
      exact zr_iret (pc := 20) C hr dX11_beside_20 rfl (⟨zq_i (by unfold sq_b; rw [if_pos (by omega)]), rfl⟩)

set_option maxRecDepth 20000 in
set_option maxHeartbeats 4000000 in
theorem n_above (g : zg_G) (σ : zs_S) (y j d : Int) (hj : 0 ≤ j ∧ j < 6) (hy : 0 ≤ y ∧ y ≤ 9300) (hd : 0 ≤ d ∧ d ≤ 9000) (hI : sq_I σ) : zm_Met g mX11_above σ [.ref (g.2.2.1 67), zv_i y, zv_i j, zv_i d] (fun v τ => v = some (zv_i (sq_a σ d y j)) ∧ σ = τ) := by
  refine zm_of (by decide +kernel) (Nat.le_of_ble_eq_true rfl) ?_
  intro k C hr
  show zw_W g mX11_above k 0 [(0, .ref (g.2.2.1 67)), (1, zv_i y), (2, zv_i j), (3, zv_i d)] [] σ
  obtain ⟨b1, b2, b3⟩ := hI.1 j (by omega) (by omega)
  have b4 := hI.2
  refine zr_aload_n (pc := 0) C dX11_above_0 0 rfl ?_
  refine zr_get (v := .ref (g.2.2.1 84)) (pc := 1) C 23 (some (some 84)) dX11_above_1 fX11_58 (by decide) (hs_67 _) rfl rfl ?_
  refine zr_iload_n (pc := 4) C dX11_above_4 2 rfl ?_
  refine zr_iaload (pc := 5) C dX11_above_5 (by decide) (hs_84 _) (by omega) (by decide) ?_
  refine zr_if_ne (pc := 6) C 11 dX11_above_6 (by decide) (by omega) (fun h_1 => ?_) (fun h_1 => ?_)
  · refine zr_iload_n (pc := 11) C dX11_above_11 1 rfl ?_
    refine zr_iconst (pc := 12) C dX11_above_12 ?_
    refine zr_aload_n (pc := 13) C dX11_above_13 0 rfl ?_
    refine zr_get (v := .ref (g.2.2.1 76)) (pc := 14) C 12 (some (some 76)) dX11_above_14 fX11_34 (by decide) (hs_67 _) rfl rfl ?_
    refine zr_iload_n (pc := 17) C dX11_above_17 2 rfl ?_
    refine zr_iaload (pc := 18) C dX11_above_18 (by decide) (hs_76 _) (by omega) (by decide) ?_
    refine zr_imul (pc := 19) C dX11_above_19 ?_
    refine zr_iadd (pc := 20) C dX11_above_20 ?_
    refine zr_iload_n (pc := 21) C dX11_above_21 1 rfl ?_
    refine zr_if_ne (pc := 22) C 29 dX11_above_22 (by decide) (by omega) (fun h_2 => ?_) (fun h_2 => ?_)
    · refine zr_iconst (pc := 29) C dX11_above_29 ?_
      refine zr_aload_n (pc := 30) C dX11_above_30 0 rfl ?_
      refine zr_get (v := zv_i (σ 67 17)) (pc := 31) C 17 none dX11_above_31 fX11_121 (by decide) (hs_67 _) rfl rfl ?_
      refine zr_imul (pc := 34) C dX11_above_34 ?_
      refine zr_iadd (pc := 35) C dX11_above_35 ?_
      refine zr_istore (L' := [(4, zv_i ((y + (2 * (σ 76 j))) + (2 * (σ 67 17)))), (0, .ref (g.2.2.1 67)), (1, zv_i y), (2, zv_i j), (3, zv_i d)]) (pc := 36) C dX11_above_36 (by decide) rfl ?_
      refine zr_aload_n (pc := 38) C dX11_above_38 1 rfl ?_
      refine zr_get (v := .ref (g.2.2.1 77)) (pc := 39) C 13 (some (some 77)) dX11_above_39 fX11_37 (by decide) (hs_67 _) rfl rfl ?_
      refine zr_iload_n (pc := 42) C dX11_above_42 3 rfl ?_
      refine zr_iaload (pc := 43) C dX11_above_43 (by decide) (hs_77 _) (by omega) (by decide) ?_
      refine zr_iload (pc := 44) C dX11_above_44 0 rfl ?_
      refine zr_iload_n (pc := 46) C dX11_above_46 4 rfl ?_
      refine zr_callS (As := [zv_i (σ 77 j), zv_i ((y + (2 * (σ 76 j))) + (2 * (σ 67 17))), zv_i d]) (rest := []) (pc := 47) C dX11_above_47 kX11_isWithin sX11_125 rfl (by decide) rfl (Nat.le_of_ble_eq_true rfl) (n_within g σ (σ 77 j) ((y + (2 * (σ 76 j))) + (2 * (σ 67 17))) d (by omega) (by omega) (by omega)) (fun v_ τ_ h_ => ?_)
      obtain ⟨rfl, rfl⟩ := h_
      show zw_W g mX11_above k 50 [(4, zv_i ((y + (2 * (σ 76 j))) + (2 * (σ 67 17)))), (0, .ref (g.2.2.1 67)), (1, zv_i y), (2, zv_i j), (3, zv_i d)] [zv_i (zi_b ((σ 77 j) * (σ 77 j) + ((y + (2 * (σ 76 j))) + (2 * (σ 67 17))) * ((y + (2 * (σ 76 j))) + (2 * (σ 67 17))) ≤ d * d))] σ
      refine zr_if_eq_b (pc := 50) C 58 dX11_above_50 (by decide) (fun h_3 => ?_) (fun h_3 => ?_)
      · refine zr_iconst (pc := 58) C dX11_above_58 ?_
        exact zr_iret (pc := 59) C hr dX11_above_59 rfl (⟨zq_i (by unfold sq_a; have et : sq_t σ y j = y + 2 * σ 76 j + 2 * σ 67 17 := (by unfold sq_t; rw [if_neg (by omega)]); rw [et, if_pos (Or.inr h_3)]), rfl⟩)
      · refine zr_iload (pc := 53) C dX11_above_53 0 rfl ?_
        refine zr_goto (pc := 55) C 59 dX11_above_55 (by decide) ?_
        exact zr_iret (pc := 59) C hr dX11_above_59 rfl (⟨zq_i (by unfold sq_a; have et : sq_t σ y j = y + 2 * σ 76 j + 2 * σ 67 17 := (by unfold sq_t; rw [if_neg (by omega)]); rw [et, if_neg (by rintro (z | z); exact h_1 z; exact z h_3)]), rfl⟩)
    · refine zr_iconst (pc := 25) C dX11_above_25 ?_
      refine zr_goto (pc := 26) C 35 dX11_above_26 (by decide) ?_
      refine zr_iadd (pc := 35) C dX11_above_35 ?_
      refine zr_istore (L' := [(4, zv_i ((y + (2 * (σ 76 j))) + 0)), (0, .ref (g.2.2.1 67)), (1, zv_i y), (2, zv_i j), (3, zv_i d)]) (pc := 36) C dX11_above_36 (by decide) rfl ?_
      refine zr_aload_n (pc := 38) C dX11_above_38 1 rfl ?_
      refine zr_get (v := .ref (g.2.2.1 77)) (pc := 39) C 13 (some (some 77)) dX11_above_39 fX11_37 (by decide) (hs_67 _) rfl rfl ?_
      refine zr_iload_n (pc := 42) C dX11_above_42 3 rfl ?_
      refine zr_iaload (pc := 43) C dX11_above_43 (by decide) (hs_77 _) (by omega) (by decide) ?_
      refine zr_iload (pc := 44) C dX11_above_44 0 rfl ?_
      refine zr_iload_n (pc := 46) C dX11_above_46 4 rfl ?_
      refine zr_callS (As := [zv_i (σ 77 j), zv_i ((y + (2 * (σ 76 j))) + 0), zv_i d]) (rest := []) (pc := 47) C dX11_above_47 kX11_isWithin sX11_125 rfl (by decide) rfl (Nat.le_of_ble_eq_true rfl) (n_within g σ (σ 77 j) ((y + (2 * (σ 76 j))) + 0) d (by omega) (by omega) (by omega)) (fun v_ τ_ h_ => ?_)
      obtain ⟨rfl, rfl⟩ := h_
      show zw_W g mX11_above k 50 [(4, zv_i ((y + (2 * (σ 76 j))) + 0)), (0, .ref (g.2.2.1 67)), (1, zv_i y), (2, zv_i j), (3, zv_i d)] [zv_i (zi_b ((σ 77 j) * (σ 77 j) + ((y + (2 * (σ 76 j))) + 0) * ((y + (2 * (σ 76 j))) + 0) ≤ d * d))] σ
      refine zr_if_eq_b (pc := 50) C 58 dX11_above_50 (by decide) (fun h_4 => ?_) (fun h_4 => ?_)
      · refine zr_iconst (pc := 58) C dX11_above_58 ?_
        exact zr_iret (pc := 59) C hr dX11_above_59 rfl (⟨zq_i (by unfold sq_a; have et : sq_t σ y j = y + 2 * σ 76 j + 0 := (by unfold sq_t; rw [if_pos (by omega)]); rw [et, if_pos (Or.inr h_4)]), rfl⟩)
      · refine zr_iload (pc := 53) C dX11_above_53 0 rfl ?_
        refine zr_goto (pc := 55) C 59 dX11_above_55 (by decide) ?_
        exact zr_iret (pc := 59) C hr dX11_above_59 rfl (⟨zq_i (by unfold sq_a; have et : sq_t σ y j = y + 2 * σ 76 j + 0 := (by unfold sq_t; rw [if_pos (by omega)]); rw [et, if_neg (by rintro (z | z); exact h_1 z; exact z h_4)]), rfl⟩)
  · refine zr_iconst (pc := 9) C dX11_above_9 ?_
    exact zr_iret (pc := 10) C hr dX11_above_10 rfl (⟨zq_i (by unfold sq_a; rw [if_pos (by omega)]), rfl⟩)

set_option maxRecDepth 20000 in
set_option maxHeartbeats 4000000 in
theorem n_step (g : zg_G) (σ : zs_S) (b p j h d : Int) (hb : b = 0 ∨ b = 1) (hj : 0 ≤ j ∧ j < 6) (hp : 0 ≤ p ∧ p ≤ 9300) (hh : 0 ≤ h ∧ h ≤ 5000) (hd : 0 ≤ d ∧ d ≤ 9000) (hI : sq_I σ) (N : Int) (hN : sq_N σ b h d p j = N) : zm_Met g mX11_step σ [.ref (g.2.2.1 67), zv_i b, zv_i p, zv_i j, zv_i h, zv_i d] (fun v τ => v = some (zv_i N) ∧ σ = τ) := by
  refine zm_of (by decide +kernel) (Nat.le_of_ble_eq_true rfl) ?_
  intro k C hr
  show zw_W g mX11_step k 0 [(0, .ref (g.2.2.1 67)), (1, zv_i b), (2, zv_i p), (3, zv_i j), (4, zv_i h), (5, zv_i d)] [] σ
  refine zr_iload_n (pc := 0) C dX11_step_0 1 rfl ?_
  refine zr_if_eq (pc := 1) C 17 dX11_step_1 (by decide) (by omega) (fun h_1 => ?_) (fun h_1 => ?_)
  · refine zr_aload_n (pc := 17) C dX11_step_17 0 rfl ?_
    refine zr_iload_n (pc := 18) C dX11_step_18 2 rfl ?_
    refine zr_iload_n (pc := 19) C dX11_step_19 3 rfl ?_
    refine zr_iload (pc := 20) C dX11_step_20 5 rfl ?_
    refine zr_callV (As := [zv_i p, zv_i j, zv_i d]) (rest := []) (b := 67) (pc := 22) C dX11_step_22 kX11_above vX11_132 rfl (by decide) (by decide) (hs_67 _) rfl (Nat.le_of_ble_eq_true rfl) (n_above g σ p j d (by omega) (by omega) (by omega) hI) (fun v_ τ_ h_ => ?_)
    obtain ⟨rfl, rfl⟩ := h_
    show zw_W g mX11_step k 25 [(0, .ref (g.2.2.1 67)), (1, zv_i b), (2, zv_i p), (3, zv_i j), (4, zv_i h), (5, zv_i d)] [zv_i (sq_a σ d p j)] σ
    exact zr_iret (pc := 25) C hr dX11_step_25 rfl (⟨zq_i (by rw [← hN]; unfold sq_N; rw [if_neg (by omega)]), rfl⟩)
  · refine zr_aload_n (pc := 4) C dX11_step_4 0 rfl ?_
    refine zr_iload_n (pc := 5) C dX11_step_5 2 rfl ?_
    refine zr_iload_n (pc := 6) C dX11_step_6 3 rfl ?_
    refine zr_iload (pc := 7) C dX11_step_7 4 rfl ?_
    refine zr_iload (pc := 9) C dX11_step_9 5 rfl ?_
    refine zr_callV (As := [zv_i p, zv_i j, zv_i h, zv_i d]) (rest := []) (b := 67) (pc := 11) C dX11_step_11 kX11_beside vX11_128 rfl (by decide) (by decide) (hs_67 _) rfl (Nat.le_of_ble_eq_true rfl) (n_beside g σ p j h d (by omega) (by omega) (by omega) (by omega) hI) (fun v_ τ_ h_ => ?_)
    obtain ⟨rfl, rfl⟩ := h_
    show zw_W g mX11_step k 14 [(0, .ref (g.2.2.1 67)), (1, zv_i b), (2, zv_i p), (3, zv_i j), (4, zv_i h), (5, zv_i d)] [zv_i (sq_b σ h d p j)] σ
    refine zr_goto (pc := 14) C 25 dX11_step_14 (by decide) ?_
    exact zr_iret (pc := 25) C hr dX11_step_25 rfl (⟨zq_i (by rw [← hN]; unfold sq_N; rw [if_pos (by omega)]), rfl⟩)

set_option maxRecDepth 20000 in
set_option maxHeartbeats 4000000 in
theorem n_isBest (g : zg_G) (σ : zs_S) (b p j h d : Int) (hb : b = 0 ∨ b = 1) (hj : 0 ≤ j ∧ j < 6) (hp : 0 ≤ p ∧ p ≤ 9300) (hh : 0 ≤ h ∧ h ≤ 5000) (hd : 0 ≤ d ∧ d ≤ 9000) (hI : sq_I σ) (N : Int) (hN : sq_N σ b h d p j = N) (hNb : -1 ≤ N ∧ N ≤ 9300) (hL : 0 ≤ N → σ 89 N = 0 ∨ σ 89 N = 1) (hV1 : 0 ≤ N → -1 ≤ σ 88 N ∧ σ 88 N ≤ 300000000) (hV2 : -1 ≤ σ 88 p ∧ σ 88 p ≤ 300000000) : zm_Met g mX11_isBest σ [.ref (g.2.2.1 67), zv_i b, zv_i p, zv_i j, zv_i h, zv_i d] (fun v τ => v = some (zv_i (zi_b (0 ≤ N ∧ σ 89 N = 1 ∧ σ 88 N = σ 88 p + σ 84 j))) ∧ σ = τ) := by
  refine zm_of (by decide +kernel) (Nat.le_of_ble_eq_true rfl) ?_
  intro k C hr
  show zw_W g mX11_isBest k 0 [(0, .ref (g.2.2.1 67)), (1, zv_i b), (2, zv_i p), (3, zv_i j), (4, zv_i h), (5, zv_i d)] [] σ
  obtain ⟨b1, b2, b3⟩ := hI.1 j (by omega) (by omega)
  have b4 := hI.2
  refine zr_aload_n (pc := 0) C dX11_isBest_0 0 rfl ?_
  refine zr_iload_n (pc := 1) C dX11_isBest_1 1 rfl ?_
  refine zr_iload_n (pc := 2) C dX11_isBest_2 2 rfl ?_
  refine zr_iload_n (pc := 3) C dX11_isBest_3 3 rfl ?_
  refine zr_iload (pc := 4) C dX11_isBest_4 4 rfl ?_
  refine zr_iload (pc := 6) C dX11_isBest_6 5 rfl ?_
  refine zr_callV (As := [zv_i b, zv_i p, zv_i j, zv_i h, zv_i d]) (rest := []) (b := 67) (pc := 8) C dX11_isBest_8 kX11_step vX11_136 rfl (by decide) (by decide) (hs_67 _) rfl (Nat.le_of_ble_eq_true rfl) (n_step g σ b p j h d (by omega) (by omega) (by omega) (by omega) (by omega) (by exact hI) (N) (by exact hN)) (fun v_ τ_ h_ => ?_)
  obtain ⟨rfl, rfl⟩ := h_
  show zw_W g mX11_isBest k 11 [(0, .ref (g.2.2.1 67)), (1, zv_i b), (2, zv_i p), (3, zv_i j), (4, zv_i h), (5, zv_i d)] [zv_i N] σ
  refine zr_istore (L' := [(6, zv_i N), (0, .ref (g.2.2.1 67)), (1, zv_i b), (2, zv_i p), (3, zv_i j), (4, zv_i h), (5, zv_i d)]) (pc := 11) C dX11_isBest_11 (by decide) rfl ?_
  refine zr_iload (pc := 13) C dX11_isBest_13 0 rfl ?_
  refine zr_if_lt (pc := 15) C 55 dX11_isBest_15 (by decide) (by omega) (fun h_1 => ?_) (fun h_1 => ?_)
  · refine zr_iconst (pc := 55) C dX11_isBest_55 ?_
    exact zr_zret (pc := 56) C hr dX11_isBest_56 rfl (by decide) (⟨zq_0 (by omega), rfl⟩)
  · refine zr_aload_n (pc := 18) C dX11_isBest_18 1 rfl ?_
    refine zr_get (v := .ref (g.2.2.1 89)) (pc := 19) C 28 (some (some 89)) dX11_isBest_19 fX11_73 (by decide) (hs_67 _) rfl rfl ?_
    refine zr_iload (pc := 22) C dX11_isBest_22 0 rfl ?_
    refine zr_baload (pc := 24) C dX11_isBest_24 (by decide) (hs_89 _) (by omega) (by decide) ?_
    refine zr_if_eq (pc := 25) C 55 dX11_isBest_25 (by decide) (by omega) (fun h_2 => ?_) (fun h_2 => ?_)
    · refine zr_iconst (pc := 55) C dX11_isBest_55 ?_
      exact zr_zret (pc := 56) C hr dX11_isBest_56 rfl (by decide) (⟨zq_0 (by omega), rfl⟩)
    · refine zr_aload_n (pc := 28) C dX11_isBest_28 1 rfl ?_
      refine zr_get (v := .ref (g.2.2.1 88)) (pc := 29) C 27 (some (some 88)) dX11_isBest_29 fX11_70 (by decide) (hs_67 _) rfl rfl ?_
      refine zr_iload (pc := 32) C dX11_isBest_32 0 rfl ?_
      refine zr_iaload (pc := 34) C dX11_isBest_34 (by decide) (hs_88 _) (by omega) (by decide) ?_
      refine zr_aload_n (pc := 35) C dX11_isBest_35 1 rfl ?_
      refine zr_get (v := .ref (g.2.2.1 88)) (pc := 36) C 27 (some (some 88)) dX11_isBest_36 fX11_70 (by decide) (hs_67 _) rfl rfl ?_
      refine zr_iload_n (pc := 39) C dX11_isBest_39 3 rfl ?_
      refine zr_iaload (pc := 40) C dX11_isBest_40 (by decide) (hs_88 _) (by omega) (by decide) ?_
      refine zr_aload_n (pc := 41) C dX11_isBest_41 1 rfl ?_
      refine zr_get (v := .ref (g.2.2.1 84)) (pc := 42) C 23 (some (some 84)) dX11_isBest_42 fX11_58 (by decide) (hs_67 _) rfl rfl ?_
      refine zr_iload_n (pc := 45) C dX11_isBest_45 4 rfl ?_
      refine zr_iaload (pc := 46) C dX11_isBest_46 (by decide) (hs_84 _) (by omega) (by decide) ?_
      refine zr_iadd (pc := 47) C dX11_isBest_47 ?_
      refine zr_icmp_ne (pc := 48) C 55 dX11_isBest_48 (by decide) (by omega) (by omega) (fun h_3 => ?_) (fun h_3 => ?_)
      · refine zr_iconst (pc := 55) C dX11_isBest_55 ?_
        exact zr_zret (pc := 56) C hr dX11_isBest_56 rfl (by decide) (⟨zq_0 (by omega), rfl⟩)
      · refine zr_iconst (pc := 51) C dX11_isBest_51 ?_
        refine zr_goto (pc := 52) C 56 dX11_isBest_52 (by decide) ?_
        exact zr_zret (pc := 56) C hr dX11_isBest_56 rfl (by decide) (⟨zq_1 (by omega), rfl⟩)
