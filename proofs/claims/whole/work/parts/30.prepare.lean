set_option maxRecDepth 20000 in
set_option maxHeartbeats 4000000 in
theorem m_keepTrial (g : zg_G) (σ : zs_S) (p u : Nat) (hp : zs_p p) (hu : zs_p u) (h6 : σ 26 6 = u) (h7 : σ 26 7 = p) : zm_Met g mX8_keepTrial σ [.ref (g.2.2.1 26)] (fun v τ => v = none ∧ τ 26 6 = p ∧ τ 26 7 = u ∧ τ 26 3 = σ 26 3 ∧ zf_x σ τ [26]) := by
  refine zm_of (by decide +kernel) (Nat.le_of_ble_eq_true rfl) ?_
  intro k C hr
  show zw_W g mX8_keepTrial k 0 [(0, .ref (g.2.2.1 26))] [] σ
  refine zr_aload_n (pc := 0) C dX8_keepTrial_0 0 rfl ?_
  refine zr_get (v := .ref (g.2.2.1 (σ 26 7).toNat)) (pc := 1) C 7 (some none) dX8_keepTrial_1 fX8_45 (by decide) (hs_26 _) rfl rfl ?_
  rw [h7]
  show zw_W g mX8_keepTrial k 4 [(0, .ref (g.2.2.1 26))] [.ref (g.2.2.1 (p))] σ
  refine zr_astore_n (L' := [(1, .ref (g.2.2.1 (p))), (0, .ref (g.2.2.1 26))]) (pc := 4) C dX8_keepTrial_4 (by decide) rfl ?_
  refine zr_aload_n (pc := 5) C dX8_keepTrial_5 1 rfl ?_
  refine zr_aload_n (pc := 6) C dX8_keepTrial_6 1 rfl ?_
  refine zr_get (v := .ref (g.2.2.1 (σ 26 6).toNat)) (pc := 7) C 6 (some none) dX8_keepTrial_7 fX8_41 (by decide) (hs_26 _) rfl rfl ?_
  rw [h6]
  show zw_W g mX8_keepTrial k 10 [(1, .ref (g.2.2.1 (p))), (0, .ref (g.2.2.1 26))] [.ref (g.2.2.1 (u)), .ref (g.2.2.1 26)] σ
  refine zr_putR (pc := 10) C 7 7 rfl dX8_keepTrial_10 pX8_45 (by decide) (hs_26 _) rfl (fun τ_1 e_2 => ?_)
  refine zr_aload_n (pc := 13) C dX8_keepTrial_13 1 rfl ?_
  refine zr_aload_n (pc := 14) C dX8_keepTrial_14 0 rfl ?_
  refine zr_putR (pc := 15) C 6 6 rfl dX8_keepTrial_15 pX8_41 (by decide) (hs_26 _) rfl (fun τ_3 e_4 => ?_)
  exact zr_vret (pc := 18) C hr dX8_keepTrial_18 rfl (⟨rfl, by rw [e_4, zs_put_self], by rw [e_4, zs_put_off (by decide), e_2, zs_put_self], by rw [e_4, zs_put_off (by decide), e_2, zs_put_off (by decide)], zf_p (zf_p (zf_r σ _) e_2 (by decide)) e_4 (by decide)⟩)

set_option maxRecDepth 20000 in
set_option maxHeartbeats 4000000 in
theorem l_prep {g : zg_G} {k : zk_T} {Q : Option Value → zs_S → Prop} (C : zk_ok g mX8_prepare k) (hr : zk_ret g mX8_prepare Q k) (d gr : Int) (hd : 0 ≤ d ∧ d ≤ 9000) (hgr : 1 ≤ gr ∧ gr ≤ 3) (σ0 : zs_S) (hI : sw_I σ0) (hQ : ∀ τ, zf_x σ0 τ [46, 47, 50] → (∀ y : Int, 0 ≤ y → y < 6 → τ 46 y = sw_s σ0 y ∧ τ 47 y = sw_p σ0 gr y ∧ τ 50 y = sw_r σ0 d y) → Q none τ) : ∀ (N : Nat) (σ : zs_S) (a : Int), (6 - a).toNat < N → (0 ≤ a ∧ a ≤ 6) → (zf_x σ0 σ [46, 47, 50]) → ((∀ y : Int, 0 ≤ y → y < a → σ 46 y = sw_s σ0 y ∧ σ 47 y = sw_p σ0 gr y ∧ σ 50 y = sw_r σ0 d y)) → zw_W g mX8_prepare k 2 [(0, .ref (g.2.2.1 26)), (1, zv_i d), (2, zv_i gr), (3, zv_i a)] [] σ := by
  intro N
  induction N with
  | zero =>
    intro σ a hN
    exact absurd hN (by omega)
  | succ N ih =>
    intro σ a hN ha fr hA
    refine zr_iload_n (pc := 2) C dX8_prepare_2 3 rfl ?_
    refine zr_bipush (pc := 3) C dX8_prepare_3 (by decide) ?_
    refine zr_icmp_ge (pc := 5) C 95 dX8_prepare_5 (by decide) (by omega) (by omega) (fun h_1 => ?_) (fun h_1 => ?_)
    · exact zr_vret (pc := 95) C hr dX8_prepare_95 rfl (hQ σ fr (fun y y1 y2 => hA y y1 (by omega)))
    · obtain ⟨⟨a1, a2, a3⟩, g1, -, o1⟩ : ((σ0 (28 + 2 * a.toNat) 0 = 0 ∨ (50 ≤ σ0 (28 + 2 * a.toNat) 0 ∧ σ0 (28 + 2 * a.toNat) 0 ≤ 4000)) ∧ (0 ≤ σ0 (28 + 2 * a.toNat) 1 ∧ σ0 (28 + 2 * a.toNat) 1 ≤ 4000) ∧ ∀ i : Int, 0 ≤ i → i < 3 → 0 ≤ σ0 (29 + 2 * a.toNat) i ∧ σ0 (29 + 2 * a.toNat) i ≤ 1000000) ∧ (0 ≤ σ0 26 3 ∧ σ0 26 3 ≤ 100) ∧ (∀ i : Int, 0 ≤ i → i < 4 → σ0 44 i = 0 ∨ (300 ≤ σ0 44 i ∧ σ0 44 i ≤ 5000)) ∧ od_I σ0 := ⟨hI.1 a (by omega) (by omega), hI.2⟩
      have e0 : σ (28 + 2 * a.toNat) 0 = σ0 (28 + 2 * a.toNat) 0 := fr _ (by simp; omega) 0
      have e3 : σ 26 3 = σ0 26 3 := fr 26 (by decide) 3
      have ej : 0 ≤ a ∧ a < 6 := by omega
      refine zr_aload_n (pc := 8) C dX8_prepare_8 0 rfl ?_
      refine zr_get (v := .ref (g.2.2.1 27)) (pc := 9) C 0 (some (some 27)) dX8_prepare_9 fX8_11 (by decide) (hs_26 _) rfl rfl ?_
      refine zr_iload_n (pc := 12) C dX8_prepare_12 3 rfl ?_
      refine zr_aaload (pc := 13) C dX8_prepare_13 (by decide) (hs_27 _) (by decide) (by exact ej) (by decide) ?_
      show zw_W g mX8_prepare k 14 [(0, .ref (g.2.2.1 26)), (1, zv_i d), (2, zv_i gr), (3, zv_i a)] [.ref (g.2.2.1 (28 + 2 * a.toNat))] σ
      refine zr_astore (L' := [(4, .ref (g.2.2.1 (28 + 2 * a.toNat))), (0, .ref (g.2.2.1 26)), (1, zv_i d), (2, zv_i gr), (3, zv_i a)]) (pc := 14) C dX8_prepare_14 (by decide) rfl ?_
      refine zr_aload_n (pc := 16) C dX8_prepare_16 1 rfl ?_
      refine zr_get (v := .ref (g.2.2.1 45)) (pc := 17) C 4 (some (some 45)) dX8_prepare_17 fX8_31 (by decide) (hs_26 _) rfl rfl ?_
      refine zr_get (v := .ref (g.2.2.1 46)) (pc := 20) C 0 (some (some 46)) dX8_prepare_20 fX8_82 (by decide) (hs_45 _) rfl rfl ?_
      refine zr_iload_n (pc := 23) C dX8_prepare_23 4 rfl ?_
      refine zr_aload (pc := 24) C dX8_prepare_24 0 rfl ?_
      refine zr_get (v := zv_i (σ (28 + 2 * a.toNat) 0)) (pc := 26) C 0 none dX8_prepare_26 fX8_85 (hn_size (by exact ej)) (hs_size (by exact ej)) rfl rfl ?_
      refine zr_aload_n (pc := 29) C dX8_prepare_29 1 rfl ?_
      refine zr_get (v := zv_i (σ 26 3)) (pc := 30) C 3 none dX8_prepare_30 fX8_88 (by decide) (hs_26 _) rfl rfl ?_
      refine zr_iadd (pc := 33) C dX8_prepare_33 ?_
      refine zr_iastore (pc := 34) C dX8_prepare_34 (by decide) (hs_46 _) (by omega) (by decide) (fun τ_2 e_3 => ?_)
      refine zr_aload_n (pc := 35) C dX8_prepare_35 1 rfl ?_
      refine zr_get (v := .ref (g.2.2.1 45)) (pc := 36) C 4 (some (some 45)) dX8_prepare_36 fX8_31 (by decide) (hs_26 _) rfl rfl ?_
      refine zr_get (v := .ref (g.2.2.1 47)) (pc := 39) C 1 (some (some 47)) dX8_prepare_39 fX8_70 (by decide) (hs_45 _) rfl rfl ?_
      refine zr_iload_n (pc := 42) C dX8_prepare_42 4 rfl ?_
      have e9 : τ_2 (28 + 2 * a.toNat) 0 = σ0 (28 + 2 * a.toNat) 0 := by rw [e_3, zs_put_ne (by omega), e0]
      refine zr_aload (pc := 43) C dX8_prepare_43 0 rfl ?_
      refine zr_callV (As := []) (rest := [zv_i a, .ref (g.2.2.1 47)]) (b := 28 + 2 * a.toNat) (pc := 45) C dX8_prepare_45 kX0_isTold vX8_91 rfl (by decide) (hn_size (by exact ej)) (hs_size (by exact ej)) rfl (Nat.le_of_ble_eq_true rfl) (m_toldS g τ_2 a (by exact ej) (by rw [e9]; omega)) (fun v_ τ_ h_ => ?_)
      obtain ⟨rfl, rfl⟩ := h_
      show zw_W g mX8_prepare k 48 [(4, .ref (g.2.2.1 (28 + 2 * a.toNat))), (0, .ref (g.2.2.1 26)), (1, zv_i d), (2, zv_i gr), (3, zv_i a)] [zv_i (zi_b (0 < τ_2 (28 + 2 * a.toNat) 0)), zv_i a, .ref (g.2.2.1 47)] τ_2
      refine zr_if_eq_b (pc := 48) C 72 dX8_prepare_48 (by decide) (fun h_4 => ?_) (fun h_4 => ?_)
      · 
        refine zr_iconst (pc := 72) C dX8_prepare_72 ?_
        refine zr_iastore (pc := 73) C dX8_prepare_73 (by decide) (hs_47 _) (by omega) (by decide) (fun τ_5 e_6 => ?_)
        have ew : τ_5 (28 + 2 * a.toNat) 1 = σ0 (28 + 2 * a.toNat) 1 := by rw [e_6, zs_put_ne (by omega), e_3, zs_put_ne (by omega), fr _ (by simp; omega)]
        refine zr_aload_n (pc := 74) C dX8_prepare_74 1 rfl ?_
        refine zr_get (v := .ref (g.2.2.1 50)) (pc := 75) C 5 (some (some 50)) dX8_prepare_75 fX8_35 (by decide) (hs_26 _) rfl rfl ?_
        refine zr_iload_n (pc := 78) C dX8_prepare_78 4 rfl ?_
        refine zr_iload_n (pc := 79) C dX8_prepare_79 2 rfl ?_
        refine zr_aload (pc := 80) C dX8_prepare_80 0 rfl ?_
        refine zr_get (v := zv_i (τ_5 (28 + 2 * a.toNat) 1)) (pc := 82) C 1 none dX8_prepare_82 fX8_99 (hn_size (by exact ej)) (hs_size (by exact ej)) rfl rfl ?_
        refine zr_callSN (As := [zv_i d, zv_i (τ_5 (28 + 2 * a.toNat) 1)]) (rest := [zv_i a, .ref (g.2.2.1 50)]) (pc := 85) C dX8_prepare_85 kX10_room sX8_102 rfl (by decide) rfl (Nat.le_of_ble_eq_true rfl) (m_room g τ_5 d (τ_5 (28 + 2 * a.toNat) 1) (by omega) (by rw [ew]; omega)) (fun v_ τ_ h_ => ?_)
        obtain ⟨rfl, rfl⟩ := h_
        show zw_W g mX8_prepare k 88 [(4, .ref (g.2.2.1 (28 + 2 * a.toNat))), (0, .ref (g.2.2.1 26)), (1, zv_i d), (2, zv_i gr), (3, zv_i a)] [zv_i (ro_m d (τ_5 (28 + 2 * a.toNat) 1)), zv_i a, .ref (g.2.2.1 50)] τ_5
        refine zr_iastore (pc := 88) C dX8_prepare_88 (by decide) (hs_50 _) (by omega) (by decide) (fun τ_7 e_8 => ?_)
        refine zr_iinc (L' := [(3, zv_i (a + 1)), (4, .ref (g.2.2.1 (28 + 2 * a.toNat))), (0, .ref (g.2.2.1 26)), (1, zv_i d), (2, zv_i gr)]) (pc := 89) C dX8_prepare_89 4 rfl (by decide) rfl ?_
        refine zr_goto (pc := 92) C 2 dX8_prepare_92 (by decide) ?_
        have ep : 0 = sw_p σ0 gr a := by
          unfold sw_p
          rw [if_neg (by omega)]
        refine zr_sub [2, 3, 4, 0] rfl ?_
        exact ih τ_7 (a + 1) (by omega) (by omega) (zf_p (zf_p (zf_p fr e_3 (by decide)) e_6 (by decide)) e_8 (by decide)) (fun y y1 y2 => by
          have q46 : τ_7 46 y = if y = a then σ (28 + 2 * a.toNat) 0 + σ 26 3 else σ 46 y := by rw [e_8, zs_put_ne (by decide), e_6, zs_put_ne (by decide), e_3, zs_put_at]
          have r47 : τ_2 47 y = σ 47 y := by rw [e_3, zs_put_ne (by decide)]
          have q47 : τ_7 47 y = if y = a then 0 else σ 47 y := by rw [e_8, zs_put_ne (by decide), e_6, zs_put_at, r47]
          have r50 : τ_5 50 y = σ 50 y := by rw [e_6, zs_put_ne (by decide), e_3, zs_put_ne (by decide)]
          have q50 : τ_7 50 y = if y = a then ro_m d (τ_5 (28 + 2 * a.toNat) 1) else σ 50 y := by rw [e_8, zs_put_at, r50]
          rw [q46, q47, q50]
          by_cases z : y = a
          · subst z
            rw [if_pos rfl, if_pos rfl, if_pos rfl]
            refine ⟨by rw [e0, e3]; rfl, ep, ?_⟩
            unfold sw_r sw_w
            rw [ew]
          · rw [if_neg z, if_neg z, if_neg z]
            exact hA y y1 (by omega))
      · have f1 : τ_2 (29 + 2 * a.toNat) (gr - 1) = σ0 (29 + 2 * a.toNat) (gr - 1) := by rw [e_3, zs_put_ne (by omega), fr _ (by simp; omega)]
        have f2 : τ_2 42 = σ0 42 := funext fun y => by rw [e_3, zs_put_ne (by omega), fr _ (by simp)]
        have f3 : τ_2 43 = σ0 43 := funext fun y => by rw [e_3, zs_put_ne (by omega), fr _ (by simp)]
        have f4 : τ_2 41 a = σ0 41 a := by rw [e_3, zs_put_ne (by omega), fr _ (by simp)]
        have f5 : ∀ c, c ≠ 46 → c ≠ 47 → c ≠ 50 → ∀ y, τ_2 c y = σ0 c y := fun c x1 x2 x3 y => by rw [e_3, zs_put_ne x1, fr c (by simp; omega)]
        have oS : od_I τ_2 := ⟨fun y y1 y2 => by rw [f5 41 (by decide) (by decide) (by decide)]; exact o1.1 y y1 y2, fun y y1 y2 => by rw [f5 42 (by decide) (by decide) (by decide), f5 43 (by decide) (by decide) (by decide)]; exact o1.2 y y1 y2⟩
        refine zr_aload (pc := 51) C dX8_prepare_51 0 rfl ?_
        refine zr_get (v := .ref (g.2.2.1 (29 + 2 * a.toNat))) (pc := 53) C 2 (some (some (29 + 2 * a.toNat))) dX8_prepare_53 fX8_95 (hn_size (by exact ej)) (hs_size (by exact ej)) rfl rfl ?_
        refine zr_iload_n (pc := 56) C dX8_prepare_56 3 rfl ?_
        refine zr_iconst (pc := 57) C dX8_prepare_57 ?_
        refine zr_isub (pc := 58) C dX8_prepare_58 ?_
        refine zr_iaload (pc := 59) C dX8_prepare_59 (hn_sizeP (by exact ej)) (hs_sizeP (by exact ej)) (by omega) (by decide) ?_
        refine zr_aload_n (pc := 60) C dX8_prepare_60 1 rfl ?_
        refine zr_get (v := .ref (g.2.2.1 40)) (pc := 61) C 1 (some (some 40)) dX8_prepare_61 fX8_20 (by decide) (hs_26 _) rfl rfl ?_
        refine zr_iload_n (pc := 64) C dX8_prepare_64 4 rfl ?_
        refine zr_callV (As := [zv_i a]) (rest := [zv_i (τ_2 (29 + 2 * a.toNat) (gr - 1)), zv_i a, .ref (g.2.2.1 47)]) (b := 40) (pc := 65) C dX8_prepare_65 kX6_additionFor vX8_96 rfl (by decide) (by decide) (hs_40 _) rfl (Nat.le_of_ble_eq_true rfl) (m_addf g τ_2 a (by omega) (by exact oS)) (fun v_ τ_ h_ => ?_)
        obtain ⟨rfl, rfl⟩ := h_
        show zw_W g mX8_prepare k 68 [(4, .ref (g.2.2.1 (28 + 2 * a.toNat))), (0, .ref (g.2.2.1 26)), (1, zv_i d), (2, zv_i gr), (3, zv_i a)] [zv_i (od_a (τ_2 42) (τ_2 43) (τ_2 41 a) 4), zv_i (τ_2 (29 + 2 * a.toNat) (gr - 1)), zv_i a, .ref (g.2.2.1 47)] τ_2
        refine zr_iadd (pc := 68) C dX8_prepare_68 ?_
        refine zr_goto (pc := 69) C 73 dX8_prepare_69 (by decide) ?_
        refine zr_iastore (pc := 73) C dX8_prepare_73 (by decide) (hs_47 _) (by omega) (by decide) (fun τ_9 e_10 => ?_)
        have ew : τ_9 (28 + 2 * a.toNat) 1 = σ0 (28 + 2 * a.toNat) 1 := by rw [e_10, zs_put_ne (by omega), e_3, zs_put_ne (by omega), fr _ (by simp; omega)]
        refine zr_aload_n (pc := 74) C dX8_prepare_74 1 rfl ?_
        refine zr_get (v := .ref (g.2.2.1 50)) (pc := 75) C 5 (some (some 50)) dX8_prepare_75 fX8_35 (by decide) (hs_26 _) rfl rfl ?_
        refine zr_iload_n (pc := 78) C dX8_prepare_78 4 rfl ?_
        refine zr_iload_n (pc := 79) C dX8_prepare_79 2 rfl ?_
        refine zr_aload (pc := 80) C dX8_prepare_80 0 rfl ?_
        refine zr_get (v := zv_i (τ_9 (28 + 2 * a.toNat) 1)) (pc := 82) C 1 none dX8_prepare_82 fX8_99 (hn_size (by exact ej)) (hs_size (by exact ej)) rfl rfl ?_
        refine zr_callSN (As := [zv_i d, zv_i (τ_9 (28 + 2 * a.toNat) 1)]) (rest := [zv_i a, .ref (g.2.2.1 50)]) (pc := 85) C dX8_prepare_85 kX10_room sX8_102 rfl (by decide) rfl (Nat.le_of_ble_eq_true rfl) (m_room g τ_9 d (τ_9 (28 + 2 * a.toNat) 1) (by omega) (by rw [ew]; omega)) (fun v_ τ_ h_ => ?_)
        obtain ⟨rfl, rfl⟩ := h_
        show zw_W g mX8_prepare k 88 [(4, .ref (g.2.2.1 (28 + 2 * a.toNat))), (0, .ref (g.2.2.1 26)), (1, zv_i d), (2, zv_i gr), (3, zv_i a)] [zv_i (ro_m d (τ_9 (28 + 2 * a.toNat) 1)), zv_i a, .ref (g.2.2.1 50)] τ_9
        refine zr_iastore (pc := 88) C dX8_prepare_88 (by decide) (hs_50 _) (by omega) (by decide) (fun τ_11 e_12 => ?_)
        refine zr_iinc (L' := [(3, zv_i (a + 1)), (4, .ref (g.2.2.1 (28 + 2 * a.toNat))), (0, .ref (g.2.2.1 26)), (1, zv_i d), (2, zv_i gr)]) (pc := 89) C dX8_prepare_89 4 rfl (by decide) rfl ?_
        refine zr_goto (pc := 92) C 2 dX8_prepare_92 (by decide) ?_
        have ep : ((τ_2 (29 + 2 * a.toNat) (gr - 1)) + (od_a (τ_2 42) (τ_2 43) (τ_2 41 a) 4)) = sw_p σ0 gr a := by
          unfold sw_p
          rw [if_pos (by omega), f1, f2, f3, f4]
        refine zr_sub [2, 3, 4, 0] rfl ?_
        exact ih τ_11 (a + 1) (by omega) (by omega) (zf_p (zf_p (zf_p fr e_3 (by decide)) e_10 (by decide)) e_12 (by decide)) (fun y y1 y2 => by
          have q46 : τ_11 46 y = if y = a then σ (28 + 2 * a.toNat) 0 + σ 26 3 else σ 46 y := by rw [e_12, zs_put_ne (by decide), e_10, zs_put_ne (by decide), e_3, zs_put_at]
          have r47 : τ_2 47 y = σ 47 y := by rw [e_3, zs_put_ne (by decide)]
          have q47 : τ_11 47 y = if y = a then ((τ_2 (29 + 2 * a.toNat) (gr - 1)) + (od_a (τ_2 42) (τ_2 43) (τ_2 41 a) 4)) else σ 47 y := by rw [e_12, zs_put_ne (by decide), e_10, zs_put_at, r47]
          have r50 : τ_9 50 y = σ 50 y := by rw [e_10, zs_put_ne (by decide), e_3, zs_put_ne (by decide)]
          have q50 : τ_11 50 y = if y = a then ro_m d (τ_9 (28 + 2 * a.toNat) 1) else σ 50 y := by rw [e_12, zs_put_at, r50]
          rw [q46, q47, q50]
          by_cases z : y = a
          · subst z
            rw [if_pos rfl, if_pos rfl, if_pos rfl]
            refine ⟨by rw [e0, e3]; rfl, ep, ?_⟩
            unfold sw_r sw_w
            rw [ew]
          · rw [if_neg z, if_neg z, if_neg z]
            exact hA y y1 (by omega))

set_option maxRecDepth 20000 in
set_option maxHeartbeats 4000000 in
theorem m_prep (g : zg_G) (σ : zs_S) (d gr : Int) (hd : 0 ≤ d ∧ d ≤ 9000) (hgr : 1 ≤ gr ∧ gr ≤ 3) (hI : sw_I σ) : zm_Met g mX8_prepare σ [.ref (g.2.2.1 26), zv_i d, zv_i gr] (fun v τ => v = none ∧ zf_x σ τ [46, 47, 50] ∧ (∀ y : Int, 0 ≤ y → y < 6 → τ 46 y = sw_s σ y ∧ τ 47 y = sw_p σ gr y ∧ τ 50 y = sw_r σ d y)) := by
  refine zm_of (by decide +kernel) (Nat.le_of_ble_eq_true rfl) ?_
  intro k C hr
  show zw_W g mX8_prepare k 0 [(0, .ref (g.2.2.1 26)), (1, zv_i d), (2, zv_i gr)] [] σ
  refine zr_iconst (pc := 0) C dX8_prepare_0 ?_
  refine zr_istore_n (L' := [(3, zv_i 0), (0, .ref (g.2.2.1 26)), (1, zv_i d), (2, zv_i gr)]) (pc := 1) C dX8_prepare_1 (by decide) rfl ?_
  refine zr_sub [1, 2, 3, 0] rfl ?_
  exact l_prep C hr d gr hd hgr σ hI (fun τ z1 z2 => ⟨rfl, z1, z2⟩) 7 σ 0 (by omega) (by omega) (zf_r σ _) (fun y y1 y2 => absurd y2 (by omega))
