set_option maxRecDepth 20000 in
set_option maxHeartbeats 4000000 in
theorem m_keepSpare (g : zg_G) (σ : zs_S) (b q : Nat) (hb : zs_q b) (hq : zs_q q) (hb4 : σ 1 4 = b) (hs5 : σ 1 5 = q) : zm_Met g mX1_keepSpare σ [.ref (g.2.2.1 1)] (fun v τ => v = some (zv_i (σ q 1)) ∧ τ 1 4 = q ∧ τ 1 5 = b ∧ zf_x σ τ [1]) := by
  refine zm_of (by decide +kernel) (Nat.le_of_ble_eq_true rfl) ?_
  intro k C hr
  show zw_W g mX1_keepSpare k 0 [(0, .ref (g.2.2.1 1))] [] σ
  refine zr_aload_n (pc := 0) C dX1_keepSpare_0 0 rfl ?_
  refine zr_get (v := .ref (g.2.2.1 (σ 1 5).toNat)) (pc := 1) C 5 (some none) dX1_keepSpare_1 fX1_24 (by decide) (hs_1 _) rfl rfl ?_
  rw [hs5]
  show zw_W g mX1_keepSpare k 4 [(0, .ref (g.2.2.1 1))] [.ref (g.2.2.1 (q))] σ
  refine zr_astore_n (L' := [(1, .ref (g.2.2.1 (q))), (0, .ref (g.2.2.1 1))]) (pc := 4) C dX1_keepSpare_4 (by decide) rfl ?_
  refine zr_aload_n (pc := 5) C dX1_keepSpare_5 1 rfl ?_
  refine zr_aload_n (pc := 6) C dX1_keepSpare_6 1 rfl ?_
  refine zr_get (v := .ref (g.2.2.1 (σ 1 4).toNat)) (pc := 7) C 4 (some none) dX1_keepSpare_7 fX1_20 (by decide) (hs_1 _) rfl rfl ?_
  rw [hb4]
  show zw_W g mX1_keepSpare k 10 [(1, .ref (g.2.2.1 (q))), (0, .ref (g.2.2.1 1))] [.ref (g.2.2.1 (b)), .ref (g.2.2.1 1)] σ
  refine zr_putR (pc := 10) C 5 5 rfl dX1_keepSpare_10 pX1_24 (by decide) (hs_1 _) rfl (fun τ_1 e_2 => ?_)
  refine zr_aload_n (pc := 13) C dX1_keepSpare_13 1 rfl ?_
  refine zr_aload_n (pc := 14) C dX1_keepSpare_14 0 rfl ?_
  refine zr_putR (pc := 15) C 4 4 rfl dX1_keepSpare_15 pX1_20 (by decide) (hs_1 _) rfl (fun τ_3 e_4 => ?_)
  refine zr_aload_n (pc := 18) C dX1_keepSpare_18 0 rfl ?_
  refine zr_get (v := zv_i (τ_3 q 1)) (pc := 19) C 1 none dX1_keepSpare_19 fX1_96 (hn_cut hq) (hs_cut hq) rfl rfl ?_
  exact zr_iret (pc := 22) C hr dX1_keepSpare_22 rfl (⟨zq_i (by rw [e_4, zs_put_ne (by omega), e_2, zs_put_ne (by omega)]), by rw [e_4, zs_put_self], by rw [e_4, zs_put_off (by decide), e_2, zs_put_self], zf_p (zf_p (zf_r σ [1]) e_2 (by decide)) e_4 (by decide)⟩)

set_option maxRecDepth 20000 in
set_option maxHeartbeats 4000000 in
theorem m_price (g : zg_G) (σ : zs_S) (n : Int) (hg : (g.2.2.2 : Int) = n) (f j : Int) (hj : 0 ≤ j ∧ j < 6) (hf : 0 ≤ f ∧ f ≤ n) (hS : ks_s σ n) (hK : ks_k σ) (hl : ks_l σ n f) : zm_Met g mX1_priceFrom σ [.ref (g.2.2.1 1), zv_i f, .ref (g.2.2.1 (8 + 2 * j.toNat))] (fun v τ => v = some (zv_i (bk_p σ n f j)) ∧ σ = τ) := by
  refine zm_of (by decide +kernel) (Nat.le_of_ble_eq_true rfl) ?_
  intro k C hr
  show zw_W g mX1_priceFrom k 0 [(0, .ref (g.2.2.1 1)), (1, zv_i f), (2, .ref (g.2.2.1 (8 + 2 * j.toNat)))] [] σ
  obtain ⟨hn1, hn2, hlast, hd, hgd⟩ := id hS
  obtain ⟨⟨k1, k2⟩, ⟨k3, k4⟩, k5⟩ := hK j hj.1 hj.2
  refine zr_aload_n (pc := 0) C dX1_priceFrom_0 2 rfl ?_
  refine zr_get (v := zv_i (σ (8 + 2 * j.toNat) 0)) (pc := 1) C 0 none dX1_priceFrom_1 fX1_58 (hn_kind hj) (hs_kind hj) rfl rfl ?_
  refine zr_istore_n (L' := [(3, zv_i (σ (8 + 2 * j.toNat) 0)), (0, .ref (g.2.2.1 1)), (1, zv_i f), (2, .ref (g.2.2.1 (8 + 2 * j.toNat)))]) (pc := 4) C dX1_priceFrom_4 (by decide) rfl ?_
  refine zr_aload_n (pc := 5) C dX1_priceFrom_5 3 rfl ?_
  refine zr_callV (As := []) (rest := []) (b := 8 + 2 * j.toNat) (pc := 6) C dX1_priceFrom_6 kX5_isTold vX1_82 rfl (by decide) (hn_kind hj) (hs_kind hj) rfl (Nat.le_of_ble_eq_true rfl) (m_toldK g σ j (by omega) (by omega)) (fun v_ τ_ h_ => ?_)
  obtain ⟨rfl, rfl⟩ := h_
  show zw_W g mX1_priceFrom k 9 [(3, zv_i (σ (8 + 2 * j.toNat) 0)), (0, .ref (g.2.2.1 1)), (1, zv_i f), (2, .ref (g.2.2.1 (8 + 2 * j.toNat)))] [zv_i (zi_b (0 < σ (8 + 2 * j.toNat) 0))] σ
  refine zr_if_eq_b (pc := 9) C 41 dX1_priceFrom_9 (by decide) (fun h_1 => ?_) (fun h_1 => ?_)
  · refine zr_iconst (pc := 41) C dX1_priceFrom_41 ?_
    exact zr_iret (pc := 42) C hr dX1_priceFrom_42 rfl (⟨zq_i (bk_pn (fun z => by obtain ⟨z1, z2, z3⟩ := z; have z1 : 0 < σ (8 + 2 * j.toNat) 0 := z1; have z2 : f + σ (8 + 2 * j.toNat) 0 ≤ n := z2; omega)).symm, rfl⟩)
  · refine zr_iload_n (pc := 12) C dX1_priceFrom_12 2 rfl ?_
    refine zr_iload_n (pc := 13) C dX1_priceFrom_13 0 rfl ?_
    refine zr_iadd (pc := 14) C dX1_priceFrom_14 ?_
    refine zr_aload_n (pc := 15) C dX1_priceFrom_15 1 rfl ?_
    refine zr_get (v := .ref (g.2.2.1 2)) (pc := 16) C 0 (some (some 2)) dX1_priceFrom_16 fX1_32 (by decide) (hs_1 _) rfl rfl ?_
    refine zr_get (v := zv_i (σ 2 0)) (pc := 19) C 0 none dX1_priceFrom_19 fX1_44 (by decide) (hs_2 _) rfl rfl ?_
    refine zr_icmp_gt (pc := 22) C 41 dX1_priceFrom_22 (by decide) (by omega) (by omega) (fun h_2 => ?_) (fun h_2 => ?_)
    · refine zr_iconst (pc := 41) C dX1_priceFrom_41 ?_
      exact zr_iret (pc := 42) C hr dX1_priceFrom_42 rfl (⟨zq_i (bk_pn (fun z => by obtain ⟨z1, z2, z3⟩ := z; have z1 : 0 < σ (8 + 2 * j.toNat) 0 := z1; have z2 : f + σ (8 + 2 * j.toNat) 0 ≤ n := z2; omega)).symm, rfl⟩)
    · have hL := hl (σ (8 + 2 * j.toNat) 0) (by omega) (by omega)
      have b3 := lo_b (a := f) (b := n) (fun q h1 h2 => hd q (by omega) h2) (σ (8 + 2 * j.toNat) 0 + 1).toNat (by omega)
      have b4 := hi_b (a := f) (b := n) (fun q h1 h2 => hgd q (by omega) h2) (σ (8 + 2 * j.toNat) 0 + 1).toNat (by omega)
      rw [← hL.1] at b3
      rw [← hL.2] at b4
      refine zr_aload_n (pc := 25) C dX1_priceFrom_25 1 rfl ?_
      refine zr_get (v := .ref (g.2.2.1 2)) (pc := 26) C 0 (some (some 2)) dX1_priceFrom_26 fX1_32 (by decide) (hs_1 _) rfl rfl ?_
      refine zr_get (v := .ref (g.2.2.1 5)) (pc := 29) C 4 (some (some 5)) dX1_priceFrom_29 fX1_72 (by decide) (hs_2 _) rfl rfl ?_
      refine zr_iload_n (pc := 32) C dX1_priceFrom_32 0 rfl ?_
      refine zr_iaload (pc := 33) C dX1_priceFrom_33 (by decide) (hs_5 _) (by omega) (by omega) ?_
      refine zr_aload_n (pc := 34) C dX1_priceFrom_34 3 rfl ?_
      refine zr_get (v := zv_i (σ (8 + 2 * j.toNat) 1)) (pc := 35) C 1 none dX1_priceFrom_35 fX1_86 (hn_kind hj) (hs_kind hj) rfl rfl ?_
      refine zr_icmp_ge (pc := 38) C 43 dX1_priceFrom_38 (by decide) (by omega) (by omega) (fun h_3 => ?_) (fun h_3 => ?_)
      · refine zr_aload_n (pc := 43) C dX1_priceFrom_43 3 rfl ?_
        refine zr_get (v := .ref (g.2.2.1 (9 + 2 * j.toNat))) (pc := 44) C 2 (some (some (9 + 2 * j.toNat))) dX1_priceFrom_44 fX1_89 (hn_kind hj) (hs_kind hj) rfl rfl ?_
        refine zr_aload_n (pc := 47) C dX1_priceFrom_47 1 rfl ?_
        refine zr_get (v := .ref (g.2.2.1 2)) (pc := 48) C 0 (some (some 2)) dX1_priceFrom_48 fX1_32 (by decide) (hs_1 _) rfl rfl ?_
        refine zr_get (v := .ref (g.2.2.1 5)) (pc := 51) C 4 (some (some 5)) dX1_priceFrom_51 fX1_72 (by decide) (hs_2 _) rfl rfl ?_
        refine zr_iload_n (pc := 54) C dX1_priceFrom_54 0 rfl ?_
        refine zr_iaload (pc := 55) C dX1_priceFrom_55 (by decide) (hs_5 _) (by omega) (by omega) ?_
        refine zr_bipush (pc := 56) C dX1_priceFrom_56 (by decide) ?_
        refine zr_idiv (pc := 58) C dX1_priceFrom_58 (by omega) (by omega) (by omega) (by omega) ?_
        refine zr_aload_n (pc := 59) C dX1_priceFrom_59 1 rfl ?_
        refine zr_get (v := .ref (g.2.2.1 2)) (pc := 60) C 0 (some (some 2)) dX1_priceFrom_60 fX1_32 (by decide) (hs_1 _) rfl rfl ?_
        refine zr_get (v := .ref (g.2.2.1 6)) (pc := 63) C 5 (some (some 6)) dX1_priceFrom_63 fX1_75 (by decide) (hs_2 _) rfl rfl ?_
        refine zr_iload_n (pc := 66) C dX1_priceFrom_66 0 rfl ?_
        refine zr_iaload (pc := 67) C dX1_priceFrom_67 (by decide) (hs_6 _) (by omega) (by omega) ?_
        refine zr_callS (As := [zv_i ((σ 5 (σ (8 + 2 * j.toNat) 0)) / 50), zv_i (σ 6 (σ (8 + 2 * j.toNat) 0))]) (rest := [.ref (g.2.2.1 (9 + 2 * j.toNat))]) (pc := 68) C dX1_priceFrom_68 kX5_slot sX1_92 rfl (by decide) rfl (Nat.le_of_ble_eq_true rfl) (m_slot g σ ((σ 5 (σ (8 + 2 * j.toNat) 0)) / 50) (σ 6 (σ (8 + 2 * j.toNat) 0)) ) (fun v_ τ_ h_ => ?_)
        obtain ⟨rfl, rfl⟩ := h_
        show zw_W g mX1_priceFrom k 71 [(3, zv_i (σ (8 + 2 * j.toNat) 0)), (0, .ref (g.2.2.1 1)), (1, zv_i f), (2, .ref (g.2.2.1 (8 + 2 * j.toNat)))] [zv_i (((σ 5 (σ (8 + 2 * j.toNat) 0)) / 50) * 3 + (σ 6 (σ (8 + 2 * j.toNat) 0)) - 1), .ref (g.2.2.1 (9 + 2 * j.toNat))] σ
        have hi0 : 0 ≤ σ 5 (σ (8 + 2 * j.toNat) 0) / 50 * 3 + σ 6 (σ (8 + 2 * j.toNat) 0) - 1 ∧ σ 5 (σ (8 + 2 * j.toNat) 0) / 50 * 3 + σ 6 (σ (8 + 2 * j.toNat) 0) - 1 < 57 := by omega
        refine zr_iaload (pc := 71) C dX1_priceFrom_71 (hn_kindP hj) (hs_kindP hj) (by omega) (by decide) ?_
        exact zr_iret (pc := 72) C hr dX1_priceFrom_72 rfl (⟨zq_i (by rw [bk_pp ⟨by show 0 < σ (8 + 2 * j.toNat) 0; omega, by show f + σ (8 + 2 * j.toNat) 0 ≤ n; omega, by show σ (8 + 2 * j.toNat) 1 ≤ lo_t (σ 3) f (σ (8 + 2 * j.toNat) 0 + 1).toNat; rw [← hL.1]; omega⟩]; show _ = σ (9 + 2 * j.toNat) (lo_t (σ 3) f (σ (8 + 2 * j.toNat) 0 + 1).toNat / 50 * 3 + hi_t (σ 4) f (σ (8 + 2 * j.toNat) 0 + 1).toNat - 1); rw [← hL.1, ← hL.2]), rfl⟩)
      · refine zr_iconst (pc := 41) C dX1_priceFrom_41 ?_
        exact zr_iret (pc := 42) C hr dX1_priceFrom_42 rfl (⟨zq_i (bk_pn (fun z => by obtain ⟨z1, z2, z3⟩ := z; have z1 : 0 < σ (8 + 2 * j.toNat) 0 := z1; have z2 : f + σ (8 + 2 * j.toNat) 0 ≤ n := z2; have z3 : σ (8 + 2 * j.toNat) 1 ≤ lo_t (σ 3) f (σ (8 + 2 * j.toNat) 0 + 1).toNat := z3; rw [← hL.1] at z3; omega)).symm, rfl⟩)

set_option maxRecDepth 20000 in
set_option maxHeartbeats 4000000 in
theorem m_addLog (g : zg_G) (σ : zs_S) (n : Int) (hg : (g.2.2.2 : Int) = n) (q : Nat) (hq : zs_q q) (j f c : Int) (hj : 0 ≤ j ∧ j < 6) (hf : 0 ≤ f ∧ f ≤ 1000) (hS : ks_s σ n) (hK : ks_k σ) (hs5 : σ 1 5 = q) (hc : σ q 0 = c) (hcc : 0 ≤ c ∧ (bk_a σ n f j → c < 40)) : zm_Met g mX1_addLog σ [.ref (g.2.2.1 1), zv_i j, zv_i f] (fun v τ => v = some (zv_i (zi_b (bk_a σ n f j))) ∧ zf_x σ τ [5, 6, q, q + 1] ∧ (¬ bk_a σ n f j → zf_x σ τ [5, 6]) ∧ (bk_a σ n f j → τ q 0 = c + 1 ∧ τ q 1 = σ q 1 + bk_v σ f j ∧ (∀ i, i < c * 6 → τ (q + 1) i = σ (q + 1) i) ∧ bk_e σ (τ (q + 1)) c f j)) := by
  refine zm_of (by decide +kernel) (Nat.le_of_ble_eq_true rfl) ?_
  intro k C hr
  show zw_W g mX1_addLog k 0 [(0, .ref (g.2.2.1 1)), (1, zv_i j), (2, zv_i f)] [] σ
  obtain ⟨hn1, hn2, hlast, hd, hgd⟩ := id hS
  refine zr_iload_n (pc := 0) C dX1_addLog_0 2 rfl ?_
  refine zr_aload_n (pc := 1) C dX1_addLog_1 0 rfl ?_
  refine zr_get (v := .ref (g.2.2.1 2)) (pc := 2) C 0 (some (some 2)) dX1_addLog_2 fX1_32 (by decide) (hs_1 _) rfl rfl ?_
  refine zr_get (v := zv_i (σ 2 0)) (pc := 5) C 0 none dX1_addLog_5 fX1_44 (by decide) (hs_2 _) rfl rfl ?_
  refine zr_icmp_le (pc := 8) C 13 dX1_addLog_8 (by decide) (by omega) (by omega) (fun h_1 => ?_) (fun h_1 => ?_)
  · refine zr_aload_n (pc := 13) C dX1_addLog_13 0 rfl ?_
    refine zr_get (v := .ref (g.2.2.1 2)) (pc := 14) C 0 (some (some 2)) dX1_addLog_14 fX1_32 (by decide) (hs_1 _) rfl rfl ?_
    refine zr_iload_n (pc := 17) C dX1_addLog_17 2 rfl ?_
    refine zr_callV (As := [zv_i f]) (rest := []) (b := 2) (pc := 18) C dX1_addLog_18 kX9_lookFrom vX1_65 rfl (by decide) (by decide) (hs_2 _) rfl (Nat.le_of_ble_eq_true rfl) (m_look g σ n hg f (by exact hS) (by omega)) (fun v_ τ_ h_ => ?_)
    obtain ⟨rfl, h_3⟩ := h_
    generalize τ_ = τ_2 at h_3 ⊢
    show zw_W g mX1_addLog k 21 [(0, .ref (g.2.2.1 1)), (1, zv_i j), (2, zv_i f)] [] τ_2
    have fr := h_3.1
    have hl := h_3.2
    have hS1 : ks_s τ_2 n := ks_sx hS (fun i => fr 2 (by decide) i) (fun i => fr 3 (by decide) i) (fun i => fr 4 (by decide) i)
    have hK1 : ks_k τ_2 := ks_kx hK (fun c h1 h2 i => fr c (by simp; omega) i)
    obtain ⟨ep, en, et, eg⟩ := bk_pc (n := n) (p := f) (j := j) (σ := σ) (τ := τ_2) (fun i => fr 3 (by decide) i) (fun i => fr 4 (by decide) i) hj (fun c h1 h2 i => fr c (by simp; omega) i)
    have pr := bk_pr hS1 hK1 hj (p := f) (by omega)
    refine zr_aload_n (pc := 21) C dX1_addLog_21 0 rfl ?_
    refine zr_iload_n (pc := 22) C dX1_addLog_22 2 rfl ?_
    refine zr_aload_n (pc := 23) C dX1_addLog_23 0 rfl ?_
    refine zr_get (v := .ref (g.2.2.1 7)) (pc := 24) C 1 (some (some 7)) dX1_addLog_24 fX1_11 (by decide) (hs_1 _) rfl rfl ?_
    refine zr_iload_n (pc := 27) C dX1_addLog_27 1 rfl ?_
    refine zr_aaload (pc := 28) C dX1_addLog_28 (by decide) (hs_7 _) (by decide) (by omega) (by decide) ?_
    show zw_W g mX1_addLog k 29 [(0, .ref (g.2.2.1 1)), (1, zv_i j), (2, zv_i f)] [.ref (g.2.2.1 (8 + 2 * j.toNat)), zv_i f, .ref (g.2.2.1 1)] τ_2
    refine zr_callV (As := [zv_i f, .ref (g.2.2.1 (8 + 2 * j.toNat))]) (rest := []) (b := 1) (pc := 29) C dX1_addLog_29 kX1_priceFrom vX1_68 rfl (by decide) (by decide) (hs_1 _) rfl (Nat.le_of_ble_eq_true rfl) (m_price g τ_2 n hg f j (by omega) (by omega) (by exact hS1) (by exact hK1) (by exact hl)) (fun v_ τ_ h_ => ?_)
    obtain ⟨rfl, rfl⟩ := h_
    show zw_W g mX1_addLog k 32 [(0, .ref (g.2.2.1 1)), (1, zv_i j), (2, zv_i f)] [zv_i (bk_p τ_2 n f j)] τ_2
    refine zr_istore_n (L' := [(3, zv_i (bk_p τ_2 n f j)), (0, .ref (g.2.2.1 1)), (1, zv_i j), (2, zv_i f)]) (pc := 32) C dX1_addLog_32 (by decide) rfl ?_
    refine zr_iload_n (pc := 33) C dX1_addLog_33 0 rfl ?_
    refine zr_iconst (pc := 34) C dX1_addLog_34 ?_
    refine zr_icmp_ne (pc := 35) C 40 dX1_addLog_35 (by decide) (by omega) (by omega) (fun h_4 => ?_) (fun h_4 => ?_)
    · have ha1 := bk_pa h_4
      have ha : bk_a σ n f j := (bk_ac (fun i => fr 3 (by decide) i) (fun i => fr 4 (by decide) i) hj (fun c h1 h2 i => fr c (by simp; omega) i)).1.mp ha1
      have ev : bk_v τ_2 f j = bk_v σ f j := (bk_ac (n := n) (fun i => fr 3 (by decide) i) (fun i => fr 4 (by decide) i) hj (fun c h1 h2 i => fr c (by simp; omega) i)).2
      have a1 : 0 < τ_2 (8 + 2 * j.toNat) 0 := ha1.1
      have a2 : f + τ_2 (8 + 2 * j.toNat) 0 ≤ n := ha1.2.1
      have hL := hl (τ_2 (8 + 2 * j.toNat) 0) (by omega) (by omega)
      have tb := bk_tb hS1 (by omega) ha1
      have t1 : τ_2 5 (τ_2 (8 + 2 * j.toNat) 0) = bk_t σ f j := hL.1.trans et
      have g1 : τ_2 6 (τ_2 (8 + 2 * j.toNat) 0) = bk_g σ f j := hL.2.trans eg
      rw [et, eg] at tb
      have epv : bk_p τ_2 n f j = bk_v σ f j := by rw [bk_pp ha1, ev]
      refine zr_aload_n (pc := 40) C dX1_addLog_40 1 rfl ?_
      refine zr_get (v := .ref (g.2.2.1 7)) (pc := 41) C 1 (some (some 7)) dX1_addLog_41 fX1_11 (by decide) (hs_1 _) rfl rfl ?_
      refine zr_iload_n (pc := 44) C dX1_addLog_44 2 rfl ?_
      refine zr_aaload (pc := 45) C dX1_addLog_45 (by decide) (hs_7 _) (by decide) (by omega) (by decide) ?_
      show zw_W g mX1_addLog k 46 [(3, zv_i (bk_p τ_2 n f j)), (0, .ref (g.2.2.1 1)), (1, zv_i j), (2, zv_i f)] [.ref (g.2.2.1 (8 + 2 * j.toNat))] τ_2
      refine zr_get (v := zv_i (τ_2 (8 + 2 * j.toNat) 0)) (pc := 46) C 0 none dX1_addLog_46 fX1_58 (hn_kind (by omega)) (hs_kind (by omega)) rfl rfl ?_
      refine zr_istore (L' := [(4, zv_i (τ_2 (8 + 2 * j.toNat) 0)), (3, zv_i (bk_p τ_2 n f j)), (0, .ref (g.2.2.1 1)), (1, zv_i j), (2, zv_i f)]) (pc := 49) C dX1_addLog_49 (by decide) rfl ?_
      refine zr_aload_n (pc := 51) C dX1_addLog_51 2 rfl ?_
      refine zr_get (v := .ref (g.2.2.1 (τ_2 1 5).toNat)) (pc := 52) C 5 (some none) dX1_addLog_52 fX1_24 (by decide) (hs_1 _) rfl rfl ?_
      rw [show τ_2 1 5 = (q : Int) from (fr 1 (by decide) 5).trans hs5]
      show zw_W g mX1_addLog k 55 [(4, zv_i (τ_2 (8 + 2 * j.toNat) 0)), (3, zv_i (bk_p τ_2 n f j)), (0, .ref (g.2.2.1 1)), (1, zv_i j), (2, zv_i f)] [.ref (g.2.2.1 (q))] τ_2
      refine zr_iload_n (pc := 55) C dX1_addLog_55 4 rfl ?_
      refine zr_iload_n (pc := 56) C dX1_addLog_56 3 rfl ?_
      refine zr_aload_n (pc := 57) C dX1_addLog_57 2 rfl ?_
      refine zr_get (v := .ref (g.2.2.1 2)) (pc := 58) C 0 (some (some 2)) dX1_addLog_58 fX1_32 (by decide) (hs_1 _) rfl rfl ?_
      refine zr_get (v := .ref (g.2.2.1 5)) (pc := 61) C 4 (some (some 5)) dX1_addLog_61 fX1_72 (by decide) (hs_2 _) rfl rfl ?_
      refine zr_iload (pc := 64) C dX1_addLog_64 0 rfl ?_
      refine zr_iaload (pc := 66) C dX1_addLog_66 (by decide) (hs_5 _) (by omega) (by omega) ?_
      refine zr_aload_n (pc := 67) C dX1_addLog_67 2 rfl ?_
      refine zr_get (v := .ref (g.2.2.1 2)) (pc := 68) C 0 (some (some 2)) dX1_addLog_68 fX1_32 (by decide) (hs_1 _) rfl rfl ?_
      refine zr_get (v := .ref (g.2.2.1 6)) (pc := 71) C 5 (some (some 6)) dX1_addLog_71 fX1_75 (by decide) (hs_2 _) rfl rfl ?_
      refine zr_iload (pc := 74) C dX1_addLog_74 0 rfl ?_
      refine zr_iaload (pc := 76) C dX1_addLog_76 (by decide) (hs_6 _) (by omega) (by omega) ?_
      refine zr_iload_n (pc := 77) C dX1_addLog_77 1 rfl ?_
      refine zr_callV (As := [zv_i f, zv_i j, zv_i (τ_2 5 (τ_2 (8 + 2 * j.toNat) 0)), zv_i (τ_2 6 (τ_2 (8 + 2 * j.toNat) 0)), zv_i (bk_p τ_2 n f j)]) (rest := []) (b := q) (pc := 78) C dX1_addLog_78 kX3_add vX1_78 rfl (by decide) (hn_cut hq) (hs_cut hq) rfl (Nat.le_of_ble_eq_true rfl) (m_add g τ_2 q hq c f j (τ_2 5 (τ_2 (8 + 2 * j.toNat) 0)) (τ_2 6 (τ_2 (8 + 2 * j.toNat) 0)) (bk_p τ_2 n f j) (by rw [fr q (by simp; omega) 0]; exact hc) (by exact ⟨hcc.1, hcc.2 ha⟩) (by rw [t1]; omega)) (fun v_ τ_ h_ => ?_)
      obtain ⟨rfl, h_6⟩ := h_
      generalize τ_ = τ_5 at h_6 ⊢
      show zw_W g mX1_addLog k 81 [(4, zv_i (τ_2 (8 + 2 * j.toNat) 0)), (3, zv_i (bk_p τ_2 n f j)), (0, .ref (g.2.2.1 1)), (1, zv_i j), (2, zv_i f)] [] τ_5
      refine zr_iconst (pc := 81) C dX1_addLog_81 ?_
      exact zr_zret (pc := 82) C hr dX1_addLog_82 rfl (by decide) ((by
          obtain ⟨c1, c2, c3, f0, f1, f2, f3, f4, f5, ff⟩ := h_6
          have fz : zf_x σ τ_5 [5, 6, q, q + 1] := zf_t fr ff (by simp) (by simp)
          refine ⟨zq_1 ha, fz, fun z => absurd ha z, fun _ => ⟨c1, ?_, fun i hi => ?_, f0, f1, ?_, ?_, ?_, ?_⟩⟩
          · rw [c2, fr q (by simp; omega) 1, epv]
          · rw [c3 i hi, fr (q + 1) (by simp; omega) i]
          · rw [f2, t1]
          · rw [f3, t1]
          · rw [f4, g1]
          · rw [f5, epv]))
    · refine zr_iconst (pc := 38) C dX1_addLog_38 ?_
      exact zr_zret (pc := 39) C hr dX1_addLog_39 rfl (by decide) ((by
          have hna : ¬ bk_a σ n f j := fun q => (bk_pz hS1 hK1 hj (by omega) h_4) ((bk_ac (fun i => fr 3 (by decide) i) (fun i => fr 4 (by decide) i) hj (fun c h1 h2 i => fr c (by simp; omega) i)).1.mpr q)
          exact ⟨zq_0 hna, zf_w fr (by simp), fun _ => fr, fun z => absurd z hna⟩))
  · refine zr_iconst (pc := 11) C dX1_addLog_11 ?_
    exact zr_zret (pc := 12) C hr dX1_addLog_12 rfl (by decide) (⟨zq_0 (fun z => by have z1 : 0 < σ (8 + 2 * j.toNat) 0 := z.1; have z2 : f + σ (8 + 2 * j.toNat) 0 ≤ n := z.2.1; omega), zf_r σ _, fun _ => zf_r σ _, fun z => absurd z (fun z => by have z1 : 0 < σ (8 + 2 * j.toNat) 0 := z.1; have z2 : f + σ (8 + 2 * j.toNat) 0 ≤ n := z.2.1; omega)⟩)
