set_option maxRecDepth 20000 in
set_option maxHeartbeats 4000000 in
theorem l_top {g : zg_G} {k : zk_T} {Q : Option Value → zs_S → Prop} (C : zk_ok g mX11_topOf k) (hr : zk_ret g mX11_topOf Q k) (n p L : Int) (hp : 0 ≤ p ∧ 0 ≤ L ∧ p + L ≤ n) (σ0 : zs_S) (hA : md_A σ0 n) (hQ : Q (some (zv_i (lo_t (σ0 3) p (L + 1).toNat))) σ0) : ∀ (N : Nat) (σ : zs_S) (t x : Int), (p + L + 1 - x).toNat < N → (σ = σ0) → (p ≤ x ∧ x ≤ p + L + 1) → (t = lo_t (σ0 3) p (x - p).toNat) → zw_W g mX11_topOf k 7 [(0, .ref (g.2.2.1 67)), (1, zv_i p), (2, zv_i L), (3, zv_i t), (4, zv_i x)] [] σ := by
  intro N
  induction N with
  | zero =>
    intro σ t x hN
    exact absurd hN (by omega)
  | succ N ih =>
    intro σ t x hN hs hx ht
    subst hs
    obtain ⟨hS, hK, hl, hd, hk, hc20, hdf, hgr⟩ := id hA
    obtain ⟨hn1, hn2, hlast, hd3, hd4⟩ := id hS
    refine zr_iload (pc := 7) C dX11_topOf_7 4 rfl ?_
    refine zr_iload_n (pc := 9) C dX11_topOf_9 1 rfl ?_
    refine zr_iload_n (pc := 10) C dX11_topOf_10 2 rfl ?_
    refine zr_iadd (pc := 11) C dX11_topOf_11 ?_
    refine zr_icmp_gt (pc := 12) C 44 dX11_topOf_12 (by decide) (by omega) (by omega) (fun h_1 => ?_) (fun h_1 => ?_)
    · refine zr_iload_n (pc := 44) C dX11_topOf_44 3 rfl ?_
      exact zr_iret (pc := 45) C hr dX11_topOf_45 rfl (by rw [ht, show (x - p).toNat = (L + 1).toNat by omega]; exact hQ)
    · have e68 := hd x (by omega) (by omega)
      have b3 := hd3 x (by omega) (by omega)
      have bt := lo_b (a := p) (b := n) (fun q h1 h2 => hd3 q (by omega) h2) (x - p).toNat (by omega)
      rw [← ht] at bt
      refine zr_aload_n (pc := 15) C dX11_topOf_15 0 rfl ?_
      refine zr_get (v := .ref (g.2.2.1 68)) (pc := 16) C 2 (some (some 68)) dX11_topOf_16 fX11_7 (by decide) (hs_67 _) rfl rfl ?_
      refine zr_iload (pc := 19) C dX11_topOf_19 4 rfl ?_
      refine zr_iaload (pc := 21) C dX11_topOf_21 (by decide) (hs_68 _) (by omega) (by decide) ?_
      refine zr_iload_n (pc := 22) C dX11_topOf_22 3 rfl ?_
      refine zr_icmp_ge (pc := 23) C 36 dX11_topOf_23 (by decide) (by omega) (by omega) (fun h_2 => ?_) (fun h_2 => ?_)
      · refine zr_iload_n (pc := 36) C dX11_topOf_36 3 rfl ?_
        refine zr_istore_n (L' := [(3, zv_i t), (0, .ref (g.2.2.1 67)), (1, zv_i p), (2, zv_i L), (4, zv_i x)]) (pc := 37) C dX11_topOf_37 (by decide) rfl ?_
        refine zr_iinc (L' := [(4, zv_i (x + 1)), (3, zv_i t), (0, .ref (g.2.2.1 67)), (1, zv_i p), (2, zv_i L)]) (pc := 38) C dX11_topOf_38 4 rfl (by decide) rfl ?_
        refine zr_goto (pc := 41) C 7 dX11_topOf_41 (by decide) ?_
        refine zr_sub [2, 3, 4, 1, 0] rfl ?_
        exact ih σ t (x + 1) (by omega) rfl (by omega) (by rw [lo_s hx.1, ← ht]; omega)
      · refine zr_aload_n (pc := 26) C dX11_topOf_26 0 rfl ?_
        refine zr_get (v := .ref (g.2.2.1 68)) (pc := 27) C 2 (some (some 68)) dX11_topOf_27 fX11_7 (by decide) (hs_67 _) rfl rfl ?_
        refine zr_iload (pc := 30) C dX11_topOf_30 4 rfl ?_
        refine zr_iaload (pc := 32) C dX11_topOf_32 (by decide) (hs_68 _) (by omega) (by decide) ?_
        refine zr_goto (pc := 33) C 37 dX11_topOf_33 (by decide) ?_
        refine zr_istore_n (L' := [(3, zv_i (σ 68 x)), (0, .ref (g.2.2.1 67)), (1, zv_i p), (2, zv_i L), (4, zv_i x)]) (pc := 37) C dX11_topOf_37 (by decide) rfl ?_
        refine zr_iinc (L' := [(4, zv_i (x + 1)), (3, zv_i (σ 68 x)), (0, .ref (g.2.2.1 67)), (1, zv_i p), (2, zv_i L)]) (pc := 38) C dX11_topOf_38 4 rfl (by decide) rfl ?_
        refine zr_goto (pc := 41) C 7 dX11_topOf_41 (by decide) ?_
        refine zr_sub [2, 3, 4, 1, 0] rfl ?_
        exact ih σ (σ 68 x) (x + 1) (by omega) rfl (by omega) (by rw [lo_s hx.1, ← ht]; omega)

set_option maxRecDepth 20000 in
set_option maxHeartbeats 4000000 in
theorem n_topOf (g : zg_G) (σ : zs_S) (n p L : Int) (hp : 0 ≤ p ∧ 0 ≤ L ∧ p + L ≤ n) (hA : md_A σ n) : zm_Met g mX11_topOf σ [.ref (g.2.2.1 67), zv_i p, zv_i L] (fun v τ => v = some (zv_i (lo_t (σ 3) p (L + 1).toNat)) ∧ σ = τ) := by
  refine zm_of (by decide +kernel) (Nat.le_of_ble_eq_true rfl) ?_
  intro k C hr
  show zw_W g mX11_topOf k 0 [(0, .ref (g.2.2.1 67)), (1, zv_i p), (2, zv_i L)] [] σ
  refine zr_sipush (pc := 0) C dX11_topOf_0 (by decide) ?_
  refine zr_istore_n (L' := [(3, zv_i 900), (0, .ref (g.2.2.1 67)), (1, zv_i p), (2, zv_i L)]) (pc := 3) C dX11_topOf_3 (by decide) rfl ?_
  refine zr_iload_n (pc := 4) C dX11_topOf_4 2 rfl ?_
  refine zr_istore (L' := [(4, zv_i p), (3, zv_i 900), (0, .ref (g.2.2.1 67)), (1, zv_i p), (2, zv_i L)]) (pc := 5) C dX11_topOf_5 (by decide) rfl ?_
  refine zr_sub [2, 3, 4, 1, 0] rfl ?_
  exact l_top C hr n p L hp σ hA ⟨rfl, rfl⟩ ((L + 1).toNat + 1) σ 900 p (by omega) rfl (by omega) lo_0.symm

set_option maxRecDepth 20000 in
set_option maxHeartbeats 4000000 in
theorem l_grade {g : zg_G} {k : zk_T} {Q : Option Value → zs_S → Prop} (C : zk_ok g mX11_gradeOf k) (hr : zk_ret g mX11_gradeOf Q k) (n p L : Int) (hp : 0 ≤ p ∧ 0 ≤ L ∧ p + L ≤ n) (σ0 : zs_S) (hA : md_A σ0 n) (hQ : Q (some (zv_i (gr_t (σ0 69) (σ0 70) (σ0 71) p (p + L) (σ0 67 3).toNat))) σ0) : ∀ (N : Nat) (σ : zs_S) (t a : Int), (σ0 67 3 - a).toNat < N → (σ = σ0) → (0 ≤ a ∧ a ≤ σ0 67 3) → (t = gr_t (σ0 69) (σ0 70) (σ0 71) p (p + L) a.toNat) → zw_W g mX11_gradeOf k 5 [(0, .ref (g.2.2.1 67)), (1, zv_i p), (2, zv_i L), (3, zv_i t), (4, zv_i a)] [] σ := by
  intro N
  induction N with
  | zero =>
    intro σ t a hN
    exact absurd hN (by omega)
  | succ N ih =>
    intro σ t a hN hs hx ht
    subst hs
    obtain ⟨hS, hK, hl, hd, hk, hc20, hdf, hgr⟩ := id hA
    obtain ⟨hn1, hn2, hlast, hd3, hd4⟩ := id hS
    have bt := gr_b (F := σ 69) (T := σ 70) (G := σ 71) (a := p) (b := p + L) (m := σ 67 3) (fun k y1 y2 => (hdf k y1 y2).2) a.toNat (by omega)
    rw [← ht] at bt
    refine zr_iload (pc := 5) C dX11_gradeOf_5 4 rfl ?_
    refine zr_aload_n (pc := 7) C dX11_gradeOf_7 0 rfl ?_
    refine zr_get (v := zv_i (σ 67 3)) (pc := 8) C 3 none dX11_gradeOf_8 fX11_91 (by decide) (hs_67 _) rfl rfl ?_
    refine zr_icmp_ge (pc := 11) C 63 dX11_gradeOf_11 (by decide) (by omega) (by omega) (fun h_1 => ?_) (fun h_1 => ?_)
    · refine zr_iload_n (pc := 63) C dX11_gradeOf_63 3 rfl ?_
      exact zr_iret (pc := 64) C hr dX11_gradeOf_64 rfl (by rw [ht, show a.toNat = (σ 67 3).toNat by omega]; exact hQ)
    · have df := hdf a (by omega) (by omega)
      refine zr_aload_n (pc := 14) C dX11_gradeOf_14 0 rfl ?_
      refine zr_get (v := .ref (g.2.2.1 69)) (pc := 15) C 4 (some (some 69)) dX11_gradeOf_15 fX11_13 (by decide) (hs_67 _) rfl rfl ?_
      refine zr_iload (pc := 18) C dX11_gradeOf_18 4 rfl ?_
      refine zr_iaload (pc := 20) C dX11_gradeOf_20 (by decide) (hs_69 _) (by omega) (by decide) ?_
      refine zr_iload_n (pc := 21) C dX11_gradeOf_21 1 rfl ?_
      refine zr_iload_n (pc := 22) C dX11_gradeOf_22 2 rfl ?_
      refine zr_iadd (pc := 23) C dX11_gradeOf_23 ?_
      refine zr_icmp_gt (pc := 24) C 57 dX11_gradeOf_24 (by decide) (by omega) (by omega) (fun h_2 => ?_) (fun h_2 => ?_)
      · refine zr_iinc (L' := [(4, zv_i (a + 1)), (0, .ref (g.2.2.1 67)), (1, zv_i p), (2, zv_i L), (3, zv_i t)]) (pc := 57) C dX11_gradeOf_57 4 rfl (by decide) rfl ?_
        refine zr_goto (pc := 60) C 5 dX11_gradeOf_60 (by decide) ?_
        refine zr_sub [1, 2, 3, 4, 0] rfl ?_
        exact ih σ t (a + 1) (by omega) rfl (by omega) (by rw [gr_n (by omega) (by omega), ← ht])
      · refine zr_aload_n (pc := 27) C dX11_gradeOf_27 0 rfl ?_
        refine zr_get (v := .ref (g.2.2.1 70)) (pc := 28) C 5 (some (some 70)) dX11_gradeOf_28 fX11_16 (by decide) (hs_67 _) rfl rfl ?_
        refine zr_iload (pc := 31) C dX11_gradeOf_31 4 rfl ?_
        refine zr_iaload (pc := 33) C dX11_gradeOf_33 (by decide) (hs_70 _) (by omega) (by decide) ?_
        refine zr_iload_n (pc := 34) C dX11_gradeOf_34 1 rfl ?_
        refine zr_icmp_lt (pc := 35) C 57 dX11_gradeOf_35 (by decide) (by omega) (by omega) (fun h_3 => ?_) (fun h_3 => ?_)
        · refine zr_iinc (L' := [(4, zv_i (a + 1)), (0, .ref (g.2.2.1 67)), (1, zv_i p), (2, zv_i L), (3, zv_i t)]) (pc := 57) C dX11_gradeOf_57 4 rfl (by decide) rfl ?_
          refine zr_goto (pc := 60) C 5 dX11_gradeOf_60 (by decide) ?_
          refine zr_sub [1, 2, 3, 4, 0] rfl ?_
          exact ih σ t (a + 1) (by omega) rfl (by omega) (by rw [gr_n (by omega) (by omega), ← ht])
        · refine zr_aload_n (pc := 38) C dX11_gradeOf_38 0 rfl ?_
          refine zr_get (v := .ref (g.2.2.1 71)) (pc := 39) C 6 (some (some 71)) dX11_gradeOf_39 fX11_19 (by decide) (hs_67 _) rfl rfl ?_
          refine zr_iload (pc := 42) C dX11_gradeOf_42 4 rfl ?_
          refine zr_iaload (pc := 44) C dX11_gradeOf_44 (by decide) (hs_71 _) (by omega) (by decide) ?_
          refine zr_iload_n (pc := 45) C dX11_gradeOf_45 3 rfl ?_
          refine zr_icmp_le (pc := 46) C 57 dX11_gradeOf_46 (by decide) (by omega) (by omega) (fun h_4 => ?_) (fun h_4 => ?_)
          · refine zr_iinc (L' := [(4, zv_i (a + 1)), (0, .ref (g.2.2.1 67)), (1, zv_i p), (2, zv_i L), (3, zv_i t)]) (pc := 57) C dX11_gradeOf_57 4 rfl (by decide) rfl ?_
            refine zr_goto (pc := 60) C 5 dX11_gradeOf_60 (by decide) ?_
            refine zr_sub [1, 2, 3, 4, 0] rfl ?_
            exact ih σ t (a + 1) (by omega) rfl (by omega) (by rw [gr_y (by omega) (by omega), ← ht]; omega)
          · refine zr_aload_n (pc := 49) C dX11_gradeOf_49 0 rfl ?_
            refine zr_get (v := .ref (g.2.2.1 71)) (pc := 50) C 6 (some (some 71)) dX11_gradeOf_50 fX11_19 (by decide) (hs_67 _) rfl rfl ?_
            refine zr_iload (pc := 53) C dX11_gradeOf_53 4 rfl ?_
            refine zr_iaload (pc := 55) C dX11_gradeOf_55 (by decide) (hs_71 _) (by omega) (by decide) ?_
            refine zr_istore_n (L' := [(3, zv_i (σ 71 a)), (0, .ref (g.2.2.1 67)), (1, zv_i p), (2, zv_i L), (4, zv_i a)]) (pc := 56) C dX11_gradeOf_56 (by decide) rfl ?_
            refine zr_iinc (L' := [(4, zv_i (a + 1)), (3, zv_i (σ 71 a)), (0, .ref (g.2.2.1 67)), (1, zv_i p), (2, zv_i L)]) (pc := 57) C dX11_gradeOf_57 4 rfl (by decide) rfl ?_
            refine zr_goto (pc := 60) C 5 dX11_gradeOf_60 (by decide) ?_
            refine zr_sub [2, 3, 4, 1, 0] rfl ?_
            exact ih σ (σ 71 a) (a + 1) (by omega) rfl (by omega) (by rw [gr_y (by omega) (by omega), ← ht]; omega)

set_option maxRecDepth 20000 in
set_option maxHeartbeats 4000000 in
theorem n_gradeOf (g : zg_G) (σ : zs_S) (n p L : Int) (hp : 0 ≤ p ∧ 0 ≤ L ∧ p + L ≤ n) (hA : md_A σ n) : zm_Met g mX11_gradeOf σ [.ref (g.2.2.1 67), zv_i p, zv_i L] (fun v τ => v = some (zv_i (hi_t (σ 4) p (L + 1).toNat)) ∧ σ = τ) := by
  refine zm_of (by decide +kernel) (Nat.le_of_ble_eq_true rfl) ?_
  intro k C hr
  show zw_W g mX11_gradeOf k 0 [(0, .ref (g.2.2.1 67)), (1, zv_i p), (2, zv_i L)] [] σ
  obtain ⟨hS, hK, hl, hd, hk, hc20, hdf, hgr⟩ := id hA
  obtain ⟨hn1, hn2, hlast, hd3, hd4⟩ := id hS
  refine zr_iconst (pc := 0) C dX11_gradeOf_0 ?_
  refine zr_istore_n (L' := [(3, zv_i 1), (0, .ref (g.2.2.1 67)), (1, zv_i p), (2, zv_i L)]) (pc := 1) C dX11_gradeOf_1 (by decide) rfl ?_
  refine zr_iconst (pc := 2) C dX11_gradeOf_2 ?_
  refine zr_istore (L' := [(4, zv_i 0), (3, zv_i 1), (0, .ref (g.2.2.1 67)), (1, zv_i p), (2, zv_i L)]) (pc := 3) C dX11_gradeOf_3 (by decide) rfl ?_
  refine zr_sub [2, 3, 4, 1, 0] rfl ?_
  refine l_grade C hr n p L hp σ hA ⟨zq_i ?_, rfl⟩ ((σ 67 3).toNat + 1) σ 1 0 (by omega) rfl (by omega) rfl
  have e := gr_h (F := σ 69) (T := σ 70) (G := σ 71) (d := σ 4) (m := σ 67 3) (n := n) (fun k y1 y2 => (hdf k y1 y2).1.2.1) hc20.1 (fun k y1 y2 => (hdf k y1 y2).2) hgr hp.1 L.toNat (by omega)
  rw [show (L + 1).toNat = L.toNat + 1 by omega, e, show p + ((L.toNat : Nat) : Int) = p + L by omega]

set_option maxRecDepth 20000 in
set_option maxHeartbeats 4000000 in
theorem n_allowed (g : zg_G) (σ : zs_S) (n j p : Int) (hj : 0 ≤ j ∧ j < 6) (hp : 0 ≤ p ∧ p ≤ 1000) (hA : md_A σ n) : zm_Met g mX11_isAllowed σ [.ref (g.2.2.1 67), zv_i j, zv_i p] (fun v τ => v = some (zv_i (zi_b (bk_a σ n p j))) ∧ σ = τ) := by
  refine zm_of (by decide +kernel) (Nat.le_of_ble_eq_true rfl) ?_
  intro k C hr
  show zw_W g mX11_isAllowed k 0 [(0, .ref (g.2.2.1 67)), (1, zv_i j), (2, zv_i p)] [] σ
  obtain ⟨hS, hK, hl, hd, hk, hc20, hdf, hgr⟩ := id hA
  obtain ⟨hn1, hn2, hlast, hd3, hd4⟩ := id hS
  obtain ⟨k1, k2, k3⟩ := hk j (by omega) (by omega)
  obtain ⟨b1, b2, b3⟩ := hK j (by omega) (by omega)
  refine zr_aload_n (pc := 0) C dX11_isAllowed_0 0 rfl ?_
  refine zr_get (v := .ref (g.2.2.1 72)) (pc := 1) C 7 (some (some 72)) dX11_isAllowed_1 fX11_22 (by decide) (hs_67 _) rfl rfl ?_
  refine zr_iload_n (pc := 4) C dX11_isAllowed_4 1 rfl ?_
  refine zr_iaload (pc := 5) C dX11_isAllowed_5 (by decide) (hs_72 _) (by omega) (by decide) ?_
  refine zr_istore_n (L' := [(3, zv_i (σ 72 j)), (0, .ref (g.2.2.1 67)), (1, zv_i j), (2, zv_i p)]) (pc := 6) C dX11_isAllowed_6 (by decide) rfl ?_
  refine zr_iload_n (pc := 7) C dX11_isAllowed_7 0 rfl ?_
  refine zr_if_le (pc := 8) C 40 dX11_isAllowed_8 (by decide) (by omega) (fun h_1 => ?_) (fun h_1 => ?_)
  · refine zr_iconst (pc := 40) C dX11_isAllowed_40 ?_
    exact zr_zret (pc := 41) C hr dX11_isAllowed_41 rfl (by decide) (⟨zq_0 (by show ¬ (0 < σ (8 + 2 * j.toNat) 0 ∧ p + σ (8 + 2 * j.toNat) 0 ≤ n ∧ σ (8 + 2 * j.toNat) 1 ≤ lo_t (σ 3) p (σ (8 + 2 * j.toNat) 0 + 1).toNat); rw [← k1, ← k2]; omega), rfl⟩)
  · refine zr_iload_n (pc := 11) C dX11_isAllowed_11 3 rfl ?_
    refine zr_iload_n (pc := 12) C dX11_isAllowed_12 0 rfl ?_
    refine zr_iadd (pc := 13) C dX11_isAllowed_13 ?_
    refine zr_aload_n (pc := 14) C dX11_isAllowed_14 1 rfl ?_
    refine zr_get (v := zv_i (σ 67 1)) (pc := 15) C 1 none dX11_isAllowed_15 fX11_77 (by decide) (hs_67 _) rfl rfl ?_
    refine zr_icmp_gt (pc := 18) C 40 dX11_isAllowed_18 (by decide) (by omega) (by omega) (fun h_2 => ?_) (fun h_2 => ?_)
    · refine zr_iconst (pc := 40) C dX11_isAllowed_40 ?_
      exact zr_zret (pc := 41) C hr dX11_isAllowed_41 rfl (by decide) (⟨zq_0 (by show ¬ (0 < σ (8 + 2 * j.toNat) 0 ∧ p + σ (8 + 2 * j.toNat) 0 ≤ n ∧ σ (8 + 2 * j.toNat) 1 ≤ lo_t (σ 3) p (σ (8 + 2 * j.toNat) 0 + 1).toNat); rw [← k1, ← k2]; omega), rfl⟩)
    · have bt := lo_b (a := p) (b := n) (fun q h1 h2 => hd3 q (by omega) h2) (σ 72 j + 1).toNat (by omega)
      refine zr_aload_n (pc := 21) C dX11_isAllowed_21 1 rfl ?_
      refine zr_iload_n (pc := 22) C dX11_isAllowed_22 3 rfl ?_
      refine zr_iload_n (pc := 23) C dX11_isAllowed_23 0 rfl ?_
      refine zr_callV (As := [zv_i p, zv_i (σ 72 j)]) (rest := []) (b := 67) (pc := 24) C dX11_isAllowed_24 kX11_topOf vX11_95 rfl (by decide) (by decide) (hs_67 _) rfl (Nat.le_of_ble_eq_true rfl) (n_topOf g σ n p (σ 72 j) (by omega) (by exact hA)) (fun v_ τ_ h_ => ?_)
      obtain ⟨rfl, rfl⟩ := h_
      show zw_W g mX11_isAllowed k 27 [(3, zv_i (σ 72 j)), (0, .ref (g.2.2.1 67)), (1, zv_i j), (2, zv_i p)] [zv_i (lo_t (σ 3) p ((σ 72 j) + 1).toNat)] σ
      refine zr_aload_n (pc := 27) C dX11_isAllowed_27 1 rfl ?_
      refine zr_get (v := .ref (g.2.2.1 73)) (pc := 28) C 8 (some (some 73)) dX11_isAllowed_28 fX11_25 (by decide) (hs_67 _) rfl rfl ?_
      refine zr_iload_n (pc := 31) C dX11_isAllowed_31 2 rfl ?_
      refine zr_iaload (pc := 32) C dX11_isAllowed_32 (by decide) (hs_73 _) (by omega) (by decide) ?_
      refine zr_icmp_lt (pc := 33) C 40 dX11_isAllowed_33 (by decide) (by omega) (by omega) (fun h_3 => ?_) (fun h_3 => ?_)
      · refine zr_iconst (pc := 40) C dX11_isAllowed_40 ?_
        exact zr_zret (pc := 41) C hr dX11_isAllowed_41 rfl (by decide) (⟨zq_0 (by show ¬ (0 < σ (8 + 2 * j.toNat) 0 ∧ p + σ (8 + 2 * j.toNat) 0 ≤ n ∧ σ (8 + 2 * j.toNat) 1 ≤ lo_t (σ 3) p (σ (8 + 2 * j.toNat) 0 + 1).toNat); rw [← k1, ← k2]; omega), rfl⟩)
      · refine zr_iconst (pc := 36) C dX11_isAllowed_36 ?_
        refine zr_goto (pc := 37) C 41 dX11_isAllowed_37 (by decide) ?_
        exact zr_zret (pc := 41) C hr dX11_isAllowed_41 rfl (by decide) (⟨zq_1 (by show 0 < σ (8 + 2 * j.toNat) 0 ∧ p + σ (8 + 2 * j.toNat) 0 ≤ n ∧ σ (8 + 2 * j.toNat) 1 ≤ lo_t (σ 3) p (σ (8 + 2 * j.toNat) 0 + 1).toNat; rw [← k1, ← k2]; omega), rfl⟩)

set_option maxRecDepth 20000 in
set_option maxHeartbeats 4000000 in
theorem n_worth (g : zg_G) (σ : zs_S) (n j p : Int) (hj : 0 ≤ j ∧ j < 6) (hp : 0 ≤ p ∧ p ≤ 1000) (hA : md_A σ n) (ha : bk_a σ n p j) : zm_Met g mX11_worth σ [.ref (g.2.2.1 67), zv_i j, zv_i p] (fun v τ => v = some (zv_i (bk_v σ p j)) ∧ σ = τ) := by
  refine zm_of (by decide +kernel) (Nat.le_of_ble_eq_true rfl) ?_
  intro k C hr
  show zw_W g mX11_worth k 0 [(0, .ref (g.2.2.1 67)), (1, zv_i j), (2, zv_i p)] [] σ
  obtain ⟨hS, hK, hl, hd, hk, hc20, hdf, hgr⟩ := id hA
  obtain ⟨hn1, hn2, hlast, hd3, hd4⟩ := id hS
  obtain ⟨k1, k2, k3⟩ := hk j (by omega) (by omega)
  obtain ⟨b1, b2, b3⟩ := hK j (by omega) (by omega)
  have a1 : 0 < σ (8 + 2 * j.toNat) 0 := ha.1
  have a2 : p + σ (8 + 2 * j.toNat) 0 ≤ n := ha.2.1
  have tb := bk_tb hS hp.1 ha
  have et : lo_t (σ 3) p (σ 72 j + 1).toNat = bk_t σ p j := by rw [k1]
  have eg : hi_t (σ 4) p (σ 72 j + 1).toNat = bk_g σ p j := by rw [k1]
  refine zr_aload_n (pc := 0) C dX11_worth_0 0 rfl ?_
  refine zr_get (v := .ref (g.2.2.1 72)) (pc := 1) C 7 (some (some 72)) dX11_worth_1 fX11_22 (by decide) (hs_67 _) rfl rfl ?_
  refine zr_iload_n (pc := 4) C dX11_worth_4 1 rfl ?_
  refine zr_iaload (pc := 5) C dX11_worth_5 (by decide) (hs_72 _) (by omega) (by decide) ?_
  refine zr_istore_n (L' := [(3, zv_i (σ 72 j)), (0, .ref (g.2.2.1 67)), (1, zv_i j), (2, zv_i p)]) (pc := 6) C dX11_worth_6 (by decide) rfl ?_
  refine zr_aload_n (pc := 7) C dX11_worth_7 1 rfl ?_
  refine zr_get (v := .ref (g.2.2.1 74)) (pc := 8) C 9 (some (some 74)) dX11_worth_8 fX11_28 (by decide) (hs_67 _) rfl rfl ?_
  refine zr_bipush (pc := 11) C dX11_worth_11 (by decide) ?_
  refine zr_iload_n (pc := 13) C dX11_worth_13 2 rfl ?_
  refine zr_imul (pc := 14) C dX11_worth_14 ?_
  refine zr_iconst (pc := 15) C dX11_worth_15 ?_
  refine zr_aload_n (pc := 16) C dX11_worth_16 1 rfl ?_
  refine zr_iload_n (pc := 17) C dX11_worth_17 3 rfl ?_
  refine zr_iload_n (pc := 18) C dX11_worth_18 0 rfl ?_
  refine zr_callV (As := [zv_i p, zv_i (σ 72 j)]) (rest := [zv_i 4, zv_i (76 * j), .ref (g.2.2.1 74)]) (b := 67) (pc := 19) C dX11_worth_19 kX11_topOf vX11_95 rfl (by decide) (by decide) (hs_67 _) rfl (Nat.le_of_ble_eq_true rfl) (n_topOf g σ n p (σ 72 j) (by omega) (by exact hA)) (fun v_ τ_ h_ => ?_)
  obtain ⟨rfl, rfl⟩ := h_
  show zw_W g mX11_worth k 22 [(3, zv_i (σ 72 j)), (0, .ref (g.2.2.1 67)), (1, zv_i j), (2, zv_i p)] [zv_i (lo_t (σ 3) p ((σ 72 j) + 1).toNat), zv_i 4, zv_i (76 * j), .ref (g.2.2.1 74)] σ
  refine zr_bipush (pc := 22) C dX11_worth_22 (by decide) ?_
  refine zr_idiv (pc := 24) C dX11_worth_24 (by rw [et] at *; omega) (by rw [et] at *; omega) (by rw [et] at *; omega) (by rw [et] at *; omega) ?_
  refine zr_imul (pc := 25) C dX11_worth_25 ?_
  refine zr_iadd (pc := 26) C dX11_worth_26 ?_
  refine zr_aload_n (pc := 27) C dX11_worth_27 1 rfl ?_
  refine zr_iload_n (pc := 28) C dX11_worth_28 3 rfl ?_
  refine zr_iload_n (pc := 29) C dX11_worth_29 0 rfl ?_
  refine zr_callV (As := [zv_i p, zv_i (σ 72 j)]) (rest := [zv_i ((76 * j) + (4 * ((lo_t (σ 3) p ((σ 72 j) + 1).toNat) / 50))), .ref (g.2.2.1 74)]) (b := 67) (pc := 30) C dX11_worth_30 kX11_gradeOf vX11_99 rfl (by decide) (by decide) (hs_67 _) rfl (Nat.le_of_ble_eq_true rfl) (n_gradeOf g σ n p (σ 72 j) (by omega) (by exact hA)) (fun v_ τ_ h_ => ?_)
  obtain ⟨rfl, rfl⟩ := h_
  show zw_W g mX11_worth k 33 [(3, zv_i (σ 72 j)), (0, .ref (g.2.2.1 67)), (1, zv_i j), (2, zv_i p)] [zv_i (hi_t (σ 4) p ((σ 72 j) + 1).toNat), zv_i ((76 * j) + (4 * ((lo_t (σ 3) p ((σ 72 j) + 1).toNat) / 50))), .ref (g.2.2.1 74)] σ
  refine zr_iadd (pc := 33) C dX11_worth_33 ?_
  rw [et, eg]
  have hix : 0 ≤ 76 * j + 4 * (bk_t σ p j / 50) + bk_g σ p j ∧ 76 * j + 4 * (bk_t σ p j / 50) + bk_g σ p j < 456 := by omega
  refine zr_iaload (pc := 34) C dX11_worth_34 (by decide) (hs_74 _) hix (by decide) ?_
  exact zr_iret (pc := 35) C hr dX11_worth_35 rfl (⟨zq_i (k3 (bk_t σ p j / 50) (bk_g σ p j) (by omega) (by omega) (by omega) (by omega)), rfl⟩)
