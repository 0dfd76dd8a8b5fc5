set_option maxRecDepth 20000 in
set_option maxHeartbeats 4000000 in
theorem l_solA {g : zg_G} {k : zk_T} {Q : Option Value → zs_S → Prop} (C : zk_ok g mX2_solve k) (hr : zk_ret g mX2_solve Q k) (la : Int) (hla : 0 ≤ la ∧ la ≤ 9100) (σ0 : zs_S) (hI : ch_I σ0) (hJ : ch_J σ0) (hli : ∀ k : Int, 0 ≤ k → k < 6 → σ0 48 k ≤ la) (hex : ∀ σ1, ch_A σ0 σ1 la (la + 1) → zw_W g mX2_solve k 40 [(0, .ref (g.2.2.1 45)), (1, zv_i la)] [] σ1) : ∀ (N : Nat) (σ : zs_S) (p : Int), (la + 1 - p).toNat < N → (0 ≤ p ∧ p ≤ la + 1) → (ch_A σ0 σ la p) → zw_W g mX2_solve k 14 [(0, .ref (g.2.2.1 45)), (1, zv_i la), (2, zv_i p)] [] σ := by
  intro N
  induction N with
  | zero =>
    intro σ p hN
    exact absurd hN (by omega)
  | succ N ih =>
    intro σ p hN hp hA
    have fr := hA.1
    refine zr_iload_n (pc := 14) C dX2_solve_14 2 rfl ?_
    refine zr_iload_n (pc := 15) C dX2_solve_15 1 rfl ?_
    refine zr_icmp_gt (pc := 16) C 40 dX2_solve_16 (by decide) (by omega) (by omega) (fun h_1 => ?_) (fun h_1 => ?_)
    · refine zr_sub [0, 1] rfl ?_
      have ep : p = la + 1 := by omega
      rw [ep] at hA
      exact hex σ hA
    · have hb := hA.2.2.1 p (by omega) (by omega)
      have hj := hJ p (by omega) (by omega)
      refine zr_aload_n (pc := 19) C dX2_solve_19 0 rfl ?_
      refine zr_get (v := .ref (g.2.2.1 49)) (pc := 20) C 3 (some (some 49)) dX2_solve_20 fX2_21 (by decide) (hs_45 _) rfl rfl ?_
      refine zr_iload_n (pc := 23) C dX2_solve_23 2 rfl ?_
      refine zr_iaload (pc := 24) C dX2_solve_24 (by decide) (hs_49 _) (by omega) (by decide) ?_
      refine zr_iconst (pc := 25) C dX2_solve_25 ?_
      refine zr_icmp_ne (pc := 26) C 34 dX2_solve_26 (by decide) (by omega) (by omega) (fun h_2 => ?_) (fun h_2 => ?_)
      · 
        refine zr_iinc (L' := [(2, zv_i (p + 1)), (0, .ref (g.2.2.1 45)), (1, zv_i la)]) (pc := 34) C dX2_solve_34 2 rfl (by decide) rfl ?_
        refine zr_goto (pc := 37) C 14 dX2_solve_37 (by decide) ?_
        refine zr_sub [1, 2, 0] rfl ?_
        exact ih σ (p + 1) (by omega) (by omega) (ch_An hA (by omega))
      · 
        refine zr_aload_n (pc := 29) C dX2_solve_29 0 rfl ?_
        refine zr_iload_n (pc := 30) C dX2_solve_30 2 rfl ?_
        refine zr_callV (As := [zv_i p]) (rest := []) (b := 45) (pc := 31) C dX2_solve_31 kX2_reachOnFrom vX2_28 rfl (by decide) (by decide) (hs_45 _) rfl (Nat.le_of_ble_eq_true rfl) (m_reach g σ p (by omega) (by exact fun k y1 y2 => by rw [fr 46 (by decide), fr 47 (by decide), fr 48 (by decide)]; exact hI k y1 y2)) (fun v_ τ_ h_ => ?_)
        obtain ⟨rfl, h_4⟩ := h_
        generalize τ_ = τ_3 at h_4 ⊢
        show zw_W g mX2_solve k 34 [(0, .ref (g.2.2.1 45)), (1, zv_i la), (2, zv_i p)] [] τ_3
        refine zr_iinc (L' := [(2, zv_i (p + 1)), (0, .ref (g.2.2.1 45)), (1, zv_i la)]) (pc := 34) C dX2_solve_34 2 rfl (by decide) rfl ?_
        refine zr_goto (pc := 37) C 14 dX2_solve_37 (by decide) ?_
        refine zr_sub [1, 2, 0] rfl ?_
        exact ih τ_3 (p + 1) (by omega) (by omega) (ch_Ay hI hJ hla hli (by omega) hA h_4.1 h_4.2.1 h_4.2.2)

set_option maxRecDepth 20000 in
set_option maxHeartbeats 4000000 in
theorem l_solB {g : zg_G} {k : zk_T} {Q : Option Value → zs_S → Prop} (C : zk_ok g mX2_solve k) (hr : zk_ret g mX2_solve Q k) (la : Int) (hla : 0 ≤ la ∧ la ≤ 9100) (σ0 : zs_S) (hI : ch_I σ0) (hJ : ch_J σ0) (hli : ∀ k : Int, 0 ≤ k → k < 6 → σ0 48 k ≤ la) (σ1 : zs_S) (hA : ch_A σ0 σ1 la (la + 1)) (hQ : ∀ τ, zf_x σ0 τ [49] → ch_S τ → ch_J τ → Q (some (zv_i (τ 49 0))) τ) : ∀ (N : Nat) (σ : zs_S) (p : Int), (p + 1).toNat < N → (-1 ≤ p ∧ p ≤ la) → (ch_B σ0 σ1 σ la p) → zw_W g mX2_solve k 42 [(0, .ref (g.2.2.1 45)), (1, zv_i la), (2, zv_i p)] [] σ := by
  intro N
  induction N with
  | zero =>
    intro σ p hN
    exact absurd hN (by omega)
  | succ N ih =>
    intro σ p hN hp hB
    have fr := hB.1
    refine zr_iload_n (pc := 42) C dX2_solve_42 2 rfl ?_
    refine zr_if_lt (pc := 43) C 73 dX2_solve_43 (by decide) (by omega) (fun h_1 => ?_) (fun h_1 => ?_)
    · have e0 : p = -1 := by omega
      subst e0
      obtain ⟨z1, z2, z3⟩ := ch_Be hJ hla hI hli hA hB
      refine zr_aload_n (pc := 73) C dX2_solve_73 0 rfl ?_
      refine zr_get (v := .ref (g.2.2.1 49)) (pc := 74) C 3 (some (some 49)) dX2_solve_74 fX2_21 (by decide) (hs_45 _) rfl rfl ?_
      refine zr_iconst (pc := 77) C dX2_solve_77 ?_
      refine zr_iaload (pc := 78) C dX2_solve_78 (by decide) (hs_49 _) (by omega) (by decide) ?_
      exact zr_iret (pc := 79) C hr dX2_solve_79 rfl (hQ σ z1 z2 z3)
    · have hj := hJ p (by omega) (by omega)
      have hb : σ 49 p = -1 ∨ σ 49 p = σ0 49 p := by
        by_cases z : 0 ≤ p ∧ p ≤ la ∧ σ1 49 p = -1
        · exact Or.inl (hB.2.2.1 p (Int.le_refl _) z)
        · exact Or.inr (hB.2.2.2 p (by omega) (by omega) z)
      refine zr_aload_n (pc := 46) C dX2_solve_46 0 rfl ?_
      refine zr_get (v := .ref (g.2.2.1 49)) (pc := 47) C 3 (some (some 49)) dX2_solve_47 fX2_21 (by decide) (hs_45 _) rfl rfl ?_
      refine zr_iload_n (pc := 50) C dX2_solve_50 2 rfl ?_
      refine zr_iaload (pc := 51) C dX2_solve_51 (by decide) (hs_49 _) (by omega) (by decide) ?_
      refine zr_iconst (pc := 52) C dX2_solve_52 ?_
      refine zr_icmp_ne (pc := 53) C 67 dX2_solve_53 (by decide) (by omega) (by omega) (fun h_2 => ?_) (fun h_2 => ?_)
      · 
        refine zr_iinc (L' := [(2, zv_i (p + (-1))), (0, .ref (g.2.2.1 45)), (1, zv_i la)]) (pc := 67) C dX2_solve_67 2 rfl (by decide) rfl ?_
        refine zr_goto (pc := 70) C 42 dX2_solve_70 (by decide) ?_
        refine zr_sub [1, 2, 0] rfl ?_
        exact ih σ (p + (-1)) (by omega) (by omega) (ch_Bn hB (by omega))
      · have mp : σ1 49 p = -1 := Classical.byContradiction fun z => by
          have := hB.2.2.2 p (by omega) (by omega) (fun y => z y.2.2)
          omega
        have hg9 := ch_Bg hI hla hli (by omega) hA hB mp
        refine zr_aload_n (pc := 56) C dX2_solve_56 0 rfl ?_
        refine zr_get (v := .ref (g.2.2.1 49)) (pc := 57) C 3 (some (some 49)) dX2_solve_57 fX2_21 (by decide) (hs_45 _) rfl rfl ?_
        refine zr_iload_n (pc := 60) C dX2_solve_60 2 rfl ?_
        refine zr_aload_n (pc := 61) C dX2_solve_61 0 rfl ?_
        refine zr_iload_n (pc := 62) C dX2_solve_62 2 rfl ?_
        refine zr_callV (As := [zv_i p]) (rest := [zv_i p, .ref (g.2.2.1 49)]) (b := 45) (pc := 63) C dX2_solve_63 kX2_mostFrom vX2_32 rfl (by decide) (by decide) (hs_45 _) rfl (Nat.le_of_ble_eq_true rfl) (m_most g σ p (by omega) (by exact fun k y1 y2 => by rw [fr 46 (by decide), fr 47 (by decide), fr 48 (by decide)]; exact hI k y1 y2) (by exact fun a y1 y2 y3 => (hg9 a y1 y2 y3).2.2)) (fun v_ τ_ h_ => ?_)
        obtain ⟨rfl, rfl⟩ := h_
        show zw_W g mX2_solve k 66 [(0, .ref (g.2.2.1 45)), (1, zv_i la), (2, zv_i p)] [zv_i (ch_f (σ 46) (σ 47) (σ 48) (σ 49) p 6), zv_i p, .ref (g.2.2.1 49)] σ
        refine zr_iastore (pc := 66) C dX2_solve_66 (by decide) (hs_49 _) (by omega) (by decide) (fun τ_3 e_4 => ?_)
        refine zr_iinc (L' := [(2, zv_i (p + (-1))), (0, .ref (g.2.2.1 45)), (1, zv_i la)]) (pc := 67) C dX2_solve_67 2 rfl (by decide) rfl ?_
        refine zr_goto (pc := 70) C 42 dX2_solve_70 (by decide) ?_
        refine zr_sub [1, 2, 0] rfl ?_
        exact ih τ_3 (p + (-1)) (by omega) (by omega) (ch_By hI hJ hla hli (by omega) hA hB (by omega) e_4)

set_option maxRecDepth 20000 in
set_option maxHeartbeats 4000000 in
theorem m_solve (g : zg_G) (σ : zs_S) (hI : ch_I σ) (hJ : ch_J σ) : zm_Met g mX2_solve σ [.ref (g.2.2.1 45)] (fun v τ => v = some (zv_i (τ 49 0)) ∧ zf_x σ τ [49] ∧ ch_S τ ∧ ch_J τ) := by
  refine zm_of (by decide +kernel) (Nat.le_of_ble_eq_true rfl) ?_
  intro k C hr
  show zw_W g mX2_solve k 0 [(0, .ref (g.2.2.1 45))] [] σ
  refine zr_aload_n (pc := 0) C dX2_solve_0 0 rfl ?_
  refine zr_callV (As := []) (rest := []) (b := 45) (pc := 1) C dX2_solve_1 kX2_farthestLimit vX2_24 rfl (by decide) (by decide) (hs_45 _) rfl (Nat.le_of_ble_eq_true rfl) (m_far g σ (by exact hI)) (fun v_ τ_ h_ => ?_)
  obtain ⟨rfl, rfl⟩ := h_
  show zw_W g mX2_solve k 4 [(0, .ref (g.2.2.1 45))] [zv_i (ch_m (σ 48) 6)] σ
  refine zr_istore_n (L' := [(1, zv_i (ch_m (σ 48) 6)), (0, .ref (g.2.2.1 45))]) (pc := 4) C dX2_solve_4 (by decide) rfl ?_
  refine zr_aload_n (pc := 5) C dX2_solve_5 1 rfl ?_
  refine zr_get (v := .ref (g.2.2.1 49)) (pc := 6) C 3 (some (some 49)) dX2_solve_6 fX2_21 (by decide) (hs_45 _) rfl rfl ?_
  refine zr_iconst (pc := 9) C dX2_solve_9 ?_
  refine zr_iconst (pc := 10) C dX2_solve_10 ?_
  refine zr_iastore (pc := 11) C dX2_solve_11 (by decide) (hs_49 _) (by omega) (by decide) (fun τ_1 e_2 => ?_)
  refine zr_iconst (pc := 12) C dX2_solve_12 ?_
  refine zr_istore_n (L' := [(2, zv_i 0), (1, zv_i (ch_m (σ 48) 6)), (0, .ref (g.2.2.1 45))]) (pc := 13) C dX2_solve_13 (by decide) rfl ?_
  refine zr_sub [2, 1, 0] rfl ?_
  have mb := ch_mb (li := σ 48) (fun k y1 y2 => (hI k y1 y2).2.2.1.2) 6 (by omega)
  refine l_solA C hr (ch_m (σ 48) 6) (by omega) σ hI hJ (fun k y1 y2 => mb.2.2 k y1 (by omega)) (fun σ1 hA => ?_) ((ch_m (σ 48) 6).toNat + 2) τ_1 0 (by omega) (by omega) ⟨zf_p (zf_r σ _) e_2 (by decide), by rw [e_2, zs_put_self], fun x x1 x2 => ?_, fun x x1 x2 x3 => ?_, fun x x1 x2 => absurd x2 (by omega)⟩
  · refine zr_iload_n (pc := 40) C dX2_solve_40 1 rfl ?_
    refine zr_istore_n (L' := [(2, zv_i (ch_m (σ 48) 6)), (0, .ref (g.2.2.1 45)), (1, zv_i (ch_m (σ 48) 6))]) (pc := 41) C dX2_solve_41 (by decide) rfl ?_
    refine zr_sub [1, 2, 0] rfl ?_
    exact l_solB C hr (ch_m (σ 48) 6) (by omega) σ hI hJ (fun k y1 y2 => mb.2.2 k y1 (by omega)) σ1 hA (fun τ z1 z2 z3 => ⟨rfl, z1, z2, z3⟩) ((ch_m (σ 48) 6).toNat + 2) σ1 (ch_m (σ 48) 6) (by omega) (by omega) ⟨hA.1, fun x x1 x2 => absurd x2.2.1 (by omega), fun x x1 x2 => x2.2.2, fun x x1 x2 x3 => by
      rcases hA.2.2.1 x x1 x2 with z | z
      · exact absurd ⟨x1, hA.2.2.2.1 x x1 x2 z, z⟩ x3
      · exact z⟩
  · rw [e_2, zs_put_at]
    by_cases z : x = 0
    · rw [if_pos z]; exact Or.inl rfl
    · rw [if_neg z]; exact Or.inr rfl
  · rw [e_2, zs_put_at] at x3
    by_cases z : x = 0
    · omega
    · rw [if_neg z] at x3
      have := hJ x x1 x2
      omega
