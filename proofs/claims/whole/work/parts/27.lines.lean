set_option maxRecDepth 20000 in
set_option maxHeartbeats 4000000 in
theorem m_ladd (g : zg_G) (σ : zs_S) (q : Nat) (hq : zs_l q) (s x : Int) (hcc : 0 ≤ σ q 0 ∧ σ q 0 < zs_n q) : zm_Met g mX4_add σ [.ref (g.2.2.1 (q)), zv_i s, zv_i x] (fun v τ => v = none ∧ τ q 0 = σ q 0 + 1 ∧ τ (q + 1) (σ q 0) = s ∧ τ (q + 2) (σ q 0) = x ∧ (∀ i, i ≠ σ q 0 → τ (q + 1) i = σ (q + 1) i) ∧ (∀ i, i ≠ σ q 0 → τ (q + 2) i = σ (q + 2) i) ∧ zf_x σ τ [q, q + 1, q + 2]) := by
  refine zm_of (by decide +kernel) (Nat.le_of_ble_eq_true rfl) ?_
  intro k C hr
  show zw_W g mX4_add k 0 [(0, .ref (g.2.2.1 (q))), (1, zv_i s), (2, zv_i x)] [] σ
  have hn9 := zs_n90 (q := q)
  refine zr_aload_n (pc := 0) C dX4_add_0 0 rfl ?_
  refine zr_get (v := zv_i (σ q 0)) (pc := 1) C 0 none dX4_add_1 fX4_16 (hn_line hq) (hs_line hq) rfl rfl ?_
  refine zr_aload_n (pc := 4) C dX4_add_4 0 rfl ?_
  refine zr_get (v := .ref (g.2.2.1 (q + 1))) (pc := 5) C 1 (some (some (q + 1))) dX4_add_5 fX4_7 (hn_line hq) (hs_line hq) rfl rfl ?_
  refine zr_alen (pc := 8) C (zs_n q : Int) dX4_add_8 (hn_line1 hq) (hs_line1 hq) (by decide) rfl ?_
  refine zr_icmp_ge (pc := 9) C 42 dX4_add_9 (by decide) (by omega) (by omega) (fun h_1 => ?_) (fun h_1 => ?_)
  · exact absurd h_1 (by omega)
  · refine zr_aload_n (pc := 12) C dX4_add_12 0 rfl ?_
    refine zr_get (v := .ref (g.2.2.1 (q + 1))) (pc := 13) C 1 (some (some (q + 1))) dX4_add_13 fX4_7 (hn_line hq) (hs_line hq) rfl rfl ?_
    refine zr_aload_n (pc := 16) C dX4_add_16 0 rfl ?_
    refine zr_get (v := zv_i (σ q 0)) (pc := 17) C 0 none dX4_add_17 fX4_16 (hn_line hq) (hs_line hq) rfl rfl ?_
    refine zr_iload_n (pc := 20) C dX4_add_20 1 rfl ?_
    refine zr_iastore (pc := 21) C dX4_add_21 (hn_line1 hq) (hs_line1 hq) (by omega) (by omega) (fun τ_2 e_3 => ?_)
    have hv2 : τ_2 q 0 = σ q 0 := by rw [e_3, zs_put_ne (by omega)]
    refine zr_aload_n (pc := 22) C dX4_add_22 0 rfl ?_
    refine zr_get (v := .ref (g.2.2.1 (q + 2))) (pc := 23) C 2 (some (some (q + 2))) dX4_add_23 fX4_13 (hn_line hq) (hs_line hq) rfl rfl ?_
    refine zr_aload_n (pc := 26) C dX4_add_26 0 rfl ?_
    refine zr_get (v := zv_i (τ_2 q 0)) (pc := 27) C 0 none dX4_add_27 fX4_16 (hn_line hq) (hs_line hq) rfl rfl ?_
    refine zr_iload_n (pc := 30) C dX4_add_30 2 rfl ?_
    refine zr_iastore (pc := 31) C dX4_add_31 (hn_line2 hq) (hs_line2 hq) (by omega) (by omega) (fun τ_4 e_5 => ?_)
    refine zr_aload_n (pc := 32) C dX4_add_32 0 rfl ?_
    have hv1 : τ_4 q 0 = σ q 0 := by rw [e_5, zs_put_ne (by omega), hv2]
    refine zr_dup (pc := 33) C dX4_add_33 rfl ?_
    refine zr_get (v := zv_i (τ_4 q 0)) (pc := 34) C 0 none dX4_add_34 fX4_16 (hn_line hq) (hs_line hq) rfl rfl ?_
    refine zr_iconst (pc := 37) C dX4_add_37 ?_
    refine zr_iadd (pc := 38) C dX4_add_38 ?_
    refine zr_put (pc := 39) C 0 0 rfl dX4_add_39 pX4_16 (hn_line hq) (hs_line hq) rfl (fun τ_6 e_7 => ?_)
    exact zr_vret (pc := 42) C hr dX4_add_42 rfl (⟨rfl, by rw [e_7, zs_put_self, hv1], by rw [e_7, zs_put_ne (by omega), e_5, zs_put_ne (by omega), e_3, zs_put_self], by rw [e_7, zs_put_ne (by omega), e_5, zs_put_at, if_pos hv2.symm], fun i hi => by rw [e_7, zs_put_ne (by omega), e_5, zs_put_ne (by omega), e_3, zs_put_off hi], fun i hi => by rw [e_7, zs_put_ne (by omega), e_5, zs_put_off (by rw [hv2]; exact hi), e_3, zs_put_ne (by omega)], zf_p (zf_p (zf_p (zf_r σ _) e_3 (by simp)) e_5 (by simp)) e_7 (by simp)⟩)

set_option maxRecDepth 20000 in
set_option maxHeartbeats 4000000 in
theorem l_lcount {g : zg_G} {k : zk_T} {Q : Option Value → zs_S → Prop} (C : zk_ok g mX4_countOf k) (hr : zk_ret g mX4_countOf Q k) (q : Nat) (hq : zs_l q) (s : Int) (hs : zi_r s) (σ0 : zs_S) (hcc : 0 ≤ σ0 q 0 ∧ σ0 q 0 ≤ zs_n q) (hA : ∀ i : Int, 0 ≤ i → i < σ0 q 0 → 0 ≤ σ0 (q + 1) i ∧ σ0 (q + 1) i < 6) (hQ : Q (some (zv_i (ln_c (σ0 (q + 1)) s (σ0 q 0).toNat))) σ0) : ∀ (N : Nat) (σ : zs_S) (a m : Int), (σ0 q 0 - a).toNat < N → (σ = σ0) → (0 ≤ a ∧ a ≤ σ0 q 0) → (m = ln_c (σ0 (q + 1)) s a.toNat) → zw_W g mX4_countOf k 4 [(0, .ref (g.2.2.1 (q))), (1, zv_i s), (2, zv_i m), (3, zv_i a)] [] σ := by
  intro N
  induction N with
  | zero =>
    intro σ a m hN
    exact absurd hN (by omega)
  | succ N ih =>
    intro σ a m hN hss ha hm
    subst hss
    have hn9 := zs_n90 (q := q)
    refine zr_iload_n (pc := 4) C dX4_countOf_4 3 rfl ?_
    refine zr_aload_n (pc := 5) C dX4_countOf_5 0 rfl ?_
    refine zr_get (v := zv_i (σ q 0)) (pc := 6) C 0 none dX4_countOf_6 fX4_16 (hn_line hq) (hs_line hq) rfl rfl ?_
    refine zr_icmp_ge (pc := 9) C 31 dX4_countOf_9 (by decide) (by omega) (by omega) (fun h_1 => ?_) (fun h_1 => ?_)
    · refine zr_iload_n (pc := 31) C dX4_countOf_31 2 rfl ?_
      exact zr_iret (pc := 32) C hr dX4_countOf_32 rfl (by rw [hm, show a.toNat = (σ q 0).toNat by omega]; exact hQ)
    · have hb := hA a (by omega) (by omega)
      refine zr_aload_n (pc := 12) C dX4_countOf_12 0 rfl ?_
      refine zr_get (v := .ref (g.2.2.1 (q + 1))) (pc := 13) C 1 (some (some (q + 1))) dX4_countOf_13 fX4_7 (hn_line hq) (hs_line hq) rfl rfl ?_
      refine zr_iload_n (pc := 16) C dX4_countOf_16 3 rfl ?_
      refine zr_iaload (pc := 17) C dX4_countOf_17 (hn_line1 hq) (hs_line1 hq) (by omega) (by omega) ?_
      refine zr_iload_n (pc := 18) C dX4_countOf_18 1 rfl ?_
      refine zr_icmp_ne (pc := 19) C 25 dX4_countOf_19 (by decide) (by omega) (by omega) (fun h_2 => ?_) (fun h_2 => ?_)
      · 
        refine zr_iinc (L' := [(3, zv_i (a + 1)), (0, .ref (g.2.2.1 (q))), (1, zv_i s), (2, zv_i m)]) (pc := 25) C dX4_countOf_25 3 rfl (by decide) rfl ?_
        refine zr_goto (pc := 28) C 4 dX4_countOf_28 (by decide) ?_
        refine zr_sub [1, 2, 3, 0] rfl ?_
        exact ih σ (a + 1) m (by omega) rfl (by omega) (by rw [ln_cs (by omega), if_neg (by omega), hm]; omega)
      · 
        refine zr_iinc (L' := [(2, zv_i (m + 1)), (0, .ref (g.2.2.1 (q))), (1, zv_i s), (3, zv_i a)]) (pc := 22) C dX4_countOf_22 2 rfl (by decide) rfl ?_
        refine zr_iinc (L' := [(3, zv_i (a + 1)), (2, zv_i (m + 1)), (0, .ref (g.2.2.1 (q))), (1, zv_i s)]) (pc := 25) C dX4_countOf_25 3 rfl (by decide) rfl ?_
        refine zr_goto (pc := 28) C 4 dX4_countOf_28 (by decide) ?_
        refine zr_sub [2, 3, 1, 0] rfl ?_
        exact ih σ (a + 1) (m + 1) (by omega) rfl (by omega) (by rw [ln_cs (by omega), if_pos (by omega), hm])

set_option maxRecDepth 20000 in
set_option maxHeartbeats 4000000 in
theorem m_lcount (g : zg_G) (σ : zs_S) (q : Nat) (hq : zs_l q) (s : Int) (hs : zi_r s) (hcc : 0 ≤ σ q 0 ∧ σ q 0 ≤ zs_n q) (hA : ∀ i : Int, 0 ≤ i → i < σ q 0 → 0 ≤ σ (q + 1) i ∧ σ (q + 1) i < 6) : zm_Met g mX4_countOf σ [.ref (g.2.2.1 (q)), zv_i s] (fun v τ => v = some (zv_i (ln_c (σ (q + 1)) s (σ q 0).toNat)) ∧ σ = τ) := by
  refine zm_of (by decide +kernel) (Nat.le_of_ble_eq_true rfl) ?_
  intro k C hr
  show zw_W g mX4_countOf k 0 [(0, .ref (g.2.2.1 (q))), (1, zv_i s)] [] σ
  refine zr_iconst (pc := 0) C dX4_countOf_0 ?_
  refine zr_istore_n (L' := [(2, zv_i 0), (0, .ref (g.2.2.1 (q))), (1, zv_i s)]) (pc := 1) C dX4_countOf_1 (by decide) rfl ?_
  refine zr_iconst (pc := 2) C dX4_countOf_2 ?_
  refine zr_istore_n (L' := [(3, zv_i 0), (2, zv_i 0), (0, .ref (g.2.2.1 (q))), (1, zv_i s)]) (pc := 3) C dX4_countOf_3 (by decide) rfl ?_
  refine zr_sub [2, 3, 1, 0] rfl ?_
  exact l_lcount C hr q hq s hs σ hcc hA ⟨rfl, rfl⟩ ((σ q 0).toNat + 1) σ 0 0 (by omega) rfl (by omega) rfl

set_option maxRecDepth 20000 in
set_option maxHeartbeats 4000000 in
theorem l_lay {g : zg_G} {k : zk_T} {Q : Option Value → zs_S → Prop} (C : zk_ok g mX2_lay k) (hr : zk_ret g mX2_lay Q k) (q : Nat) (hq : zs_l q) (σ0 : zs_S) (hI : ch_I σ0) (hJ : ch_J σ0) (Mk : Int → Prop) (hM : ch_M (σ0 46) (σ0 48) Mk) (gp : Int) (hgp : 0 ≤ gp ∧ ∀ k : Int, 0 ≤ k → k < 6 → 0 ≤ σ0 48 k → 50 + gp ≤ σ0 46 k ∧ σ0 48 k ≤ 50 * zs_n q + gp) (hQ : ∀ τ l, zf_x σ0 τ [q, q + 1, q + 2] → ch_L (σ0 46) (σ0 47) (σ0 48) (σ0 49) l 0 → τ q 0 = l.length → (l.length : Int) ≤ zs_n q → ln_R (σ0 46) (τ (q + 1)) (τ (q + 2)) l → Q none τ) : ∀ (N : Nat) (σ : zs_S) (l : List Int) (x a : Int), (180 - a).toNat < N → (a = l.length ∧ a ≤ 180 ∧ a ≤ zs_n q) → (50 * a ≤ x) → (Mk x) → (zf_x σ0 σ [q, q + 1, q + 2]) → (ch_P (σ0 46) (σ0 47) (σ0 48) (σ0 49) l 0 x) → (σ q 0 = a) → (ln_R (σ0 46) (σ (q + 1)) (σ (q + 2)) l) → zw_W g mX2_lay k 9 [(0, .ref (g.2.2.1 45)), (1, .ref (g.2.2.1 (q))), (2, zv_i x), (3, zv_i a)] [] σ := by
  intro N
  induction N with
  | zero =>
    intro σ l x a hN
    exact absurd hN (by omega)
  | succ N ih =>
    intro σ l x a hN ha hx hMx fr hP hc hR
    have hn9 := zs_n90 (q := q)
    have hx9 := (hM.2 x hMx).1
    have e4 : ∀ c : Nat, 46 ≤ c → c ≤ 49 → σ c = σ0 c := fun c y1 y2 => funext (fr c (by simp; omega))
    have i46 := e4 46 (by omega) (by omega)
    have i47 := e4 47 (by omega) (by omega)
    have i48 := e4 48 (by omega) (by omega)
    have i49 := e4 49 (by omega) (by omega)
    have hI1 : ch_I σ := fun k y1 y2 => by rw [i46, i47, i48]; exact hI k y1 y2
    have hJ1 : ch_J σ := fun k y1 y2 => by rw [i49]; exact hJ k y1 y2
    refine zr_iload_n (pc := 9) C dX2_lay_9 3 rfl ?_
    refine zr_sipush (pc := 10) C dX2_lay_10 (by decide) ?_
    refine zr_icmp_ge (pc := 13) C 53 dX2_lay_13 (by decide) (by omega) (by omega) (fun h_1 => ?_) (fun h_1 => ?_)
    · exact zr_vret (pc := 53) C hr dX2_lay_53 rfl (hQ σ l fr (ch_Pl hP (by
            intro k y1 y2 z
            have kb := hI k y1 y2
            have z1 := z.1
            have kg := hgp.2 k y1 y2 (by omega)
            omega)) (by omega) (by omega) hR)
    · refine zr_aload_n (pc := 16) C dX2_lay_16 0 rfl ?_
      refine zr_iload_n (pc := 17) C dX2_lay_17 2 rfl ?_
      refine zr_callV (As := [zv_i x]) (rest := []) (b := 45) (pc := 18) C dX2_lay_18 kX2_lowestFrom vX2_42 rfl (by decide) (by decide) (hs_45 _) rfl (Nat.le_of_ble_eq_true rfl) (m_low g σ x (by omega) (by exact hI1) (by exact fun a y1 y2 y3 => hJ1 _ (by have := (hI1 a y1 y2).1; omega) (by have := (hI1 a y1 y2).2.2.1; omega)) (by exact hJ1 x hx9.1 hx9.2)) (fun v_ τ_ h_ => ?_)
      obtain ⟨r_2, rfl, rfl, h_3⟩ := h_
      show zw_W g mX2_lay k 21 [(0, .ref (g.2.2.1 45)), (1, .ref (g.2.2.1 (q))), (2, zv_i x), (3, zv_i a)] [zv_i r_2] σ
      refine zr_istore (L' := [(4, zv_i r_2), (0, .ref (g.2.2.1 45)), (1, .ref (g.2.2.1 (q))), (2, zv_i x), (3, zv_i a)]) (pc := 21) C dX2_lay_21 (by decide) rfl ?_
      have hk := h_3
      rw [i46, i47, i48, i49] at hk
      have rb : -1 ≤ r_2 ∧ r_2 < 6 := by
        rcases hk with z | z
        · omega
        · omega
      refine zr_iload (pc := 23) C dX2_lay_23 0 rfl ?_
      refine zr_iconst (pc := 25) C dX2_lay_25 ?_
      refine zr_icmp_ne (pc := 26) C 30 dX2_lay_26 (by decide) (by omega) (by omega) (fun h_4 => ?_) (fun h_4 => ?_)
      · obtain ⟨k1, k2, k3, k4⟩ : 0 ≤ r_2 ∧ r_2 < 6 ∧ ch_c (σ0 46) (σ0 47) (σ0 48) (σ0 49) x r_2 ∧ ∀ k : Int, 0 ≤ k → k < r_2 → ¬ ch_c (σ0 46) (σ0 47) (σ0 48) (σ0 49) x k := by
          rcases hk with z | z
          · exact absurd z.1 (by omega)
          · exact z
        have kb := hI r_2 k1 k2
        have kc := k3.1
        have kg := hgp.2 r_2 k1 k2 (by omega)
        refine zr_aload_n (pc := 30) C dX2_lay_30 2 rfl ?_
        refine zr_iload (pc := 31) C dX2_lay_31 0 rfl ?_
        refine zr_iload_n (pc := 33) C dX2_lay_33 3 rfl ?_
        refine zr_callV (As := [zv_i r_2, zv_i x]) (rest := []) (b := q) (pc := 34) C dX2_lay_34 kX4_add vX2_45 rfl (by decide) (hn_line hq) (hs_line hq) rfl (Nat.le_of_ble_eq_true rfl) (m_ladd g σ q hq r_2 x (by omega)) (fun v_ τ_ h_ => ?_)
        obtain ⟨rfl, h_6⟩ := h_
        generalize τ_ = τ_5 at h_6 ⊢
        show zw_W g mX2_lay k 37 [(4, zv_i r_2), (0, .ref (g.2.2.1 45)), (1, .ref (g.2.2.1 (q))), (2, zv_i x), (3, zv_i a)] [] τ_5
        refine zr_iload_n (pc := 37) C dX2_lay_37 3 rfl ?_
        refine zr_aload_n (pc := 38) C dX2_lay_38 1 rfl ?_
        refine zr_get (v := .ref (g.2.2.1 46)) (pc := 39) C 0 (some (some 46)) dX2_lay_39 fX2_9 (by decide) (hs_45 _) rfl rfl ?_
        refine zr_iload (pc := 42) C dX2_lay_42 0 rfl ?_
        refine zr_iaload (pc := 44) C dX2_lay_44 (by decide) (hs_46 _) (by omega) (by decide) ?_
        refine zr_iadd (pc := 45) C dX2_lay_45 ?_
        refine zr_istore_n (L' := [(2, zv_i (x + (τ_5 46 r_2))), (4, zv_i r_2), (0, .ref (g.2.2.1 45)), (1, .ref (g.2.2.1 (q))), (3, zv_i a)]) (pc := 46) C dX2_lay_46 (by decide) rfl ?_
        refine zr_iinc (L' := [(3, zv_i (a + 1)), (2, zv_i (x + (τ_5 46 r_2))), (4, zv_i r_2), (0, .ref (g.2.2.1 45)), (1, .ref (g.2.2.1 (q)))]) (pc := 47) C dX2_lay_47 4 rfl (by decide) rfl ?_
        refine zr_goto (pc := 50) C 9 dX2_lay_50 (by decide) ?_
        obtain ⟨d1, d2, d3, d4, d5, d6⟩ := h_6
        rw [hc] at d1 d2 d3 d4 d5
        have e46 : τ_5 46 r_2 = σ0 46 r_2 := by rw [d6 46 (by simp; omega), i46]
        refine zr_sub [3, 4, 1, 0] rfl ?_
        exact ih τ_5 (l ++ [r_2]) (x + τ_5 46 r_2) (a + 1) (by omega) (by rw [List.length_append]; simp; omega) (by omega) (by rw [e46]; exact (hM.2 x hMx).2 r_2 k1 k2 kc) (zf_t fr d6 (by simp) (by simp)) (by rw [e46]; exact ch_Pa hP ⟨k1, k2⟩ k3 k4) d1 (by
          have ea := ha.1
          rw [ea] at d2 d3 d4 d5
          exact ln_Ra hR d4 d5 d2 (by rw [d3]; have := ch_Pt hP; omega))
      · exact zr_vret (pc := 29) C hr dX2_lay_29 rfl (hQ σ l fr (ch_Pl hP (by
                rcases hk with z | z
                · exact z.2
                · exact absurd z.1 (by omega))) (by omega) (by omega) hR)

set_option maxRecDepth 20000 in
set_option maxHeartbeats 4000000 in
theorem m_lay (g : zg_G) (σ : zs_S) (q : Nat) (hq : zs_l q) (hI : ch_I σ) (hJ : ch_J σ) (hS : ch_S σ) (gp : Int) (hgp : 0 ≤ gp ∧ ∀ k : Int, 0 ≤ k → k < 6 → 0 ≤ σ 48 k → 50 + gp ≤ σ 46 k ∧ σ 48 k ≤ 50 * zs_n q + gp) : zm_Met g mX2_lay σ [.ref (g.2.2.1 45), .ref (g.2.2.1 (q))] (fun v τ => v = none ∧ zf_x σ τ [q, q + 1, q + 2] ∧ ∃ l, ch_L (σ 46) (σ 47) (σ 48) (σ 49) l 0 ∧ τ q 0 = l.length ∧ (l.length : Int) ≤ zs_n q ∧ ln_R (σ 46) (τ (q + 1)) (τ (q + 2)) l) := by
  refine zm_of (by decide +kernel) (Nat.le_of_ble_eq_true rfl) ?_
  intro k C hr
  show zw_W g mX2_lay k 0 [(0, .ref (g.2.2.1 45)), (1, .ref (g.2.2.1 (q)))] [] σ
  obtain ⟨Mk, hM, hBl⟩ := hS
  have hn9 := zs_n90 (q := q)
  refine zr_aload_n (pc := 0) C dX2_lay_0 1 rfl ?_
  refine zr_iconst (pc := 1) C dX2_lay_1 ?_
  refine zr_put (pc := 2) C 0 0 rfl dX2_lay_2 pX2_36 (hn_line hq) (hs_line hq) rfl (fun τ_1 e_2 => ?_)
  refine zr_iconst (pc := 5) C dX2_lay_5 ?_
  refine zr_istore_n (L' := [(2, zv_i 0), (0, .ref (g.2.2.1 45)), (1, .ref (g.2.2.1 (q)))]) (pc := 6) C dX2_lay_6 (by decide) rfl ?_
  refine zr_iconst (pc := 7) C dX2_lay_7 ?_
  refine zr_istore_n (L' := [(3, zv_i 0), (2, zv_i 0), (0, .ref (g.2.2.1 45)), (1, .ref (g.2.2.1 (q)))]) (pc := 8) C dX2_lay_8 (by decide) rfl ?_
  have e4 : ∀ c : Nat, 46 ≤ c → c ≤ 49 → τ_1 c = σ c := fun c y1 y2 => funext fun j => by rw [e_2, zs_put_ne (by omega)]
  refine zr_sub [2, 3, 1, 0] rfl ?_
  exact l_lay C hr q hq σ hI hJ Mk hM gp hgp (fun τ l z1 z2 z3 z4 z5 => ⟨rfl, z1, l, z2, z3, z4, z5⟩) 181 τ_1 [] 0 0 (by omega) (by simp) (by omega) hM.1 (zf_p (zf_r σ _) e_2 (by simp)) rfl (by rw [e_2, zs_put_self]) (fun j k h => by simp at h)

set_option maxRecDepth 20000 in
set_option maxHeartbeats 4000000 in
theorem l_addf {g : zg_G} {k : zk_T} {Q : Option Value → zs_S → Prop} (C : zk_ok g mX6_additionFor k) (hr : zk_ret g mX6_additionFor Q k) (s : Int) (hs : 0 ≤ s ∧ s < 6) (σ0 : zs_S) (hO : od_I σ0) (hQ : Q (some (zv_i (od_a (σ0 42) (σ0 43) (σ0 41 s) 4))) σ0) : ∀ (N : Nat) (σ : zs_S) (a m : Int), (4 - a).toNat < N → (σ = σ0) → (0 ≤ a ∧ a ≤ 4) → (m = od_a (σ0 42) (σ0 43) (σ0 41 s) a.toNat) → zw_W g mX6_additionFor k 4 [(0, .ref (g.2.2.1 40)), (1, zv_i s), (2, zv_i m), (3, zv_i a)] [] σ := by
  intro N
  induction N with
  | zero =>
    intro σ a m hN
    exact absurd hN (by omega)
  | succ N ih =>
    intro σ a m hN hss ha hm
    subst hss
    have mb := od_b (sh := σ 42) (ad := σ 43) (nd := σ 41 s) (fun k y1 y2 => (hO.2 k y1 y2).2) a.toNat (by omega)
    rw [← hm] at mb
    have nb := hO.1 s hs.1 hs.2
    refine zr_iload_n (pc := 4) C dX6_additionFor_4 3 rfl ?_
    refine zr_iconst (pc := 5) C dX6_additionFor_5 ?_
    refine zr_icmp_ge (pc := 6) C 50 dX6_additionFor_6 (by decide) (by omega) (by omega) (fun h_1 => ?_) (fun h_1 => ?_)
    · refine zr_iload_n (pc := 50) C dX6_additionFor_50 2 rfl ?_
      exact zr_iret (pc := 51) C hr dX6_additionFor_51 rfl (by rw [hm, show a.toNat = 4 by omega]; exact hQ)
    · have kb := hO.2 a (by omega) (by omega)
      refine zr_aload_n (pc := 9) C dX6_additionFor_9 0 rfl ?_
      refine zr_get (v := .ref (g.2.2.1 42)) (pc := 10) C 1 (some (some 42)) dX6_additionFor_10 fX6_15 (by decide) (hs_40 _) rfl rfl ?_
      refine zr_iload_n (pc := 13) C dX6_additionFor_13 3 rfl ?_
      refine zr_iaload (pc := 14) C dX6_additionFor_14 (by decide) (hs_42 _) (by omega) (by decide) ?_
      refine zr_if_le (pc := 15) C 44 dX6_additionFor_15 (by decide) (by omega) (fun h_2 => ?_) (fun h_2 => ?_)
      · 
        refine zr_iinc (L' := [(3, zv_i (a + 1)), (0, .ref (g.2.2.1 40)), (1, zv_i s), (2, zv_i m)]) (pc := 44) C dX6_additionFor_44 3 rfl (by decide) rfl ?_
        refine zr_goto (pc := 47) C 4 dX6_additionFor_47 (by decide) ?_
        refine zr_sub [1, 2, 3, 0] rfl ?_
        exact ih σ (a + 1) m (by omega) rfl (by omega) (by rw [od_n (by omega) (by omega), hm])
      · refine zr_aload_n (pc := 18) C dX6_additionFor_18 0 rfl ?_
        refine zr_get (v := .ref (g.2.2.1 42)) (pc := 19) C 1 (some (some 42)) dX6_additionFor_19 fX6_15 (by decide) (hs_40 _) rfl rfl ?_
        refine zr_iload_n (pc := 22) C dX6_additionFor_22 3 rfl ?_
        refine zr_iaload (pc := 23) C dX6_additionFor_23 (by decide) (hs_42 _) (by omega) (by decide) ?_
        refine zr_aload_n (pc := 24) C dX6_additionFor_24 0 rfl ?_
        refine zr_get (v := .ref (g.2.2.1 41)) (pc := 25) C 0 (some (some 41)) dX6_additionFor_25 fX6_9 (by decide) (hs_40 _) rfl rfl ?_
        refine zr_iload_n (pc := 28) C dX6_additionFor_28 1 rfl ?_
        refine zr_iaload (pc := 29) C dX6_additionFor_29 (by decide) (hs_41 _) (by omega) (by decide) ?_
        refine zr_icmp_gt (pc := 30) C 44 dX6_additionFor_30 (by decide) (by omega) (by omega) (fun h_3 => ?_) (fun h_3 => ?_)
        · 
          refine zr_iinc (L' := [(3, zv_i (a + 1)), (0, .ref (g.2.2.1 40)), (1, zv_i s), (2, zv_i m)]) (pc := 44) C dX6_additionFor_44 3 rfl (by decide) rfl ?_
          refine zr_goto (pc := 47) C 4 dX6_additionFor_47 (by decide) ?_
          refine zr_sub [1, 2, 3, 0] rfl ?_
          exact ih σ (a + 1) m (by omega) rfl (by omega) (by rw [od_n (by omega) (by omega), hm])
        · 
          refine zr_iload_n (pc := 33) C dX6_additionFor_33 2 rfl ?_
          refine zr_aload_n (pc := 34) C dX6_additionFor_34 0 rfl ?_
          refine zr_get (v := .ref (g.2.2.1 43)) (pc := 35) C 2 (some (some 43)) dX6_additionFor_35 fX6_18 (by decide) (hs_40 _) rfl rfl ?_
          refine zr_iload_n (pc := 38) C dX6_additionFor_38 3 rfl ?_
          refine zr_iaload (pc := 39) C dX6_additionFor_39 (by decide) (hs_43 _) (by omega) (by decide) ?_
          refine zr_max (pc := 40) C dX6_additionFor_40 xX6_21 (by decide) (Nat.le_of_ble_eq_true rfl) (by omega) (by omega) ?_
          refine zr_istore_n (L' := [(2, zv_i (max m (σ 43 a))), (0, .ref (g.2.2.1 40)), (1, zv_i s), (3, zv_i a)]) (pc := 43) C dX6_additionFor_43 (by decide) rfl ?_
          refine zr_iinc (L' := [(3, zv_i (a + 1)), (2, zv_i (max m (σ 43 a))), (0, .ref (g.2.2.1 40)), (1, zv_i s)]) (pc := 44) C dX6_additionFor_44 3 rfl (by decide) rfl ?_
          refine zr_goto (pc := 47) C 4 dX6_additionFor_47 (by decide) ?_
          refine zr_sub [2, 3, 1, 0] rfl ?_
          exact ih σ (a + 1) (max m (σ 43 a)) (by omega) rfl (by omega) (by rw [od_y (by omega) (by omega), hm])

set_option maxRecDepth 20000 in
set_option maxHeartbeats 4000000 in
theorem m_addf (g : zg_G) (σ : zs_S) (s : Int) (hs : 0 ≤ s ∧ s < 6) (hO : od_I σ) : zm_Met g mX6_additionFor σ [.ref (g.2.2.1 40), zv_i s] (fun v τ => v = some (zv_i (od_a (σ 42) (σ 43) (σ 41 s) 4)) ∧ σ = τ) := by
  refine zm_of (by decide +kernel) (Nat.le_of_ble_eq_true rfl) ?_
  intro k C hr
  show zw_W g mX6_additionFor k 0 [(0, .ref (g.2.2.1 40)), (1, zv_i s)] [] σ
  refine zr_iconst (pc := 0) C dX6_additionFor_0 ?_
  refine zr_istore_n (L' := [(2, zv_i 0), (0, .ref (g.2.2.1 40)), (1, zv_i s)]) (pc := 1) C dX6_additionFor_1 (by decide) rfl ?_
  refine zr_iconst (pc := 2) C dX6_additionFor_2 ?_
  refine zr_istore_n (L' := [(3, zv_i 0), (2, zv_i 0), (0, .ref (g.2.2.1 40)), (1, zv_i s)]) (pc := 3) C dX6_additionFor_3 (by decide) rfl ?_
  refine zr_sub [2, 3, 1, 0] rfl ?_
  exact l_addf C hr s hs σ hO ⟨rfl, rfl⟩ 5 σ 0 0 (by omega) rfl (by omega) rfl

set_option maxRecDepth 20000 in
set_option maxHeartbeats 4000000 in
theorem m_deliver (g : zg_G) (σ : zs_S) (s c : Int) (hs : 0 ≤ s ∧ s < 6) (hb : 0 ≤ σ 41 s ∧ σ 41 s ≤ 1000) (hc : 0 ≤ c ∧ c ≤ 1000) : zm_Met g mX6_deliver σ [.ref (g.2.2.1 40), zv_i s, zv_i c] (fun v τ => v = none ∧ τ = zs_put σ 41 s (max 0 (σ 41 s - c))) := by
  refine zm_of (by decide +kernel) (Nat.le_of_ble_eq_true rfl) ?_
  intro k C hr
  show zw_W g mX6_deliver k 0 [(0, .ref (g.2.2.1 40)), (1, zv_i s), (2, zv_i c)] [] σ
  refine zr_aload_n (pc := 0) C dX6_deliver_0 0 rfl ?_
  refine zr_get (v := .ref (g.2.2.1 41)) (pc := 1) C 0 (some (some 41)) dX6_deliver_1 fX6_9 (by decide) (hs_40 _) rfl rfl ?_
  refine zr_iload_n (pc := 4) C dX6_deliver_4 1 rfl ?_
  refine zr_iconst (pc := 5) C dX6_deliver_5 ?_
  refine zr_aload_n (pc := 6) C dX6_deliver_6 0 rfl ?_
  refine zr_get (v := .ref (g.2.2.1 41)) (pc := 7) C 0 (some (some 41)) dX6_deliver_7 fX6_9 (by decide) (hs_40 _) rfl rfl ?_
  refine zr_iload_n (pc := 10) C dX6_deliver_10 1 rfl ?_
  refine zr_iaload (pc := 11) C dX6_deliver_11 (by decide) (hs_41 _) (by omega) (by decide) ?_
  refine zr_iload_n (pc := 12) C dX6_deliver_12 2 rfl ?_
  refine zr_isub (pc := 13) C dX6_deliver_13 ?_
  refine zr_max (pc := 14) C dX6_deliver_14 xX6_21 (by decide) (Nat.le_of_ble_eq_true rfl) (by omega) (by omega) ?_
  refine zr_iastore (pc := 17) C dX6_deliver_17 (by decide) (hs_41 _) (by omega) (by decide) (fun τ_1 e_2 => ?_)
  exact zr_vret (pc := 18) C hr dX6_deliver_18 rfl (⟨rfl, e_2⟩)
