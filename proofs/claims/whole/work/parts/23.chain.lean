set_option maxRecDepth 20000 in
set_option maxHeartbeats 4000000 in
theorem l_far {g : zg_G} {k : zk_T} {Q : Option Value → zs_S → Prop} (C : zk_ok g mX2_farthestLimit k) (hr : zk_ret g mX2_farthestLimit Q k) (σ0 : zs_S) (hI : ch_I σ0) (hQ : Q (some (zv_i (ch_m (σ0 48) 6))) σ0) : ∀ (N : Nat) (σ : zs_S) (a m : Int), (6 - a).toNat < N → (σ = σ0) → (0 ≤ a ∧ a ≤ 6) → (m = ch_m (σ0 48) a.toNat) → zw_W g mX2_farthestLimit k 4 [(0, .ref (g.2.2.1 45)), (1, zv_i m), (2, zv_i a)] [] σ := by
  intro N
  induction N with
  | zero =>
    intro σ a m hN
    exact absurd hN (by omega)
  | succ N ih =>
    intro σ a m hN hs ha hm
    subst hs
    have mb := ch_mb (li := σ 48) (fun k y1 y2 => (hI k y1 y2).2.2.1.2) a.toNat (by omega)
    rw [← hm] at mb
    refine zr_iload_n (pc := 4) C dX2_farthestLimit_4 2 rfl ?_
    refine zr_bipush (pc := 5) C dX2_farthestLimit_5 (by decide) ?_
    refine zr_icmp_ge (pc := 7) C 45 dX2_farthestLimit_7 (by decide) (by omega) (by omega) (fun h_1 => ?_) (fun h_1 => ?_)
    · refine zr_iload_n (pc := 45) C dX2_farthestLimit_45 1 rfl ?_
      exact zr_iret (pc := 46) C hr dX2_farthestLimit_46 rfl (by rw [hm, show a.toNat = 6 by omega]; exact hQ)
    · have kb := (hI a (by omega) (by omega)).2.2.1
      refine zr_aload_n (pc := 10) C dX2_farthestLimit_10 0 rfl ?_
      refine zr_get (v := .ref (g.2.2.1 48)) (pc := 11) C 2 (some (some 48)) dX2_farthestLimit_11 fX2_18 (by decide) (hs_45 _) rfl rfl ?_
      refine zr_iload_n (pc := 14) C dX2_farthestLimit_14 2 rfl ?_
      refine zr_aload_n (pc := 15) C dX2_farthestLimit_15 0 rfl ?_
      refine zr_get (v := .ref (g.2.2.1 48)) (pc := 16) C 2 (some (some 48)) dX2_farthestLimit_16 fX2_18 (by decide) (hs_45 _) rfl rfl ?_
      refine zr_iload_n (pc := 19) C dX2_farthestLimit_19 2 rfl ?_
      refine zr_iaload (pc := 20) C dX2_farthestLimit_20 (by decide) (hs_48 _) (by omega) (by decide) ?_
      refine zr_sipush (pc := 21) C dX2_farthestLimit_21 (by decide) ?_
      refine zr_min (pc := 24) C dX2_farthestLimit_24 xX2_49 (by decide) (Nat.le_of_ble_eq_true rfl) (by omega) (by omega) ?_
      refine zr_iastore (pc := 27) C dX2_farthestLimit_27 (by decide) (hs_48 _) (by omega) (by decide) (fun τ_2 e_3 => ?_)
      have hsame : τ_2 = σ := by
        rw [e_3]
        funext c i
        unfold zs_put
        by_cases h : c = 48 ∧ i = a
        · rw [if_pos h, h.1, h.2]
          omega
        · rw [if_neg h]
      rw [hsame]
      refine zr_iload_n (pc := 28) C dX2_farthestLimit_28 1 rfl ?_
      refine zr_aload_n (pc := 29) C dX2_farthestLimit_29 0 rfl ?_
      refine zr_get (v := .ref (g.2.2.1 48)) (pc := 30) C 2 (some (some 48)) dX2_farthestLimit_30 fX2_18 (by decide) (hs_45 _) rfl rfl ?_
      refine zr_iload_n (pc := 33) C dX2_farthestLimit_33 2 rfl ?_
      refine zr_iaload (pc := 34) C dX2_farthestLimit_34 (by decide) (hs_48 _) (by omega) (by decide) ?_
      refine zr_max (pc := 35) C dX2_farthestLimit_35 xX2_55 (by decide) (Nat.le_of_ble_eq_true rfl) (by omega) (by omega) ?_
      refine zr_istore_n (L' := [(1, zv_i (max m (σ 48 a))), (0, .ref (g.2.2.1 45)), (2, zv_i a)]) (pc := 38) C dX2_farthestLimit_38 (by decide) rfl ?_
      refine zr_iinc (L' := [(2, zv_i (a + 1)), (1, zv_i (max m (σ 48 a))), (0, .ref (g.2.2.1 45))]) (pc := 39) C dX2_farthestLimit_39 2 rfl (by decide) rfl ?_
      refine zr_goto (pc := 42) C 4 dX2_farthestLimit_42 (by decide) ?_
      refine zr_sub [2, 1, 0] rfl ?_
      exact ih σ (a + 1) (max m (σ 48 a)) (by omega) rfl (by omega) (by rw [ch_ms (by omega), hm])

set_option maxRecDepth 20000 in
set_option maxHeartbeats 4000000 in
theorem m_far (g : zg_G) (σ : zs_S) (hI : ch_I σ) : zm_Met g mX2_farthestLimit σ [.ref (g.2.2.1 45)] (fun v τ => v = some (zv_i (ch_m (σ 48) 6)) ∧ σ = τ) := by
  refine zm_of (by decide +kernel) (Nat.le_of_ble_eq_true rfl) ?_
  intro k C hr
  show zw_W g mX2_farthestLimit k 0 [(0, .ref (g.2.2.1 45))] [] σ
  refine zr_iconst (pc := 0) C dX2_farthestLimit_0 ?_
  refine zr_istore_n (L' := [(1, zv_i 0), (0, .ref (g.2.2.1 45))]) (pc := 1) C dX2_farthestLimit_1 (by decide) rfl ?_
  refine zr_iconst (pc := 2) C dX2_farthestLimit_2 ?_
  refine zr_istore_n (L' := [(2, zv_i 0), (1, zv_i 0), (0, .ref (g.2.2.1 45))]) (pc := 3) C dX2_farthestLimit_3 (by decide) rfl ?_
  refine zr_sub [2, 1, 0] rfl ?_
  exact l_far C hr σ hI ⟨rfl, rfl⟩ 7 σ 0 0 (by omega) rfl (by omega) rfl

set_option maxRecDepth 20000 in
set_option maxHeartbeats 4000000 in
theorem l_reach {g : zg_G} {k : zk_T} {Q : Option Value → zs_S → Prop} (C : zk_ok g mX2_reachOnFrom k) (hr : zk_ret g mX2_reachOnFrom Q k) (p : Int) (hp : 0 ≤ p ∧ p ≤ 9100) (σ0 : zs_S) (hI : ch_I σ0) (hQ : ∀ τ, zf_x σ0 τ [49] ∧ (∀ a : Int, 0 ≤ a → a < 6 → p + σ0 46 a ≤ σ0 48 a → τ 49 (p + σ0 46 a) = -1) ∧ (∀ x, τ 49 x = σ0 49 x ∨ (τ 49 x = -1 ∧ ∃ a : Int, 0 ≤ a ∧ a < 6 ∧ p + σ0 46 a ≤ σ0 48 a ∧ x = p + σ0 46 a)) → Q none τ) : ∀ (N : Nat) (σ : zs_S) (a : Int), (6 - a).toNat < N → (0 ≤ a ∧ a ≤ 6) → (zf_x σ0 σ [49]) → (∀ y : Int, 0 ≤ y → y < a → p + σ0 46 y ≤ σ0 48 y → σ 49 (p + σ0 46 y) = -1) → (∀ x, σ 49 x = σ0 49 x ∨ (σ 49 x = -1 ∧ ∃ a : Int, 0 ≤ a ∧ a < 6 ∧ p + σ0 46 a ≤ σ0 48 a ∧ x = p + σ0 46 a)) → zw_W g mX2_reachOnFrom k 2 [(0, .ref (g.2.2.1 45)), (1, zv_i p), (2, zv_i a)] [] σ := by
  intro N
  induction N with
  | zero =>
    intro σ a hN
    exact absurd hN (by omega)
  | succ N ih =>
    intro σ a hN ha fr h1 h2
    refine zr_iload_n (pc := 2) C dX2_reachOnFrom_2 2 rfl ?_
    refine zr_bipush (pc := 3) C dX2_reachOnFrom_3 (by decide) ?_
    refine zr_icmp_ge (pc := 5) C 40 dX2_reachOnFrom_5 (by decide) (by omega) (by omega) (fun h_1 => ?_) (fun h_1 => ?_)
    · exact zr_vret (pc := 40) C hr dX2_reachOnFrom_40 rfl (hQ σ ⟨fr, fun y y1 y2 y3 => h1 y y1 (by omega) y3, h2⟩)
    · have kb := hI a (by omega) (by omega)
      have e46 : σ 46 a = σ0 46 a := fr 46 (by decide) a
      have e48 : σ 48 a = σ0 48 a := fr 48 (by decide) a
      have kb3 := kb.2.2.1
      refine zr_iload_n (pc := 8) C dX2_reachOnFrom_8 1 rfl ?_
      refine zr_aload_n (pc := 9) C dX2_reachOnFrom_9 0 rfl ?_
      refine zr_get (v := .ref (g.2.2.1 46)) (pc := 10) C 0 (some (some 46)) dX2_reachOnFrom_10 fX2_9 (by decide) (hs_45 _) rfl rfl ?_
      refine zr_iload_n (pc := 13) C dX2_reachOnFrom_13 2 rfl ?_
      refine zr_iaload (pc := 14) C dX2_reachOnFrom_14 (by decide) (hs_46 _) (by omega) (by decide) ?_
      refine zr_iadd (pc := 15) C dX2_reachOnFrom_15 ?_
      refine zr_istore_n (L' := [(3, zv_i (p + (σ 46 a))), (0, .ref (g.2.2.1 45)), (1, zv_i p), (2, zv_i a)]) (pc := 16) C dX2_reachOnFrom_16 (by decide) rfl ?_
      refine zr_iload_n (pc := 17) C dX2_reachOnFrom_17 0 rfl ?_
      refine zr_aload_n (pc := 18) C dX2_reachOnFrom_18 1 rfl ?_
      refine zr_get (v := .ref (g.2.2.1 48)) (pc := 19) C 2 (some (some 48)) dX2_reachOnFrom_19 fX2_18 (by decide) (hs_45 _) rfl rfl ?_
      refine zr_iload_n (pc := 22) C dX2_reachOnFrom_22 3 rfl ?_
      refine zr_iaload (pc := 23) C dX2_reachOnFrom_23 (by decide) (hs_48 _) (by omega) (by decide) ?_
      refine zr_icmp_gt (pc := 24) C 34 dX2_reachOnFrom_24 (by decide) (by omega) (by omega) (fun h_2 => ?_) (fun h_2 => ?_)
      · refine zr_iinc (L' := [(2, zv_i (a + 1)), (3, zv_i (p + (σ 46 a))), (0, .ref (g.2.2.1 45)), (1, zv_i p)]) (pc := 34) C dX2_reachOnFrom_34 3 rfl (by decide) rfl ?_
        refine zr_goto (pc := 37) C 2 dX2_reachOnFrom_37 (by decide) ?_
        refine zr_sub [2, 3, 0] rfl ?_
        exact ih σ (a + 1) (by omega) (by omega) fr (fun y y1 y2 y3 => (by rcases (show y < a ∨ y = a by omega) with z | z; exact h1 y y1 z y3; subst z; exact absurd y3 (by omega))) h2
      · refine zr_aload_n (pc := 27) C dX2_reachOnFrom_27 1 rfl ?_
        refine zr_get (v := .ref (g.2.2.1 49)) (pc := 28) C 3 (some (some 49)) dX2_reachOnFrom_28 fX2_21 (by decide) (hs_45 _) rfl rfl ?_
        refine zr_iload_n (pc := 31) C dX2_reachOnFrom_31 0 rfl ?_
        refine zr_iconst (pc := 32) C dX2_reachOnFrom_32 ?_
        refine zr_iastore (pc := 33) C dX2_reachOnFrom_33 (by decide) (hs_49 _) (by omega) (by decide) (fun τ_3 e_4 => ?_)
        refine zr_iinc (L' := [(2, zv_i (a + 1)), (3, zv_i (p + (σ 46 a))), (0, .ref (g.2.2.1 45)), (1, zv_i p)]) (pc := 34) C dX2_reachOnFrom_34 3 rfl (by decide) rfl ?_
        refine zr_goto (pc := 37) C 2 dX2_reachOnFrom_37 (by decide) ?_
        refine zr_sub [2, 3, 0] rfl ?_
        exact ih τ_3 (a + 1) (by omega) (by omega) (zf_p fr e_4 (by decide)) (fun y y1 y2 y3 => by
          rw [e_4, zs_put_at]
          by_cases c : p + σ0 46 y = p + σ 46 a
          · rw [if_pos c]
          · rw [if_neg c]
            rcases (show y < a ∨ y = a by omega) with z | z
            · exact h1 y y1 z y3
            · subst z; exact absurd (by rw [e46]) c) (fun x => by
          rw [e_4, zs_put_at]
          by_cases c : x = p + σ 46 a
          · rw [if_pos c]
            exact Or.inr ⟨rfl, a, by omega, by omega, by omega, by omega⟩
          · rw [if_neg c]
            exact h2 x)

set_option maxRecDepth 20000 in
set_option maxHeartbeats 4000000 in
theorem m_reach (g : zg_G) (σ : zs_S) (p : Int) (hp : 0 ≤ p ∧ p ≤ 9100) (hI : ch_I σ) : zm_Met g mX2_reachOnFrom σ [.ref (g.2.2.1 45), zv_i p] (fun v τ => v = none ∧ zf_x σ τ [49] ∧ (∀ a : Int, 0 ≤ a → a < 6 → p + σ 46 a ≤ σ 48 a → τ 49 (p + σ 46 a) = -1) ∧ (∀ x, τ 49 x = σ 49 x ∨ (τ 49 x = -1 ∧ ∃ a : Int, 0 ≤ a ∧ a < 6 ∧ p + σ 46 a ≤ σ 48 a ∧ x = p + σ 46 a))) := by
  refine zm_of (by decide +kernel) (Nat.le_of_ble_eq_true rfl) ?_
  intro k C hr
  show zw_W g mX2_reachOnFrom k 0 [(0, .ref (g.2.2.1 45)), (1, zv_i p)] [] σ
  refine zr_iconst (pc := 0) C dX2_reachOnFrom_0 ?_
  refine zr_istore_n (L' := [(2, zv_i 0), (0, .ref (g.2.2.1 45)), (1, zv_i p)]) (pc := 1) C dX2_reachOnFrom_1 (by decide) rfl ?_
  refine zr_sub [1, 2, 0] rfl ?_
  exact l_reach C hr p hp σ hI (fun τ h => ⟨rfl, h⟩) 7 σ 0 (by omega) (by omega) (zf_r σ _) (fun y y1 y2 => absurd y2 (by omega)) (fun x => Or.inl rfl)

set_option maxRecDepth 20000 in
set_option maxHeartbeats 4000000 in
theorem l_most {g : zg_G} {k : zk_T} {Q : Option Value → zs_S → Prop} (C : zk_ok g mX2_mostFrom k) (hr : zk_ret g mX2_mostFrom Q k) (p : Int) (hp : 0 ≤ p ∧ p ≤ 9100) (σ0 : zs_S) (hI : ch_I σ0) (hG : ∀ a : Int, 0 ≤ a → a < 6 → p + σ0 46 a ≤ σ0 48 a → 0 ≤ σ0 49 (p + σ0 46 a) ∧ 50 * σ0 49 (p + σ0 46 a) ≤ (9150 - (p + σ0 46 a)) * 1100000) (hQ : Q (some (zv_i (ch_f (σ0 46) (σ0 47) (σ0 48) (σ0 49) p 6))) σ0) : ∀ (N : Nat) (σ : zs_S) (a m : Int), (6 - a).toNat < N → (σ = σ0) → (0 ≤ a ∧ a ≤ 6) → (m = ch_f (σ0 46) (σ0 47) (σ0 48) (σ0 49) p a.toNat) → zw_W g mX2_mostFrom k 4 [(0, .ref (g.2.2.1 45)), (1, zv_i p), (2, zv_i m), (3, zv_i a)] [] σ := by
  intro N
  induction N with
  | zero =>
    intro σ a m hN
    exact absurd hN (by omega)
  | succ N ih =>
    intro σ a m hN hs ha hm
    subst hs
    have mb := ch_fb (st := σ 46) (pr := σ 47) (li := σ 48) (G := σ 49) hp (fun k y1 y2 y3 => ((hI k y1 y2).2.2.2 (by have := (hI k y1 y2).1; omega)).1) (fun k y1 y2 => (hI k y1 y2).2.1) hG a.toNat (by omega)
    rw [← hm] at mb
    refine zr_iload_n (pc := 4) C dX2_mostFrom_4 3 rfl ?_
    refine zr_bipush (pc := 5) C dX2_mostFrom_5 (by decide) ?_
    refine zr_icmp_ge (pc := 7) C 56 dX2_mostFrom_7 (by decide) (by omega) (by omega) (fun h_1 => ?_) (fun h_1 => ?_)
    · refine zr_iload_n (pc := 56) C dX2_mostFrom_56 2 rfl ?_
      exact zr_iret (pc := 57) C hr dX2_mostFrom_57 rfl (by rw [hm, show a.toNat = 6 by omega]; exact hQ)
    · have kb := hI a (by omega) (by omega)
      have kb3 := kb.2.2.1
      refine zr_iload_n (pc := 10) C dX2_mostFrom_10 1 rfl ?_
      refine zr_aload_n (pc := 11) C dX2_mostFrom_11 0 rfl ?_
      refine zr_get (v := .ref (g.2.2.1 46)) (pc := 12) C 0 (some (some 46)) dX2_mostFrom_12 fX2_9 (by decide) (hs_45 _) rfl rfl ?_
      refine zr_iload_n (pc := 15) C dX2_mostFrom_15 3 rfl ?_
      refine zr_iaload (pc := 16) C dX2_mostFrom_16 (by decide) (hs_46 _) (by omega) (by decide) ?_
      refine zr_iadd (pc := 17) C dX2_mostFrom_17 ?_
      refine zr_istore (L' := [(4, zv_i (p + (σ 46 a))), (0, .ref (g.2.2.1 45)), (1, zv_i p), (2, zv_i m), (3, zv_i a)]) (pc := 18) C dX2_mostFrom_18 (by decide) rfl ?_
      refine zr_iload (pc := 20) C dX2_mostFrom_20 0 rfl ?_
      refine zr_aload_n (pc := 22) C dX2_mostFrom_22 1 rfl ?_
      refine zr_get (v := .ref (g.2.2.1 48)) (pc := 23) C 2 (some (some 48)) dX2_mostFrom_23 fX2_18 (by decide) (hs_45 _) rfl rfl ?_
      refine zr_iload_n (pc := 26) C dX2_mostFrom_26 4 rfl ?_
      refine zr_iaload (pc := 27) C dX2_mostFrom_27 (by decide) (hs_48 _) (by omega) (by decide) ?_
      refine zr_icmp_gt (pc := 28) C 50 dX2_mostFrom_28 (by decide) (by omega) (by omega) (fun h_2 => ?_) (fun h_2 => ?_)
      · 
        refine zr_iinc (L' := [(3, zv_i (a + 1)), (4, zv_i (p + (σ 46 a))), (0, .ref (g.2.2.1 45)), (1, zv_i p), (2, zv_i m)]) (pc := 50) C dX2_mostFrom_50 4 rfl (by decide) rfl ?_
        refine zr_goto (pc := 53) C 4 dX2_mostFrom_53 (by decide) ?_
        refine zr_sub [2, 3, 4, 0] rfl ?_
        exact ih σ (a + 1) m (by omega) rfl (by omega) (by rw [ch_fn (by omega) (by omega), hm])
      · have hg2 := hG a (by omega) (by omega) (by omega)
        refine zr_iload_n (pc := 31) C dX2_mostFrom_31 3 rfl ?_
        refine zr_aload_n (pc := 32) C dX2_mostFrom_32 1 rfl ?_
        refine zr_get (v := .ref (g.2.2.1 47)) (pc := 33) C 1 (some (some 47)) dX2_mostFrom_33 fX2_15 (by decide) (hs_45 _) rfl rfl ?_
        refine zr_iload_n (pc := 36) C dX2_mostFrom_36 4 rfl ?_
        refine zr_iaload (pc := 37) C dX2_mostFrom_37 (by decide) (hs_47 _) (by omega) (by decide) ?_
        refine zr_aload_n (pc := 38) C dX2_mostFrom_38 1 rfl ?_
        refine zr_get (v := .ref (g.2.2.1 49)) (pc := 39) C 3 (some (some 49)) dX2_mostFrom_39 fX2_21 (by decide) (hs_45 _) rfl rfl ?_
        refine zr_iload (pc := 42) C dX2_mostFrom_42 0 rfl ?_
        refine zr_iaload (pc := 44) C dX2_mostFrom_44 (by decide) (hs_49 _) (by omega) (by decide) ?_
        refine zr_iadd (pc := 45) C dX2_mostFrom_45 ?_
        refine zr_max (pc := 46) C dX2_mostFrom_46 xX2_55 (by decide) (Nat.le_of_ble_eq_true rfl) (by omega) (by omega) ?_
        refine zr_istore_n (L' := [(2, zv_i (max m ((σ 47 a) + (σ 49 (p + (σ 46 a)))))), (4, zv_i (p + (σ 46 a))), (0, .ref (g.2.2.1 45)), (1, zv_i p), (3, zv_i a)]) (pc := 49) C dX2_mostFrom_49 (by decide) rfl ?_
        refine zr_iinc (L' := [(3, zv_i (a + 1)), (2, zv_i (max m ((σ 47 a) + (σ 49 (p + (σ 46 a)))))), (4, zv_i (p + (σ 46 a))), (0, .ref (g.2.2.1 45)), (1, zv_i p)]) (pc := 50) C dX2_mostFrom_50 4 rfl (by decide) rfl ?_
        refine zr_goto (pc := 53) C 4 dX2_mostFrom_53 (by decide) ?_
        refine zr_sub [3, 4, 1, 0] rfl ?_
        exact ih σ (a + 1) (max m (σ 47 a + σ 49 (p + σ 46 a))) (by omega) rfl (by omega) (by rw [ch_fy (by omega) (by omega), hm])

set_option maxRecDepth 20000 in
set_option maxHeartbeats 4000000 in
theorem m_most (g : zg_G) (σ : zs_S) (p : Int) (hp : 0 ≤ p ∧ p ≤ 9100) (hI : ch_I σ) (hG : ∀ a : Int, 0 ≤ a → a < 6 → p + σ 46 a ≤ σ 48 a → 0 ≤ σ 49 (p + σ 46 a) ∧ 50 * σ 49 (p + σ 46 a) ≤ (9150 - (p + σ 46 a)) * 1100000) : zm_Met g mX2_mostFrom σ [.ref (g.2.2.1 45), zv_i p] (fun v τ => v = some (zv_i (ch_f (σ 46) (σ 47) (σ 48) (σ 49) p 6)) ∧ σ = τ) := by
  refine zm_of (by decide +kernel) (Nat.le_of_ble_eq_true rfl) ?_
  intro k C hr
  show zw_W g mX2_mostFrom k 0 [(0, .ref (g.2.2.1 45)), (1, zv_i p)] [] σ
  refine zr_iconst (pc := 0) C dX2_mostFrom_0 ?_
  refine zr_istore_n (L' := [(2, zv_i 0), (0, .ref (g.2.2.1 45)), (1, zv_i p)]) (pc := 1) C dX2_mostFrom_1 (by decide) rfl ?_
  refine zr_iconst (pc := 2) C dX2_mostFrom_2 ?_
  refine zr_istore_n (L' := [(3, zv_i 0), (2, zv_i 0), (0, .ref (g.2.2.1 45)), (1, zv_i p)]) (pc := 3) C dX2_mostFrom_3 (by decide) rfl ?_
  refine zr_sub [2, 3, 1, 0] rfl ?_
  exact l_most C hr p hp σ hI hG ⟨rfl, rfl⟩ 7 σ 0 0 (by omega) rfl (by omega) rfl

set_option maxRecDepth 20000 in
set_option maxHeartbeats 4000000 in
theorem l_low {g : zg_G} {k : zk_T} {Q : Option Value → zs_S → Prop} (C : zk_ok g mX2_lowestFrom k) (hr : zk_ret g mX2_lowestFrom Q k) (p : Int) (hp : 0 ≤ p ∧ p ≤ 9100) (σ0 : zs_S) (hI : ch_I σ0) (hJ : ∀ a : Int, 0 ≤ a → a < 6 → p + σ0 46 a ≤ σ0 48 a → 0 ≤ σ0 49 (p + σ0 46 a) ∧ σ0 49 (p + σ0 46 a) ≤ 201300000) (hJp : 0 ≤ σ0 49 p ∧ σ0 49 p ≤ 201300000) (hQ : ∀ r, ch_k (σ0 46) (σ0 47) (σ0 48) (σ0 49) p r → Q (some (zv_i r)) σ0) : ∀ (N : Nat) (σ : zs_S) (a : Int), (6 - a).toNat < N → (σ = σ0) → (0 ≤ a ∧ a ≤ 6) → (∀ y : Int, 0 ≤ y → y < a → ¬ ch_c (σ0 46) (σ0 47) (σ0 48) (σ0 49) p y) → zw_W g mX2_lowestFrom k 2 [(0, .ref (g.2.2.1 45)), (1, zv_i p), (2, zv_i a)] [] σ := by
  intro N
  induction N with
  | zero =>
    intro σ a hN
    exact absurd hN (by omega)
  | succ N ih =>
    intro σ a hN hs ha hm
    subst hs
    refine zr_iload_n (pc := 2) C dX2_lowestFrom_2 2 rfl ?_
    refine zr_bipush (pc := 3) C dX2_lowestFrom_3 (by decide) ?_
    refine zr_icmp_ge (pc := 5) C 57 dX2_lowestFrom_5 (by decide) (by omega) (by omega) (fun h_1 => ?_) (fun h_1 => ?_)
    · refine zr_iconst (pc := 57) C dX2_lowestFrom_57 ?_
      exact zr_iret (pc := 58) C hr dX2_lowestFrom_58 rfl (hQ (-1) (Or.inl ⟨rfl, fun y y1 y2 => hm y y1 (by omega)⟩))
    · have kb := hI a (by omega) (by omega)
      have kb3 := kb.2.2.1
      refine zr_iload_n (pc := 8) C dX2_lowestFrom_8 1 rfl ?_
      refine zr_aload_n (pc := 9) C dX2_lowestFrom_9 0 rfl ?_
      refine zr_get (v := .ref (g.2.2.1 46)) (pc := 10) C 0 (some (some 46)) dX2_lowestFrom_10 fX2_9 (by decide) (hs_45 _) rfl rfl ?_
      refine zr_iload_n (pc := 13) C dX2_lowestFrom_13 2 rfl ?_
      refine zr_iaload (pc := 14) C dX2_lowestFrom_14 (by decide) (hs_46 _) (by omega) (by decide) ?_
      refine zr_iadd (pc := 15) C dX2_lowestFrom_15 ?_
      refine zr_istore_n (L' := [(3, zv_i (p + (σ 46 a))), (0, .ref (g.2.2.1 45)), (1, zv_i p), (2, zv_i a)]) (pc := 16) C dX2_lowestFrom_16 (by decide) rfl ?_
      refine zr_iload_n (pc := 17) C dX2_lowestFrom_17 0 rfl ?_
      refine zr_aload_n (pc := 18) C dX2_lowestFrom_18 1 rfl ?_
      refine zr_get (v := .ref (g.2.2.1 48)) (pc := 19) C 2 (some (some 48)) dX2_lowestFrom_19 fX2_18 (by decide) (hs_45 _) rfl rfl ?_
      refine zr_iload_n (pc := 22) C dX2_lowestFrom_22 3 rfl ?_
      refine zr_iaload (pc := 23) C dX2_lowestFrom_23 (by decide) (hs_48 _) (by omega) (by decide) ?_
      refine zr_icmp_gt (pc := 24) C 51 dX2_lowestFrom_24 (by decide) (by omega) (by omega) (fun h_2 => ?_) (fun h_2 => ?_)
      · refine zr_iinc (L' := [(2, zv_i (a + 1)), (3, zv_i (p + (σ 46 a))), (0, .ref (g.2.2.1 45)), (1, zv_i p)]) (pc := 51) C dX2_lowestFrom_51 3 rfl (by decide) rfl ?_
        refine zr_goto (pc := 54) C 2 dX2_lowestFrom_54 (by decide) ?_
        refine zr_sub [2, 3, 0] rfl ?_
        exact ih σ (a + 1) (by omega) rfl (by omega) (fun y y1 y2 z => by
          rcases (show y < a ∨ y = a by omega) with c | c
          · exact hm y y1 c z
          · subst c
            obtain ⟨z1, z2⟩ := z
            omega)
      · have hg2 := hJ a (by omega) (by omega) (by omega)
        refine zr_aload_n (pc := 27) C dX2_lowestFrom_27 1 rfl ?_
        refine zr_get (v := .ref (g.2.2.1 47)) (pc := 28) C 1 (some (some 47)) dX2_lowestFrom_28 fX2_15 (by decide) (hs_45 _) rfl rfl ?_
        refine zr_iload_n (pc := 31) C dX2_lowestFrom_31 3 rfl ?_
        refine zr_iaload (pc := 32) C dX2_lowestFrom_32 (by decide) (hs_47 _) (by omega) (by decide) ?_
        refine zr_aload_n (pc := 33) C dX2_lowestFrom_33 1 rfl ?_
        refine zr_get (v := .ref (g.2.2.1 49)) (pc := 34) C 3 (some (some 49)) dX2_lowestFrom_34 fX2_21 (by decide) (hs_45 _) rfl rfl ?_
        refine zr_iload_n (pc := 37) C dX2_lowestFrom_37 0 rfl ?_
        refine zr_iaload (pc := 38) C dX2_lowestFrom_38 (by decide) (hs_49 _) (by omega) (by decide) ?_
        refine zr_iadd (pc := 39) C dX2_lowestFrom_39 ?_
        refine zr_aload_n (pc := 40) C dX2_lowestFrom_40 1 rfl ?_
        refine zr_get (v := .ref (g.2.2.1 49)) (pc := 41) C 3 (some (some 49)) dX2_lowestFrom_41 fX2_21 (by decide) (hs_45 _) rfl rfl ?_
        refine zr_iload_n (pc := 44) C dX2_lowestFrom_44 2 rfl ?_
        refine zr_iaload (pc := 45) C dX2_lowestFrom_45 (by decide) (hs_49 _) (by omega) (by decide) ?_
        refine zr_icmp_ne (pc := 46) C 51 dX2_lowestFrom_46 (by decide) (by omega) (by omega) (fun h_3 => ?_) (fun h_3 => ?_)
        · refine zr_iinc (L' := [(2, zv_i (a + 1)), (3, zv_i (p + (σ 46 a))), (0, .ref (g.2.2.1 45)), (1, zv_i p)]) (pc := 51) C dX2_lowestFrom_51 3 rfl (by decide) rfl ?_
          refine zr_goto (pc := 54) C 2 dX2_lowestFrom_54 (by decide) ?_
          refine zr_sub [2, 3, 0] rfl ?_
          exact ih σ (a + 1) (by omega) rfl (by omega) (fun y y1 y2 z => by
            rcases (show y < a ∨ y = a by omega) with c | c
            · exact hm y y1 c z
            · subst c
              obtain ⟨z1, z2⟩ := z
              omega)
        · refine zr_iload_n (pc := 49) C dX2_lowestFrom_49 3 rfl ?_
          exact zr_iret (pc := 50) C hr dX2_lowestFrom_50 rfl (hQ a (Or.inr ⟨by omega, by omega, ⟨by omega, by omega⟩, hm⟩))

set_option maxRecDepth 20000 in
set_option maxHeartbeats 4000000 in
theorem m_low (g : zg_G) (σ : zs_S) (p : Int) (hp : 0 ≤ p ∧ p ≤ 9100) (hI : ch_I σ) (hJ : ∀ a : Int, 0 ≤ a → a < 6 → p + σ 46 a ≤ σ 48 a → 0 ≤ σ 49 (p + σ 46 a) ∧ σ 49 (p + σ 46 a) ≤ 201300000) (hJp : 0 ≤ σ 49 p ∧ σ 49 p ≤ 201300000) : zm_Met g mX2_lowestFrom σ [.ref (g.2.2.1 45), zv_i p] (fun v τ => ∃ r, v = some (zv_i r) ∧ σ = τ ∧ ch_k (σ 46) (σ 47) (σ 48) (σ 49) p r) := by
  refine zm_of (by decide +kernel) (Nat.le_of_ble_eq_true rfl) ?_
  intro k C hr
  show zw_W g mX2_lowestFrom k 0 [(0, .ref (g.2.2.1 45)), (1, zv_i p)] [] σ
  refine zr_iconst (pc := 0) C dX2_lowestFrom_0 ?_
  refine zr_istore_n (L' := [(2, zv_i 0), (0, .ref (g.2.2.1 45)), (1, zv_i p)]) (pc := 1) C dX2_lowestFrom_1 (by decide) rfl ?_
  refine zr_sub [1, 2, 0] rfl ?_
  exact l_low C hr p hp σ hI hJ hJp (fun r h => ⟨r, rfl, rfl, h⟩) 7 σ 0 (by omega) rfl (by omega) (fun y y1 y2 => absurd y2 (by omega))
