/-- how a pattern's numbers lie -/
def pa_I (σ : zs_S) (p : Nat) : Prop := (-1 ≤ σ p 0 ∧ σ p 0 ≤ 5000) ∧ (0 ≤ σ p 1 ∧ σ p 1 ≤ 1000000000) ∧ (0 ≤ σ (p + 1) 0 ∧ σ (p + 1) 0 ≤ 180) ∧ (0 ≤ σ (p + 4) 0 ∧ σ (p + 4) 0 ≤ 90) ∧ (∀ i : Int, 0 ≤ i → i < σ (p + 1) 0 → 0 ≤ σ (p + 1 + 1) i ∧ σ (p + 1 + 1) i < 6) ∧ (∀ i : Int, 0 ≤ i → i < σ (p + 4) 0 → 0 ≤ σ (p + 4 + 1) i ∧ σ (p + 4 + 1) i < 6)
theorem zs_n1 {p : Nat} (h : zs_p p) : zs_n (p + 1) = 180 := by rcases h with rfl | rfl <;> rfl
theorem zs_n4 {p : Nat} (h : zs_p p) : zs_n (p + 4) = 90 := by rcases h with rfl | rfl <;> rfl
def pa_n (σ : zs_S) (p : Nat) : Int := σ (p + 1) 0 + pa_s (σ p 0) * σ (p + 4) 0
def pa_c (σ : zs_S) (p : Nat) (s : Int) : Int := ln_c (σ (p + 1 + 1)) s (σ (p + 1) 0).toNat + pa_s (σ p 0) * ln_c (σ (p + 4 + 1)) s (σ (p + 4) 0).toNat
abbrev pa_b (σ : zs_S) (p q : Nat) : Prop := σ q 1 < σ p 1 ∨ (σ p 1 = σ q 1 ∧ ¬ σ p 0 = -1 ∧ (σ q 0 = -1 ∨ σ p 0 < σ q 0))
def pa_f (a w x y k : Int) : Int := if k = 0 then a else if k = 1 then w else if k = 2 then x else y
/-- what fact k of the board i is -/
def pa_F (σ : zs_S) (p : Nat) (i k : Int) : Int :=
  if i < σ (p + 1) 0 then pa_f (σ (p + 1 + 1) i) 0 (σ (p + 1 + 2) i) (σ (p + 7) (σ (p + 1 + 1) i)) k
  else if i - σ (p + 1) 0 < σ (p + 4) 0 then pa_f (σ (p + 4 + 1) (i - σ (p + 1) 0)) 1 (σ (p + 4 + 2) (i - σ (p + 1) 0)) (σ (p + 7) (σ (p + 4 + 1) (i - σ (p + 1) 0))) k
  else pa_f (σ (p + 4 + 1) (i - σ (p + 1) 0 - σ (p + 4) 0)) 2 (σ (p + 4 + 2) (i - σ (p + 1) 0 - σ (p + 4) 0)) (σ (p + 7) (σ (p + 4 + 1) (i - σ (p + 1) 0 - σ (p + 4) 0))) k

set_option maxRecDepth 20000 in
set_option maxHeartbeats 4000000 in
theorem m_stacks (g : zg_G) (σ : zs_S) (p : Nat) (hp : zs_p p) (hI : -1 ≤ σ p 0 ∧ σ p 0 ≤ 5000) : zm_Met g mX7_stacks σ [.ref (g.2.2.1 (p))] (fun v τ => v = some (zv_i (pa_s (σ p 0))) ∧ σ = τ) := by
  refine zm_of (by decide +kernel) (Nat.le_of_ble_eq_true rfl) ?_
  intro k C hr
  show zw_W g mX7_stacks k 0 [(0, .ref (g.2.2.1 (p)))] [] σ
  refine zr_aload_n (pc := 0) C dX7_stacks_0 0 rfl ?_
  refine zr_get (v := zv_i (σ p 0)) (pc := 1) C 0 none dX7_stacks_1 fX7_9 (hn_pat hp) (hs_pat hp) rfl rfl ?_
  refine zr_iconst (pc := 4) C dX7_stacks_4 ?_
  refine zr_icmp_ne (pc := 5) C 12 dX7_stacks_5 (by decide) (by omega) (by omega) (fun h_1 => ?_) (fun h_1 => ?_)
  · refine zr_iconst (pc := 12) C dX7_stacks_12 ?_
    exact zr_iret (pc := 13) C hr dX7_stacks_13 rfl (⟨zq_i (pa_s2 (by omega)).symm, rfl⟩)
  · refine zr_iconst (pc := 8) C dX7_stacks_8 ?_
    refine zr_goto (pc := 9) C 13 dX7_stacks_9 (by decide) ?_
    exact zr_iret (pc := 13) C hr dX7_stacks_13 rfl (⟨zq_i (pa_s1 (by omega)).symm, rfl⟩)

set_option maxRecDepth 20000 in
set_option maxHeartbeats 4000000 in
theorem m_count (g : zg_G) (σ : zs_S) (p : Nat) (hp : zs_p p) (hI : pa_I σ p) : zm_Met g mX7_count σ [.ref (g.2.2.1 (p))] (fun v τ => v = some (zv_i (pa_n σ p)) ∧ σ = τ) := by
  refine zm_of (by decide +kernel) (Nat.le_of_ble_eq_true rfl) ?_
  intro k C hr
  show zw_W g mX7_count k 0 [(0, .ref (g.2.2.1 (p)))] [] σ
  obtain ⟨i1, i2, i3, i4, i5, i6⟩ := id hI
  refine zr_aload_n (pc := 0) C dX7_count_0 0 rfl ?_
  refine zr_get (v := .ref (g.2.2.1 (p + 1))) (pc := 1) C 2 (some (some (p + 1))) dX7_count_1 fX7_20 (hn_pat hp) (hs_pat hp) rfl rfl ?_
  refine zr_get (v := zv_i (σ (p + 1) 0)) (pc := 4) C 0 none dX7_count_4 fX7_31 (hn_line (zl_1 hp)) (hs_line (zl_1 hp)) rfl rfl ?_
  refine zr_aload_n (pc := 7) C dX7_count_7 0 rfl ?_
  refine zr_callV (As := []) (rest := [zv_i (σ (p + 1) 0)]) (b := p) (pc := 8) C dX7_count_8 kX7_stacks vX7_34 rfl (by decide) (hn_pat hp) (hs_pat hp) rfl (Nat.le_of_ble_eq_true rfl) (m_stacks g σ p hp (by omega)) (fun v_ τ_ h_ => ?_)
  obtain ⟨rfl, rfl⟩ := h_
  show zw_W g mX7_count k 11 [(0, .ref (g.2.2.1 (p)))] [zv_i (pa_s (σ p 0)), zv_i (σ (p + 1) 0)] σ
  refine zr_aload_n (pc := 11) C dX7_count_11 0 rfl ?_
  refine zr_get (v := .ref (g.2.2.1 (p + 4))) (pc := 12) C 3 (some (some (p + 4))) dX7_count_12 fX7_24 (hn_pat hp) (hs_pat hp) rfl rfl ?_
  refine zr_get (v := zv_i (σ (p + 4) 0)) (pc := 15) C 0 none dX7_count_15 fX7_31 (hn_line (zl_4 hp)) (hs_line (zl_4 hp)) rfl rfl ?_
  refine zr_imul (pc := 18) C dX7_count_18 ?_
  refine zr_iadd (pc := 19) C dX7_count_19 ?_
  exact zr_iret (pc := 20) C hr dX7_count_20 rfl (⟨rfl, rfl⟩)

set_option maxRecDepth 20000 in
set_option maxHeartbeats 4000000 in
theorem m_pcount (g : zg_G) (σ : zs_S) (p : Nat) (hp : zs_p p) (s : Int) (hs : zi_r s) (hI : pa_I σ p) : zm_Met g mX7_countOf σ [.ref (g.2.2.1 (p)), zv_i s] (fun v τ => v = some (zv_i (pa_c σ p s)) ∧ σ = τ) := by
  refine zm_of (by decide +kernel) (Nat.le_of_ble_eq_true rfl) ?_
  intro k C hr
  show zw_W g mX7_countOf k 0 [(0, .ref (g.2.2.1 (p))), (1, zv_i s)] [] σ
  obtain ⟨i1, i2, i3, i4, i5, i6⟩ := id hI
  have z1 := zs_n1 hp
  have z4 := zs_n4 hp
  refine zr_aload_n (pc := 0) C dX7_countOf_0 0 rfl ?_
  refine zr_get (v := .ref (g.2.2.1 (p + 1))) (pc := 1) C 2 (some (some (p + 1))) dX7_countOf_1 fX7_20 (hn_pat hp) (hs_pat hp) rfl rfl ?_
  refine zr_iload_n (pc := 4) C dX7_countOf_4 1 rfl ?_
  refine zr_callV (As := [zv_i s]) (rest := []) (b := p + 1) (pc := 5) C dX7_countOf_5 kX4_countOf vX7_38 rfl (by decide) (hn_line (zl_1 hp)) (hs_line (zl_1 hp)) rfl (Nat.le_of_ble_eq_true rfl) (m_lcount g σ (p + 1) (zl_1 hp) s (by omega) (by omega) (by exact i5)) (fun v_ τ_ h_ => ?_)
  obtain ⟨rfl, rfl⟩ := h_
  show zw_W g mX7_countOf k 8 [(0, .ref (g.2.2.1 (p))), (1, zv_i s)] [zv_i (ln_c (σ (p + 1 + 1)) s (σ (p + 1) 0).toNat)] σ
  refine zr_aload_n (pc := 8) C dX7_countOf_8 0 rfl ?_
  refine zr_callV (As := []) (rest := [zv_i (ln_c (σ (p + 1 + 1)) s (σ (p + 1) 0).toNat)]) (b := p) (pc := 9) C dX7_countOf_9 kX7_stacks vX7_34 rfl (by decide) (hn_pat hp) (hs_pat hp) rfl (Nat.le_of_ble_eq_true rfl) (m_stacks g σ p hp (by omega)) (fun v_ τ_ h_ => ?_)
  obtain ⟨rfl, rfl⟩ := h_
  show zw_W g mX7_countOf k 12 [(0, .ref (g.2.2.1 (p))), (1, zv_i s)] [zv_i (pa_s (σ p 0)), zv_i (ln_c (σ (p + 1 + 1)) s (σ (p + 1) 0).toNat)] σ
  refine zr_aload_n (pc := 12) C dX7_countOf_12 0 rfl ?_
  refine zr_get (v := .ref (g.2.2.1 (p + 4))) (pc := 13) C 3 (some (some (p + 4))) dX7_countOf_13 fX7_24 (hn_pat hp) (hs_pat hp) rfl rfl ?_
  refine zr_iload_n (pc := 16) C dX7_countOf_16 1 rfl ?_
  refine zr_callV (As := [zv_i s]) (rest := [zv_i (pa_s (σ p 0)), zv_i (ln_c (σ (p + 1 + 1)) s (σ (p + 1) 0).toNat)]) (b := p + 4) (pc := 17) C dX7_countOf_17 kX4_countOf vX7_38 rfl (by decide) (hn_line (zl_4 hp)) (hs_line (zl_4 hp)) rfl (Nat.le_of_ble_eq_true rfl) (m_lcount g σ (p + 4) (zl_4 hp) s (by omega) (by omega) (by exact i6)) (fun v_ τ_ h_ => ?_)
  obtain ⟨rfl, rfl⟩ := h_
  show zw_W g mX7_countOf k 20 [(0, .ref (g.2.2.1 (p))), (1, zv_i s)] [zv_i (ln_c (σ (p + 4 + 1)) s (σ (p + 4) 0).toNat), zv_i (pa_s (σ p 0)), zv_i (ln_c (σ (p + 1 + 1)) s (σ (p + 1) 0).toNat)] σ
  refine zr_imul (pc := 20) C dX7_countOf_20 ?_
  refine zr_iadd (pc := 21) C dX7_countOf_21 ?_
  exact zr_iret (pc := 22) C hr dX7_countOf_22 rfl (⟨rfl, rfl⟩)

set_option maxRecDepth 20000 in
set_option maxHeartbeats 4000000 in
theorem m_better (g : zg_G) (σ : zs_S) (p : Nat) (hp : zs_p p) (q : Nat) (hq : zs_p q) (hI : pa_I σ p) (hI2 : pa_I σ q) : zm_Met g mX7_isBetterThan σ [.ref (g.2.2.1 (p)), .ref (g.2.2.1 (q))] (fun v τ => v = some (zv_i (zi_b (pa_b σ p q))) ∧ σ = τ) := by
  refine zm_of (by decide +kernel) (Nat.le_of_ble_eq_true rfl) ?_
  intro k C hr
  show zw_W g mX7_isBetterThan k 0 [(0, .ref (g.2.2.1 (p))), (1, .ref (g.2.2.1 (q)))] [] σ
  obtain ⟨i1, i2, i3, i4, i5, i6⟩ := id hI
  obtain ⟨j1, j2, j3, j4, j5, j6⟩ := id hI2
  refine zr_aload_n (pc := 0) C dX7_isBetterThan_0 0 rfl ?_
  refine zr_get (v := zv_i (σ p 1)) (pc := 1) C 1 none dX7_isBetterThan_1 fX7_42 (hn_pat hp) (hs_pat hp) rfl rfl ?_
  refine zr_aload_n (pc := 4) C dX7_isBetterThan_4 1 rfl ?_
  refine zr_get (v := zv_i (σ q 1)) (pc := 5) C 1 none dX7_isBetterThan_5 fX7_42 (hn_pat hq) (hs_pat hq) rfl rfl ?_
  refine zr_icmp_eq (pc := 8) C 28 dX7_isBetterThan_8 (by decide) (by omega) (by omega) (fun h_1 => ?_) (fun h_1 => ?_)
  · refine zr_aload_n (pc := 28) C dX7_isBetterThan_28 0 rfl ?_
    refine zr_get (v := zv_i (σ p 0)) (pc := 29) C 0 none dX7_isBetterThan_29 fX7_9 (hn_pat hp) (hs_pat hp) rfl rfl ?_
    refine zr_iconst (pc := 32) C dX7_isBetterThan_32 ?_
    refine zr_icmp_eq (pc := 33) C 59 dX7_isBetterThan_33 (by decide) (by omega) (by omega) (fun h_2 => ?_) (fun h_2 => ?_)
    · refine zr_iconst (pc := 59) C dX7_isBetterThan_59 ?_
      exact zr_zret (pc := 60) C hr dX7_isBetterThan_60 rfl (by decide) (⟨zq_0 (by show ¬ (σ q 1 < σ p 1 ∨ (σ p 1 = σ q 1 ∧ ¬ σ p 0 = -1 ∧ (σ q 0 = -1 ∨ σ p 0 < σ q 0))); omega), rfl⟩)
    · refine zr_aload_n (pc := 36) C dX7_isBetterThan_36 1 rfl ?_
      refine zr_get (v := zv_i (σ q 0)) (pc := 37) C 0 none dX7_isBetterThan_37 fX7_9 (hn_pat hq) (hs_pat hq) rfl rfl ?_
      refine zr_iconst (pc := 40) C dX7_isBetterThan_40 ?_
      refine zr_icmp_eq (pc := 41) C 55 dX7_isBetterThan_41 (by decide) (by omega) (by omega) (fun h_3 => ?_) (fun h_3 => ?_)
      · refine zr_iconst (pc := 55) C dX7_isBetterThan_55 ?_
        refine zr_goto (pc := 56) C 60 dX7_isBetterThan_56 (by decide) ?_
        exact zr_zret (pc := 60) C hr dX7_isBetterThan_60 rfl (by decide) (⟨zq_1 (by show σ q 1 < σ p 1 ∨ (σ p 1 = σ q 1 ∧ ¬ σ p 0 = -1 ∧ (σ q 0 = -1 ∨ σ p 0 < σ q 0)); omega), rfl⟩)
      · refine zr_aload_n (pc := 44) C dX7_isBetterThan_44 0 rfl ?_
        refine zr_get (v := zv_i (σ p 0)) (pc := 45) C 0 none dX7_isBetterThan_45 fX7_9 (hn_pat hp) (hs_pat hp) rfl rfl ?_
        refine zr_aload_n (pc := 48) C dX7_isBetterThan_48 1 rfl ?_
        refine zr_get (v := zv_i (σ q 0)) (pc := 49) C 0 none dX7_isBetterThan_49 fX7_9 (hn_pat hq) (hs_pat hq) rfl rfl ?_
        refine zr_icmp_ge (pc := 52) C 59 dX7_isBetterThan_52 (by decide) (by omega) (by omega) (fun h_4 => ?_) (fun h_4 => ?_)
        · refine zr_iconst (pc := 59) C dX7_isBetterThan_59 ?_
          exact zr_zret (pc := 60) C hr dX7_isBetterThan_60 rfl (by decide) (⟨zq_0 (by show ¬ (σ q 1 < σ p 1 ∨ (σ p 1 = σ q 1 ∧ ¬ σ p 0 = -1 ∧ (σ q 0 = -1 ∨ σ p 0 < σ q 0))); omega), rfl⟩)
        · refine zr_iconst (pc := 55) C dX7_isBetterThan_55 ?_
          refine zr_goto (pc := 56) C 60 dX7_isBetterThan_56 (by decide) ?_
          exact zr_zret (pc := 60) C hr dX7_isBetterThan_60 rfl (by decide) (⟨zq_1 (by show σ q 1 < σ p 1 ∨ (σ p 1 = σ q 1 ∧ ¬ σ p 0 = -1 ∧ (σ q 0 = -1 ∨ σ p 0 < σ q 0)); omega), rfl⟩)
  · refine zr_aload_n (pc := 11) C dX7_isBetterThan_11 0 rfl ?_
    refine zr_get (v := zv_i (σ p 1)) (pc := 12) C 1 none dX7_isBetterThan_12 fX7_42 (hn_pat hp) (hs_pat hp) rfl rfl ?_
    refine zr_aload_n (pc := 15) C dX7_isBetterThan_15 1 rfl ?_
    refine zr_get (v := zv_i (σ q 1)) (pc := 16) C 1 none dX7_isBetterThan_16 fX7_42 (hn_pat hq) (hs_pat hq) rfl rfl ?_
    refine zr_icmp_le (pc := 19) C 26 dX7_isBetterThan_19 (by decide) (by omega) (by omega) (fun h_5 => ?_) (fun h_5 => ?_)
    · refine zr_iconst (pc := 26) C dX7_isBetterThan_26 ?_
      exact zr_zret (pc := 27) C hr dX7_isBetterThan_27 rfl (by decide) (⟨zq_0 (by show ¬ (σ q 1 < σ p 1 ∨ (σ p 1 = σ q 1 ∧ ¬ σ p 0 = -1 ∧ (σ q 0 = -1 ∨ σ p 0 < σ q 0))); omega), rfl⟩)
    · refine zr_iconst (pc := 22) C dX7_isBetterThan_22 ?_
      refine zr_goto (pc := 23) C 27 dX7_isBetterThan_23 (by decide) ?_
      exact zr_zret (pc := 27) C hr dX7_isBetterThan_27 rfl (by decide) (⟨zq_1 (by show σ q 1 < σ p 1 ∨ (σ p 1 = σ q 1 ∧ ¬ σ p 0 = -1 ∧ (σ q 0 = -1 ∨ σ p 0 < σ q 0)); omega), rfl⟩)

set_option maxRecDepth 20000 in
set_option maxHeartbeats 4000000 in
theorem m_factOf (g : zg_G) (σ : zs_S) (p : Nat) (hp : zs_p p) (q : Nat) (hq : zs_l q) (a w k0 : Int) (hk : 0 ≤ k0 ∧ k0 ≤ 3) (ha : 0 ≤ a ∧ a < zs_n q) (hb : 0 ≤ σ (q + 1) a ∧ σ (q + 1) a < 6) : zm_Met g mX7_factOf σ [.ref (g.2.2.1 (p)), .ref (g.2.2.1 (q)), zv_i a, zv_i w, zv_i k0] (fun v τ => v = some (zv_i (pa_f (σ (q + 1) a) w (σ (q + 2) a) (σ (p + 7) (σ (q + 1) a)) k0)) ∧ σ = τ) := by
  refine zm_of (by decide +kernel) (Nat.le_of_ble_eq_true rfl) ?_
  intro k C hr
  show zw_W g mX7_factOf k 0 [(0, .ref (g.2.2.1 (p))), (1, .ref (g.2.2.1 (q))), (2, zv_i a), (3, zv_i w), (4, zv_i k0)] [] σ
  have hn9 := zs_n90 (q := q)
  refine zr_iload (pc := 0) C dX7_factOf_0 4 rfl ?_
  rcases (show k0 = 0 ∨ k0 = 1 ∨ k0 = 2 ∨ (k0 < 0 ∨ 2 < k0) by omega) with h_1 | h_1 | h_1 | h_1
  · refine zr_tabIn (pc := 2) C 28 dX7_factOf_2 (by omega) (by omega) (by rw [h_1]; rfl) (by decide) ?_
    refine zr_aload_n (pc := 28) C dX7_factOf_28 1 rfl ?_
    refine zr_get (v := .ref (g.2.2.1 (q + 1))) (pc := 29) C 1 (some (some (q + 1))) dX7_factOf_29 fX7_49 (hn_line hq) (hs_line hq) rfl rfl ?_
    refine zr_iload_n (pc := 32) C dX7_factOf_32 2 rfl ?_
    refine zr_iaload (pc := 33) C dX7_factOf_33 (hn_line1 hq) (hs_line1 hq) (by omega) (by omega) ?_
    exact zr_iret (pc := 34) C hr dX7_factOf_34 rfl (⟨zq_i (by unfold pa_f; rw [if_pos (by omega)]), rfl⟩)
  · refine zr_tabIn (pc := 2) C 35 dX7_factOf_2 (by omega) (by omega) (by rw [h_1]; rfl) (by decide) ?_
    refine zr_iload_n (pc := 35) C dX7_factOf_35 3 rfl ?_
    exact zr_iret (pc := 36) C hr dX7_factOf_36 rfl (⟨zq_i (by unfold pa_f; rw [if_neg (by omega), if_pos (by omega)]), rfl⟩)
  · refine zr_tabIn (pc := 2) C 37 dX7_factOf_2 (by omega) (by omega) (by rw [h_1]; rfl) (by decide) ?_
    refine zr_aload_n (pc := 37) C dX7_factOf_37 1 rfl ?_
    refine zr_get (v := .ref (g.2.2.1 (q + 2))) (pc := 38) C 2 (some (some (q + 2))) dX7_factOf_38 fX7_52 (hn_line hq) (hs_line hq) rfl rfl ?_
    refine zr_iload_n (pc := 41) C dX7_factOf_41 2 rfl ?_
    refine zr_iaload (pc := 42) C dX7_factOf_42 (hn_line2 hq) (hs_line2 hq) (by omega) (by omega) ?_
    exact zr_iret (pc := 43) C hr dX7_factOf_43 rfl (⟨zq_i (by unfold pa_f; rw [if_neg (by omega), if_neg (by omega), if_pos (by omega)]), rfl⟩)
  · refine zr_tabOut (pc := 2) C 44 dX7_factOf_2 (by omega) h_1 (by decide) ?_
    refine zr_aload_n (pc := 44) C dX7_factOf_44 0 rfl ?_
    refine zr_get (v := .ref (g.2.2.1 (p + 7))) (pc := 45) C 4 (some (some (p + 7))) dX7_factOf_45 fX7_27 (hn_pat hp) (hs_pat hp) rfl rfl ?_
    refine zr_aload_n (pc := 48) C dX7_factOf_48 1 rfl ?_
    refine zr_get (v := .ref (g.2.2.1 (q + 1))) (pc := 49) C 1 (some (some (q + 1))) dX7_factOf_49 fX7_49 (hn_line hq) (hs_line hq) rfl rfl ?_
    refine zr_iload_n (pc := 52) C dX7_factOf_52 2 rfl ?_
    refine zr_iaload (pc := 53) C dX7_factOf_53 (hn_line1 hq) (hs_line1 hq) (by omega) (by omega) ?_
    refine zr_iaload (pc := 54) C dX7_factOf_54 (hn_patP hp) (hs_patP hp) (by omega) (by decide) ?_
    exact zr_iret (pc := 55) C hr dX7_factOf_55 rfl (⟨zq_i (by unfold pa_f; rw [if_neg (by omega), if_neg (by omega), if_neg (by omega)]), rfl⟩)

set_option maxRecDepth 20000 in
set_option maxHeartbeats 4000000 in
theorem m_pfact (g : zg_G) (σ : zs_S) (p : Nat) (hp : zs_p p) (a k0 : Int) (hk : 0 ≤ k0 ∧ k0 ≤ 3) (hI : pa_I σ p) (ha : 0 ≤ a ∧ a < pa_n σ p) : zm_Met g mX7_fact σ [.ref (g.2.2.1 (p)), zv_i a, zv_i k0] (fun v τ => v = some (zv_i (pa_F σ p a k0)) ∧ σ = τ) := by
  refine zm_of (by decide +kernel) (Nat.le_of_ble_eq_true rfl) ?_
  intro k C hr
  show zw_W g mX7_fact k 0 [(0, .ref (g.2.2.1 (p))), (1, zv_i a), (2, zv_i k0)] [] σ
  obtain ⟨i1, i2, i3, i4, i5, i6⟩ := id hI
  have z1 := zs_n1 hp
  have z4 := zs_n4 hp
  have hn : a < σ (p + 1) 0 + (σ (p + 4) 0 + σ (p + 4) 0) := by
    have := ha.2
    unfold pa_n at this
    rcases pa_sb (σ p 0) with z | z
    · rw [z] at this; omega
    · rw [z] at this; omega
  refine zr_iload_n (pc := 0) C dX7_fact_0 1 rfl ?_
  refine zr_aload_n (pc := 1) C dX7_fact_1 0 rfl ?_
  refine zr_get (v := .ref (g.2.2.1 (p + 1))) (pc := 2) C 2 (some (some (p + 1))) dX7_fact_2 fX7_20 (hn_pat hp) (hs_pat hp) rfl rfl ?_
  refine zr_get (v := zv_i (σ (p + 1) 0)) (pc := 5) C 0 none dX7_fact_5 fX7_31 (hn_line (zl_1 hp)) (hs_line (zl_1 hp)) rfl rfl ?_
  refine zr_icmp_ge (pc := 8) C 23 dX7_fact_8 (by decide) (by omega) (by omega) (fun h_1 => ?_) (fun h_1 => ?_)
  · refine zr_iload_n (pc := 23) C dX7_fact_23 1 rfl ?_
    refine zr_aload_n (pc := 24) C dX7_fact_24 0 rfl ?_
    refine zr_get (v := .ref (g.2.2.1 (p + 1))) (pc := 25) C 2 (some (some (p + 1))) dX7_fact_25 fX7_20 (hn_pat hp) (hs_pat hp) rfl rfl ?_
    refine zr_get (v := zv_i (σ (p + 1) 0)) (pc := 28) C 0 none dX7_fact_28 fX7_31 (hn_line (zl_1 hp)) (hs_line (zl_1 hp)) rfl rfl ?_
    refine zr_isub (pc := 31) C dX7_fact_31 ?_
    refine zr_istore_n (L' := [(3, zv_i (a - (σ (p + 1) 0))), (0, .ref (g.2.2.1 (p))), (1, zv_i a), (2, zv_i k0)]) (pc := 32) C dX7_fact_32 (by decide) rfl ?_
    refine zr_iload_n (pc := 33) C dX7_fact_33 0 rfl ?_
    refine zr_aload_n (pc := 34) C dX7_fact_34 1 rfl ?_
    refine zr_get (v := .ref (g.2.2.1 (p + 4))) (pc := 35) C 3 (some (some (p + 4))) dX7_fact_35 fX7_24 (hn_pat hp) (hs_pat hp) rfl rfl ?_
    refine zr_get (v := zv_i (σ (p + 4) 0)) (pc := 38) C 0 none dX7_fact_38 fX7_31 (hn_line (zl_4 hp)) (hs_line (zl_4 hp)) rfl rfl ?_
    refine zr_icmp_ge (pc := 41) C 56 dX7_fact_41 (by decide) (by omega) (by omega) (fun h_2 => ?_) (fun h_2 => ?_)
    · refine zr_aload_n (pc := 56) C dX7_fact_56 1 rfl ?_
      refine zr_aload_n (pc := 57) C dX7_fact_57 1 rfl ?_
      refine zr_get (v := .ref (g.2.2.1 (p + 4))) (pc := 58) C 3 (some (some (p + 4))) dX7_fact_58 fX7_24 (hn_pat hp) (hs_pat hp) rfl rfl ?_
      refine zr_iload_n (pc := 61) C dX7_fact_61 0 rfl ?_
      refine zr_aload_n (pc := 62) C dX7_fact_62 1 rfl ?_
      refine zr_get (v := .ref (g.2.2.1 (p + 4))) (pc := 63) C 3 (some (some (p + 4))) dX7_fact_63 fX7_24 (hn_pat hp) (hs_pat hp) rfl rfl ?_
      refine zr_get (v := zv_i (σ (p + 4) 0)) (pc := 66) C 0 none dX7_fact_66 fX7_31 (hn_line (zl_4 hp)) (hs_line (zl_4 hp)) rfl rfl ?_
      refine zr_isub (pc := 69) C dX7_fact_69 ?_
      refine zr_iconst (pc := 70) C dX7_fact_70 ?_
      refine zr_iload_n (pc := 71) C dX7_fact_71 3 rfl ?_
      refine zr_callV (As := [.ref (g.2.2.1 (p + 4)), zv_i ((a - (σ (p + 1) 0)) - (σ (p + 4) 0)), zv_i 2, zv_i k0]) (rest := []) (b := p) (pc := 72) C dX7_fact_72 kX7_factOf vX7_45 rfl (by decide) (hn_pat hp) (hs_pat hp) rfl (Nat.le_of_ble_eq_true rfl) (m_factOf g σ p hp (p + 4) (zl_4 hp) ((a - (σ (p + 1) 0)) - (σ (p + 4) 0)) 2 k0 (by omega) (by omega) (by exact i6 _ (by omega) (by omega))) (fun v_ τ_ h_ => ?_)
      obtain ⟨rfl, rfl⟩ := h_
      show zw_W g mX7_fact k 75 [(3, zv_i (a - (σ (p + 1) 0))), (0, .ref (g.2.2.1 (p))), (1, zv_i a), (2, zv_i k0)] [zv_i (pa_f (σ (p + 4 + 1) ((a - (σ (p + 1) 0)) - (σ (p + 4) 0))) 2 (σ (p + 4 + 2) ((a - (σ (p + 1) 0)) - (σ (p + 4) 0))) (σ (p + 7) (σ (p + 4 + 1) ((a - (σ (p + 1) 0)) - (σ (p + 4) 0)))) k0)] σ
      exact zr_iret (pc := 75) C hr dX7_fact_75 rfl (⟨zq_i (by unfold pa_F; rw [if_neg (by omega), if_neg (by omega)]), rfl⟩)
    · refine zr_aload_n (pc := 44) C dX7_fact_44 1 rfl ?_
      refine zr_aload_n (pc := 45) C dX7_fact_45 1 rfl ?_
      refine zr_get (v := .ref (g.2.2.1 (p + 4))) (pc := 46) C 3 (some (some (p + 4))) dX7_fact_46 fX7_24 (hn_pat hp) (hs_pat hp) rfl rfl ?_
      refine zr_iload_n (pc := 49) C dX7_fact_49 0 rfl ?_
      refine zr_iconst (pc := 50) C dX7_fact_50 ?_
      refine zr_iload_n (pc := 51) C dX7_fact_51 3 rfl ?_
      refine zr_callV (As := [.ref (g.2.2.1 (p + 4)), zv_i (a - (σ (p + 1) 0)), zv_i 1, zv_i k0]) (rest := []) (b := p) (pc := 52) C dX7_fact_52 kX7_factOf vX7_45 rfl (by decide) (hn_pat hp) (hs_pat hp) rfl (Nat.le_of_ble_eq_true rfl) (m_factOf g σ p hp (p + 4) (zl_4 hp) (a - (σ (p + 1) 0)) 1 k0 (by omega) (by omega) (by exact i6 _ (by omega) (by omega))) (fun v_ τ_ h_ => ?_)
      obtain ⟨rfl, rfl⟩ := h_
      show zw_W g mX7_fact k 55 [(3, zv_i (a - (σ (p + 1) 0))), (0, .ref (g.2.2.1 (p))), (1, zv_i a), (2, zv_i k0)] [zv_i (pa_f (σ (p + 4 + 1) (a - (σ (p + 1) 0))) 1 (σ (p + 4 + 2) (a - (σ (p + 1) 0))) (σ (p + 7) (σ (p + 4 + 1) (a - (σ (p + 1) 0)))) k0)] σ
      exact zr_iret (pc := 55) C hr dX7_fact_55 rfl (⟨zq_i (by unfold pa_F; rw [if_neg (by omega), if_pos (by omega)]), rfl⟩)
  · refine zr_aload_n (pc := 11) C dX7_fact_11 0 rfl ?_
    refine zr_aload_n (pc := 12) C dX7_fact_12 0 rfl ?_
    refine zr_get (v := .ref (g.2.2.1 (p + 1))) (pc := 13) C 2 (some (some (p + 1))) dX7_fact_13 fX7_20 (hn_pat hp) (hs_pat hp) rfl rfl ?_
    refine zr_iload_n (pc := 16) C dX7_fact_16 1 rfl ?_
    refine zr_iconst (pc := 17) C dX7_fact_17 ?_
    refine zr_iload_n (pc := 18) C dX7_fact_18 2 rfl ?_
    refine zr_callV (As := [.ref (g.2.2.1 (p + 1)), zv_i a, zv_i 0, zv_i k0]) (rest := []) (b := p) (pc := 19) C dX7_fact_19 kX7_factOf vX7_45 rfl (by decide) (hn_pat hp) (hs_pat hp) rfl (Nat.le_of_ble_eq_true rfl) (m_factOf g σ p hp (p + 1) (zl_1 hp) a 0 k0 (by omega) (by omega) (by exact i5 _ (by omega) (by omega))) (fun v_ τ_ h_ => ?_)
    obtain ⟨rfl, rfl⟩ := h_
    show zw_W g mX7_fact k 22 [(0, .ref (g.2.2.1 (p))), (1, zv_i a), (2, zv_i k0)] [zv_i (pa_f (σ (p + 1 + 1) a) 0 (σ (p + 1 + 2) a) (σ (p + 7) (σ (p + 1 + 1) a)) k0)] σ
    exact zr_iret (pc := 22) C hr dX7_fact_22 rfl (⟨zq_i (by unfold pa_F; rw [if_pos (by omega)]), rfl⟩)
