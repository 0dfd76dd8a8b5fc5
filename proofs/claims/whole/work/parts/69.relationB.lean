/-! CLASS AND REFERENCE, part H: sizes, heights, orders; cuttings -/
theorem rl_setS {σ τ : zs_S} {n : Int} {b q u p : Nat} (h : rl_R σ n b q u p) (hS : md_S τ τ) (e : ∀ c : Nat, ¬ ((28 ≤ c ∧ c ≤ 39) ∨ (41 ≤ c ∧ c ≤ 44) ∨ c = 26 ∨ (76 ≤ c ∧ c ≤ 82) ∨ c = 67 ∨ c = 90) → ∀ i, τ c i = σ c i) (g6 : τ 26 6 = σ 26 6) (g7 : τ 26 7 = σ 26 7) (m : ∀ y, y ≠ 0 → y ≠ 17 → τ 67 y = σ 67 y) : rl_R τ n b q u p :=
  rl_set h (md_Ax h.1 (fun c hc i => e c (by omega) i) (m 1 (by decide) (by decide)) (m 3 (by decide) (by decide))) hS (by rw [e 2 (by omega), m 3 (by decide) (by decide)]; exact h.2.2.1) (fun c hc i => e c (by omega) i) g6 g7 (fun y hy => m y (by omega) (by omega))
theorem rl_size {σ τ : zs_S} {n a x c : Int} {b q u p : Nat} (h : rl_R σ n b q u p) (hc : ((0 ≤ a ∧ a ≤ 5) ∧ (50 ≤ x ∧ x ≤ 4000)) ∧ (50 ≤ c ∧ c ≤ 4000)) (k0 : τ (28 + 2 * a.toNat) 0 = x) (k1 : τ (28 + 2 * a.toNat) 1 = c) (k2 : ∀ i : Int, 0 ≤ i → i < 3 → τ (29 + 2 * a.toNat) i = 0) (m1 : τ 76 a = x ∧ τ 77 a = c) (m2 : ∀ y, y ≠ a → τ 76 y = σ 76 y ∧ τ 77 y = σ 77 y) (m4 : ∀ y, τ 78 y = if 4 * a ≤ y ∧ y < 4 * a + 4 then 0 else σ 78 y) (eo : ∀ c : Nat, c ≠ 28 + 2 * a.toNat → c ≠ 29 + 2 * a.toNat → c ≠ 67 → c ≠ 76 → c ≠ 77 → c ≠ 78 → ∀ i, τ c i = σ c i) (m : ∀ y, y ≠ 0 → τ 67 y = σ 67 y) : rl_R τ n b q u p := by
  have ee : ∀ c : Nat, (c ≠ 28 + 2 * a.toNat ∧ c ≠ 29 + 2 * a.toNat ∧ c ≠ 67 ∧ c ≠ 76 ∧ c ≠ 77 ∧ c ≠ 78) → ∀ i, τ c i = σ c i := fun c h i => eo c h.1 h.2.1 h.2.2.1 h.2.2.2.1 h.2.2.2.2.1 h.2.2.2.2.2 i
  obtain ⟨⟨a1, a2, a3, a4, a5⟩, s2, s3, s4⟩ := h.2.1
  refine rl_setS h ⟨⟨fun j j1 j2 => ?_, by rw [ee 26 (by omega)]; exact a2, fun i x y => by rw [ee 44 (by omega)]; exact a3 i x y, fun k x y => by rw [ee 41 (by omega)]; exact a4 k x y, fun k x y => by rw [ee 42 (by omega), ee 43 (by omega)]; exact a5 k x y⟩, fun j j1 j2 => ?_, by rw [m 17 (by decide), ee 26 (by omega)]; exact s3, fun i x y => by rw [ee 80 (by omega), ee 81 (by omega), ee 82 (by omega), ee 44 (by omega), ee 42 (by omega), ee 43 (by omega)]; exact s4 i x y⟩ (fun c hc i => ee c (by omega) i) (ee 26 (by omega) 6) (ee 26 (by omega) 7) (fun y y1 y2 => m y y1)
  · by_cases z : j = a
    · subst z
      rw [k0, k1]
      exact ⟨by omega, by omega, fun i i1 i2 => by rw [k2 i i1 i2]; omega⟩
    · rw [ee (28 + 2 * j.toNat) (by omega), ee (28 + 2 * j.toNat) (by omega)]
      obtain ⟨q1, q2, q3⟩ := a1 j j1 j2
      exact ⟨q1, q2, fun i i1 i2 => by rw [ee (29 + 2 * j.toNat) (by omega)]; exact q3 i i1 i2⟩
  · obtain ⟨q1, q2, q3, q4⟩ := s2 j j1 j2
    by_cases z : j = a
    · subst z
      rw [k0, k1, m1.1, m1.2, ee 79 (by omega), ee 41 (by omega)]
      exact ⟨rfl, rfl, q3, fun r r1 r2 => by rw [m4, if_pos (by omega), k2 _ (by omega) (by omega)]⟩
    · rw [ee (28 + 2 * j.toNat) (by omega), ee (28 + 2 * j.toNat) (by omega), (m2 j z).1, (m2 j z).2, ee 79 (by omega), ee 41 (by omega)]
      exact ⟨q1, q2, q3, fun r r1 r2 => by rw [m4, if_neg (by omega), ee (29 + 2 * j.toNat) (by omega)]; exact q4 r r1 r2⟩
theorem rl_bprice {σ τ : zs_S} {n a x c : Int} {b q u p : Nat} (h : rl_R σ n b q u p) (hc : (0 ≤ a ∧ a ≤ 5) ∧ (1 ≤ x ∧ x ≤ 3) ∧ (0 ≤ c ∧ c ≤ 1000000)) (k2 : ∀ i, τ (29 + 2 * a.toNat) i = if i = x - 1 then c else σ (29 + 2 * a.toNat) i) (m4 : ∀ y, τ 78 y = if y = 4 * a + x then c else σ 78 y) (eo : ∀ c : Nat, c ≠ 29 + 2 * a.toNat → c ≠ 67 → c ≠ 78 → ∀ i, τ c i = σ c i) (m : ∀ y, y ≠ 0 → τ 67 y = σ 67 y) : rl_R τ n b q u p := by
  have ee : ∀ c : Nat, (c ≠ 29 + 2 * a.toNat ∧ c ≠ 67 ∧ c ≠ 78) → ∀ i, τ c i = σ c i := fun c h i => eo c h.1 h.2.1 h.2.2 i
  obtain ⟨⟨a1, a2, a3, a4, a5⟩, s2, s3, s4⟩ := h.2.1
  refine rl_setS h ⟨⟨fun j j1 j2 => ?_, by rw [ee 26 (by omega)]; exact a2, fun i x y => by rw [ee 44 (by omega)]; exact a3 i x y, fun k x y => by rw [ee 41 (by omega)]; exact a4 k x y, fun k x y => by rw [ee 42 (by omega), ee 43 (by omega)]; exact a5 k x y⟩, fun j j1 j2 => ?_, by rw [m 17 (by decide), ee 26 (by omega)]; exact s3, fun i x y => by rw [ee 80 (by omega), ee 81 (by omega), ee 82 (by omega), ee 44 (by omega), ee 42 (by omega), ee 43 (by omega)]; exact s4 i x y⟩ (fun c hc i => ee c (by omega) i) (ee 26 (by omega) 6) (ee 26 (by omega) 7) (fun y y1 y2 => m y y1)
  · obtain ⟨q1, q2, q3⟩ := a1 j j1 j2
    rw [ee (28 + 2 * j.toNat) (by omega), ee (28 + 2 * j.toNat) (by omega)]
    refine ⟨q1, q2, fun i i1 i2 => ?_⟩
    by_cases z : j = a
    · subst z
      rw [k2]
      by_cases y : i = x - 1
      · rw [if_pos y]; omega
      · rw [if_neg y]; exact q3 i i1 i2
    · rw [ee (29 + 2 * j.toNat) (by omega)]; exact q3 i i1 i2
  · obtain ⟨q1, q2, q3, q4⟩ := s2 j j1 j2
    rw [ee (28 + 2 * j.toNat) (by omega), ee (28 + 2 * j.toNat) (by omega), ee 76 (by omega), ee 77 (by omega), ee 79 (by omega), ee 41 (by omega)]
    refine ⟨q1, q2, q3, fun r r1 r2 => ?_⟩
    rw [m4]
    by_cases z : j = a
    · subst z
      rw [k2]
      by_cases y : r = x
      · rw [if_pos (by omega), if_pos (by omega)]
      · rw [if_neg (by omega), if_neg (by omega)]; exact q4 r r1 r2
    · rw [if_neg (by omega), ee (29 + 2 * j.toNat) (by omega)]; exact q4 r r1 r2
theorem rl_height {σ τ : zs_S} {n a x : Int} {b q u p : Nat} (h : rl_R σ n b q u p) (hc : (0 ≤ a ∧ a ≤ 3) ∧ (300 ≤ x ∧ x ≤ 5000)) (k2 : ∀ i, τ 44 i = if i = a then x else σ 44 i) (m4 : ∀ y, τ 80 y = if y = a then x else σ 80 y) (eo : ∀ c : Nat, c ≠ 44 → c ≠ 67 → c ≠ 80 → ∀ i, τ c i = σ c i) (m : ∀ y, y ≠ 0 → τ 67 y = σ 67 y) : rl_R τ n b q u p := by
  have ee : ∀ c : Nat, (c ≠ 44 ∧ c ≠ 67 ∧ c ≠ 80) → ∀ i, τ c i = σ c i := fun c h i => eo c h.1 h.2.1 h.2.2 i
  obtain ⟨⟨a1, a2, a3, a4, a5⟩, s2, s3, s4⟩ := h.2.1
  refine rl_setS h ⟨⟨fun j j1 j2 => ?_, by rw [ee 26 (by omega)]; exact a2, fun i x y => ?_, fun k x y => by rw [ee 41 (by omega)]; exact a4 k x y, fun k x y => by rw [ee 42 (by omega), ee 43 (by omega)]; exact a5 k x y⟩, fun j j1 j2 => ?_, by rw [m 17 (by decide), ee 26 (by omega)]; exact s3, fun i x y => ?_⟩ (fun c hc i => ee c (by omega) i) (ee 26 (by omega) 6) (ee 26 (by omega) 7) (fun y y1 y2 => m y y1)
  · rw [ee (28 + 2 * j.toNat) (by omega), ee (28 + 2 * j.toNat) (by omega)]
    obtain ⟨q1, q2, q3⟩ := a1 j j1 j2
    exact ⟨q1, q2, fun i i1 i2 => by rw [ee (29 + 2 * j.toNat) (by omega)]; exact q3 i i1 i2⟩
  · rw [k2]
    by_cases z : i = a
    · rw [if_pos z]; omega
    · rw [if_neg z]; exact a3 i x y
  · obtain ⟨q1, q2, q3, q4⟩ := s2 j j1 j2
    rw [ee (28 + 2 * j.toNat) (by omega), ee (28 + 2 * j.toNat) (by omega), ee 76 (by omega), ee 77 (by omega), ee 79 (by omega), ee 41 (by omega)]
    exact ⟨q1, q2, q3, fun r r1 r2 => by rw [ee 78 (by omega), ee (29 + 2 * j.toNat) (by omega)]; exact q4 r r1 r2⟩
  · obtain ⟨q1, q2, q3⟩ := s4 i x y
    rw [k2, m4, ee 81 (by omega), ee 82 (by omega), ee 42 (by omega), ee 43 (by omega), q1]
    exact ⟨rfl, q2, q3⟩
theorem rl_kerf {σ τ : zs_S} {n a : Int} {b q u p : Nat} (h : rl_R σ n b q u p) (hc : 0 ≤ a ∧ a ≤ 100) (k2 : τ 26 3 = a) (m4 : τ 67 17 = a) (eo : ∀ c : Nat, c ≠ 26 → c ≠ 67 → ∀ i, τ c i = σ c i) (g6 : τ 26 6 = σ 26 6) (g7 : τ 26 7 = σ 26 7) (m : ∀ y, y ≠ 0 → y ≠ 17 → τ 67 y = σ 67 y) : rl_R τ n b q u p := by
  have ee : ∀ c : Nat, (c ≠ 26 ∧ c ≠ 67) → ∀ i, τ c i = σ c i := fun c h i => eo c h.1 h.2 i
  obtain ⟨⟨a1, a2, a3, a4, a5⟩, s2, s3, s4⟩ := h.2.1
  refine rl_setS h ⟨⟨fun j j1 j2 => ?_, by rw [k2]; exact hc, fun i x y => by rw [ee 44 (by omega)]; exact a3 i x y, fun k x y => by rw [ee 41 (by omega)]; exact a4 k x y, fun k x y => by rw [ee 42 (by omega), ee 43 (by omega)]; exact a5 k x y⟩, fun j j1 j2 => ?_, by rw [m4, k2], fun i x y => by rw [ee 80 (by omega), ee 81 (by omega), ee 82 (by omega), ee 44 (by omega), ee 42 (by omega), ee 43 (by omega)]; exact s4 i x y⟩ (fun c hc i => ee c (by omega) i) g6 g7 m
  · rw [ee (28 + 2 * j.toNat) (by omega), ee (28 + 2 * j.toNat) (by omega)]
    obtain ⟨q1, q2, q3⟩ := a1 j j1 j2
    exact ⟨q1, q2, fun i i1 i2 => by rw [ee (29 + 2 * j.toNat) (by omega)]; exact q3 i i1 i2⟩
  · obtain ⟨q1, q2, q3, q4⟩ := s2 j j1 j2
    rw [ee (28 + 2 * j.toNat) (by omega), ee (28 + 2 * j.toNat) (by omega), ee 76 (by omega), ee 77 (by omega), ee 79 (by omega), ee 41 (by omega)]
    exact ⟨q1, q2, q3, fun r r1 r2 => by rw [ee 78 (by omega), ee (29 + 2 * j.toNat) (by omega)]; exact q4 r r1 r2⟩
theorem rl_need {σ τ : zs_S} {n : Int} {b q u p : Nat} (h : rl_R σ n b q u p) (k2 : ∀ i, 0 ≤ i → i < 6 → τ 79 i = τ 41 i ∧ 0 ≤ τ 41 i ∧ τ 41 i ≤ 1000) (eo : ∀ c : Nat, c ≠ 41 → c ≠ 67 → c ≠ 79 → c ≠ 90 → ∀ i, τ c i = σ c i) (m : ∀ y, y ≠ 0 → τ 67 y = σ 67 y) : rl_R τ n b q u p := by
  have ee : ∀ c : Nat, (c ≠ 41 ∧ c ≠ 67 ∧ c ≠ 79 ∧ c ≠ 90) → ∀ i, τ c i = σ c i := fun c h i => eo c h.1 h.2.1 h.2.2.1 h.2.2.2 i
  obtain ⟨⟨a1, a2, a3, a4, a5⟩, s2, s3, s4⟩ := h.2.1
  refine rl_setS h ⟨⟨fun j j1 j2 => ?_, by rw [ee 26 (by omega)]; exact a2, fun i x y => by rw [ee 44 (by omega)]; exact a3 i x y, fun k x y => (k2 k x y).2, fun k x y => by rw [ee 42 (by omega), ee 43 (by omega)]; exact a5 k x y⟩, fun j j1 j2 => ?_, by rw [m 17 (by decide), ee 26 (by omega)]; exact s3, fun i x y => by rw [ee 80 (by omega), ee 81 (by omega), ee 82 (by omega), ee 44 (by omega), ee 42 (by omega), ee 43 (by omega)]; exact s4 i x y⟩ (fun c hc i => ee c (by omega) i) (ee 26 (by omega) 6) (ee 26 (by omega) 7) (fun y y1 y2 => m y y1)
  · rw [ee (28 + 2 * j.toNat) (by omega), ee (28 + 2 * j.toNat) (by omega)]
    obtain ⟨q1, q2, q3⟩ := a1 j j1 j2
    exact ⟨q1, q2, fun i i1 i2 => by rw [ee (29 + 2 * j.toNat) (by omega)]; exact q3 i i1 i2⟩
  · obtain ⟨q1, q2, q3, q4⟩ := s2 j j1 j2
    rw [ee (28 + 2 * j.toNat) (by omega), ee (28 + 2 * j.toNat) (by omega), ee 76 (by omega), ee 77 (by omega)]
    exact ⟨q1, q2, (k2 j j1 j2).1, fun r r1 r2 => by rw [ee 78 (by omega), ee (29 + 2 * j.toNat) (by omega)]; exact q4 r r1 r2⟩
theorem rl_ladder {σ τ : zs_S} {n a x c : Int} {b q u p : Nat} (h : rl_R σ n b q u p) (hc : (0 ≤ a ∧ a ≤ 3) ∧ (0 ≤ x ∧ x ≤ 100000) ∧ (0 ≤ c ∧ c ≤ 100000)) (k1 : ∀ i, τ 42 i = if i = a then x else σ 42 i) (k2 : ∀ i, τ 43 i = if i = a then c else σ 43 i) (m1 : ∀ i, τ 81 i = if i = a then x else σ 81 i) (m2 : ∀ i, τ 82 i = if i = a then c else σ 82 i) (eo : ∀ c : Nat, c ≠ 42 → c ≠ 43 → c ≠ 67 → c ≠ 81 → c ≠ 82 → ∀ i, τ c i = σ c i) (m : ∀ y, y ≠ 0 → τ 67 y = σ 67 y) : rl_R τ n b q u p := by
  have ee : ∀ c : Nat, (c ≠ 42 ∧ c ≠ 43 ∧ c ≠ 67 ∧ c ≠ 81 ∧ c ≠ 82) → ∀ i, τ c i = σ c i := fun c h i => eo c h.1 h.2.1 h.2.2.1 h.2.2.2.1 h.2.2.2.2 i
  obtain ⟨⟨a1, a2, a3, a4, a5⟩, s2, s3, s4⟩ := h.2.1
  refine rl_setS h ⟨⟨fun j j1 j2 => ?_, by rw [ee 26 (by omega)]; exact a2, fun i x y => by rw [ee 44 (by omega)]; exact a3 i x y, fun k x y => by rw [ee 41 (by omega)]; exact a4 k x y, fun k k1' k2' => ?_⟩, fun j j1 j2 => ?_, by rw [m 17 (by decide), ee 26 (by omega)]; exact s3, fun i i1 i2 => ?_⟩ (fun c hc i => ee c (by omega) i) (ee 26 (by omega) 6) (ee 26 (by omega) 7) (fun y y1 y2 => m y y1)
  · rw [ee (28 + 2 * j.toNat) (by omega), ee (28 + 2 * j.toNat) (by omega)]
    obtain ⟨q1, q2, q3⟩ := a1 j j1 j2
    exact ⟨q1, q2, fun i i1 i2 => by rw [ee (29 + 2 * j.toNat) (by omega)]; exact q3 i i1 i2⟩
  · rw [k1, k2]
    by_cases z : k = a
    · rw [if_pos z, if_pos z]; omega
    · rw [if_neg z, if_neg z]; exact a5 k k1' k2'
  · obtain ⟨q1, q2, q3, q4⟩ := s2 j j1 j2
    rw [ee (28 + 2 * j.toNat) (by omega), ee (28 + 2 * j.toNat) (by omega), ee 76 (by omega), ee 77 (by omega), ee 79 (by omega), ee 41 (by omega)]
    exact ⟨q1, q2, q3, fun r r1 r2 => by rw [ee 78 (by omega), ee (29 + 2 * j.toNat) (by omega)]; exact q4 r r1 r2⟩
  · obtain ⟨q1, q2, q3⟩ := s4 i i1 i2
    rw [k1, k2, m1, m2, ee 80 (by omega), ee 44 (by omega), q2, q3]
    exact ⟨q1, rfl, rfl⟩
/-- the facts of logs, in two arrays -/
theorem rl_logs {σ : zs_S} {n : Int} {l : List (Int × Int)} {A A' : Int → Int} (hS : ks_s σ n) (hK : ks_k σ) (hW : bk_W σ n (n + 1) l) (h1 : bk_R σ A l) (h2 : bk_R σ A' l) : (∀ i : Int, 0 ≤ i → i < (l.length : Int) * 6 → A i = A' i ∧ 0 ≤ A i ∧ A i ≤ 1000000) ∧ (∀ i : Int, 0 ≤ i → i < (l.length : Int) → (50 ≤ A (i * 6 + 2) ∧ A (i * 6 + 2) ≤ 900) ∧ (1 ≤ A (i * 6 + 4) ∧ A (i * 6 + 4) ≤ 3)) := by
  have hn := hS.2.1
  have key : ∀ c : Nat, c < l.length → ∃ p j, bk_e σ A c p j ∧ bk_e σ A' c p j ∧ (0 ≤ p ∧ p ≤ 80) ∧ (0 ≤ j ∧ j < 6) ∧ ((50 ≤ bk_t σ p j ∧ bk_t σ p j ≤ 900) ∧ (1 ≤ bk_g σ p j ∧ bk_g σ p j ≤ 3)) ∧ (0 ≤ bk_v σ p j ∧ bk_v σ p j ≤ 1000000) := fun c hc => by
    obtain ⟨z, hz⟩ : ∃ z, l[c]? = some z := ⟨_, List.getElem?_eq_getElem hc⟩
    obtain ⟨p, j⟩ := z
    obtain ⟨w1, w2, w3, w4⟩ := hW (p, j) (List.mem_of_getElem? hz)
    exact ⟨p, j, h1 c p j hz, h2 c p j hz, ⟨w2, by have : p < n + 1 := w1; omega⟩, w3, bk_tb hS w2 w4, bk_vb hS hK w3 w2 w4⟩
  refine ⟨fun i i1 i2 => ?_, fun i i1 i2 => ?_⟩
  · obtain ⟨p, j, ⟨a0, a1, a2, a3, a4, a5⟩, ⟨b0, b1, b2, b3, b4, b5⟩, hp, hj, ht, hv⟩ := key (i / 6).toNat (by omega)
    have ec : (((i / 6).toNat : Nat) : Int) = i / 6 := by omega
    rw [ec] at a0 a1 a2 a3 a4 a5 b0 b1 b2 b3 b4 b5
    rcases (show i = i / 6 * 6 + 0 ∨ i = i / 6 * 6 + 1 ∨ i = i / 6 * 6 + 2 ∨ i = i / 6 * 6 + 3 ∨ i = i / 6 * 6 + 4 ∨ i = i / 6 * 6 + 5 by omega) with e | e | e | e | e | e
    · rw [← e] at a0 b0; omega
    · rw [← e] at a1 b1; omega
    · rw [← e] at a2 b2; omega
    · rw [← e] at a3 b3; omega
    · rw [← e] at a4 b4; omega
    · rw [← e] at a5 b5; omega
  · obtain ⟨p, j, ⟨a0, a1, a2, a3, a4, a5⟩, -, hp, hj, ht, hv⟩ := key i.toNat (by omega)
    have ec : ((i.toNat : Nat) : Int) = i := by omega
    rw [ec] at a2 a4
    rw [a2, a4]
    exact ht
/-- a new cutting: q holds it, b is spare -/
theorem rl_cut {σ τ : zs_S} {n : Int} {b q u p : Nat} {l : List (Int × Int)} (h : rl_R σ n b q u p) (hW : bk_W σ n (n + 1) l) (hl : (l.length : Int) ≤ 40) (c0 : τ q 0 = l.length) (c1 : τ 67 10 = l.length) (r1 : bk_R σ (τ (q + 1)) l) (r2 : bk_R σ (τ 75) l) (g4 : τ 1 4 = q) (g5 : τ 1 5 = b) (h20 : τ 20 (n + 1) = 0) (eo : ∀ c : Nat, (c ≠ 1 ∧ c ≠ 5 ∧ c ≠ 6 ∧ c ≠ 20 ∧ c ≠ 21 ∧ c ≠ q ∧ c ≠ q + 1 ∧ c ≠ 67 ∧ c ≠ 75 ∧ c ≠ 88 ∧ c ≠ 89) → ∀ i, τ c i = σ c i) (m : ∀ y, y ≠ 0 → y ≠ 10 → τ 67 y = σ 67 y) : rl_R τ n q b u p := by
  obtain ⟨hA, hS, h23, hL, ⟨⟨q1, q2, q3, q4, q5⟩, p1, p2, p3, p4, p5⟩, -, hP, hJ⟩ := h
  obtain ⟨f1, f2⟩ := rl_logs hA.1 hA.2.1 hW r1 r2
  refine ⟨md_Ax hA (fun c hc i => eo c (by omega) i) (m 1 (by decide) (by decide)) (m 3 (by decide) (by decide)), rl_Sx hS (fun c hc i => eo c (by omega) i) (eo 26 (by omega) 3) (m 17 (by decide) (by decide)), by rw [eo 2 (by omega), m 3 (by decide) (by decide)]; exact h23, ⟨by rw [c0, c1], by rw [c0]; omega, fun i i1 i2 => by rw [c0] at i2; exact f1 i i1 i2, fun i i1 i2 => by rw [c0] at i2; exact f2 i i1 i2⟩, ⟨⟨q2, q1, Ne.symm q3, g4, g5⟩, p1, p2, p3, by rw [eo 26 (by omega)]; exact p4, by rw [eo 26 (by omega)]; exact p5⟩, h20, rl_Px hP (fun c c1 c2 => eo c (by omega)) (eo 83 (by omega)) (m 20 (by decide) (by decide)) (m 21 (by decide) (by decide)), fun x x1 x2 => by rw [eo 49 (by omega)]; exact hJ x x1 x2⟩
/-- a refused cutting: the spare one was written -/
theorem rl_nocut {σ τ : zs_S} {n : Int} {b q u p : Nat} (h : rl_R σ n b q u p) (eo : ∀ c : Nat, (c ≠ 5 ∧ c ≠ 6 ∧ c ≠ q ∧ c ≠ q + 1 ∧ c ≠ 67) → ∀ i, τ c i = σ c i) (m : ∀ y, y ≠ 0 → τ 67 y = σ 67 y) : rl_R τ n b q u p := by
  obtain ⟨hA, hS, h23, hL, ⟨⟨q1, q2, q3, q4, q5⟩, p1, p2, p3, p4, p5⟩, h20, hP, hJ⟩ := h
  refine ⟨md_Ax hA (fun c hc i => eo c (by omega) i) (m 1 (by decide)) (m 3 (by decide)), rl_Sx hS (fun c hc i => eo c (by omega) i) (eo 26 (by omega) 3) (m 17 (by decide)), by rw [eo 2 (by omega), m 3 (by decide)]; exact h23, rl_Lx hL (eo b (by omega)) (eo (b + 1) (by omega)) (eo 75 (by omega)) (m 10 (by decide)), ⟨⟨q1, q2, q3, by rw [eo 1 (by omega)]; exact q4, by rw [eo 1 (by omega)]; exact q5⟩, p1, p2, p3, by rw [eo 26 (by omega)]; exact p4, by rw [eo 26 (by omega)]; exact p5⟩, by rw [eo 20 (by omega)]; exact h20, rl_Px hP (fun c c1 c2 => eo c (by omega)) (eo 83 (by omega)) (m 20 (by decide)) (m 21 (by decide)), fun x x1 x2 => by rw [eo 49 (by omega)]; exact hJ x x1 x2⟩
