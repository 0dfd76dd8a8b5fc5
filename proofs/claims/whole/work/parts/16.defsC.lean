/-! THE MATHEMATICS OF THE CLASS, part C: the best cutting -/
theorem bk_fyi {σ : zs_S} {n p a : Int} {B : Int → Int} (h0 : 0 ≤ a) (h : bk_a σ n p a) (h2 : (bk_f σ n p B a.toNat).1 < bk_v σ p a + B (p + bk_n σ a + 1)) : bk_f σ n p B (a + 1).toNat = (bk_v σ p a + B (p + bk_n σ a + 1), a) := by
  obtain ⟨m, rfl⟩ := Int.eq_ofNat_of_zero_le h0
  rw [show ((m : Int) + 1).toNat = m + 1 by omega]
  exact bk_fy ⟨h, h2⟩
theorem bk_fni {σ : zs_S} {n p a : Int} {B : Int → Int} (h0 : 0 ≤ a) (h : ¬ (bk_a σ n p a ∧ (bk_f σ n p B a.toNat).1 < bk_v σ p a + B (p + bk_n σ a + 1))) : bk_f σ n p B (a + 1).toNat = bk_f σ n p B a.toNat := by
  obtain ⟨m, rfl⟩ := Int.eq_ofNat_of_zero_le h0
  rw [show ((m : Int) + 1).toNat = m + 1 by omega]
  exact bk_fn h
/-- what the fold finds: no kind gives more; the lowest that gives so much, and more than none -/
theorem bk_fs {σ : zs_S} {n p : Int} {B : Int → Int} : ∀ m : Nat, B (p + 1) ≤ (bk_f σ n p B m).1 ∧ (∀ a : Int, 0 ≤ a → a < m → bk_a σ n p a → bk_v σ p a + B (p + bk_n σ a + 1) ≤ (bk_f σ n p B m).1) ∧
    (((bk_f σ n p B m).2 = -1 ∧ (bk_f σ n p B m).1 = B (p + 1)) ∨ (0 ≤ (bk_f σ n p B m).2 ∧ (bk_f σ n p B m).2 < m ∧ bk_a σ n p (bk_f σ n p B m).2 ∧ (bk_f σ n p B m).1 = bk_v σ p (bk_f σ n p B m).2 + B (p + bk_n σ (bk_f σ n p B m).2 + 1) ∧ B (p + 1) < (bk_f σ n p B m).1 ∧ ∀ a : Int, 0 ≤ a → a < (bk_f σ n p B m).2 → bk_a σ n p a → bk_v σ p a + B (p + bk_n σ a + 1) < (bk_f σ n p B m).1))
  | 0 => ⟨by simp [bk_f], fun a h1 h2 => absurd h2 (by omega), Or.inl ⟨rfl, rfl⟩⟩
  | m + 1 => by
    obtain ⟨h1, h2, h3⟩ := bk_fs (σ := σ) (n := n) (p := p) (B := B) m
    by_cases h : bk_a σ n p m ∧ (bk_f σ n p B m).1 < bk_v σ p m + B (p + bk_n σ m + 1)
    · rw [bk_fy h]
      refine ⟨by dsimp only; omega, fun a a1 a2 a3 => ?_, Or.inr ⟨by dsimp only; omega, by dsimp only; omega, h.1, rfl, by dsimp only; omega, fun a a1 a2 a3 => ?_⟩⟩
      · rcases (show a < (m : Int) ∨ a = (m : Int) by omega) with h4 | h4
        · have := h2 a a1 h4 a3
          dsimp only; omega
        · subst h4
          exact Int.le_refl _
      · have := h2 a a1 a2 a3
        dsimp only; omega
    · rw [bk_fn h]
      refine ⟨h1, fun a a1 a2 a3 => ?_, ?_⟩
      · rcases (show a < (m : Int) ∨ a = (m : Int) by omega) with h4 | h4
        · exact h2 a a1 h4 a3
        · subst h4
          exact Int.not_lt.mp (fun z => h ⟨a3, z⟩)
      · rcases h3 with h3 | ⟨b1, b2, b3⟩
        · exact Or.inl h3
        · exact Or.inr ⟨b1, by omega, b3⟩
/-- best values and kinds of all points of the stem -/
def bk_z (σ : zs_S) (n : Int) (B K : Int → Int) : Prop := B (n + 1) = 0 ∧ ∀ x, 0 ≤ x → x ≤ n → (B x = (bk_f σ n x B 6).1 ∧ K x = (bk_f σ n x B 6).2) ∧ (0 ≤ B x ∧ B x ≤ (n + 1 - x) * 1000000)
/-- the logs l stand from s up to e as the kinds K say -/
def bk_D (σ : zs_S) (K : Int → Int) : List (Int × Int) → Int → Int → Prop
  | [], s, e => s ≤ e ∧ ∀ x, s ≤ x → x < e → K x = -1
  | q :: r, s, e => s ≤ q.1 ∧ (∀ x, s ≤ x → x < q.1 → K x = -1) ∧ K q.1 = q.2 ∧ q.2 ≠ -1 ∧ bk_D σ K r (q.1 + bk_n σ q.2 + 1) e
theorem bk_Dn {σ : zs_S} {K : Int → Int} : ∀ {l : List (Int × Int)} {s e : Int}, bk_D σ K l s e → K e = -1 → bk_D σ K l s (e + 1)
  | [], s, e, ⟨h1, h2⟩, h => ⟨by omega, fun x a b => by
    rcases (show x < e ∨ x = e by omega) with c | c
    · exact h2 x a c
    · rw [c]; exact h⟩
  | q :: r, s, e, ⟨h1, h2, h3, h4, h5⟩, h => ⟨h1, h2, h3, h4, bk_Dn h5 h⟩
theorem bk_Dy {σ : zs_S} {K : Int → Int} : ∀ {l : List (Int × Int)} {s e : Int}, bk_D σ K l s e → K e ≠ -1 → bk_D σ K (l ++ [(e, K e)]) s (e + bk_n σ (K e) + 1)
  | [], s, e, ⟨h1, h2⟩, h => ⟨h1, h2, rfl, h, Int.le_refl _, fun x a b => absurd b (by dsimp only at a b ⊢; omega)⟩
  | q :: r, s, e, ⟨h1, h2, h3, h4, h5⟩, h => ⟨h1, h2, h3, h4, bk_Dy h5 h⟩
theorem bk_Du {σ : zs_S} {K : Int → Int} : ∀ {l m : List (Int × Int)} {s e : Int}, bk_D σ K l s e → bk_D σ K m s e → (∀ q ∈ l, q.1 < e) → (∀ q ∈ m, q.1 < e) → l = m
  | [], [], _, _, _, _, _, _ => rfl
  | [], q :: r, s, e, ⟨h1, h2⟩, ⟨g1, g2, g3, g4, g5⟩, _, gm => absurd (h2 q.1 g1 (gm q List.mem_cons_self)) (by rw [g3]; exact g4)
  | q :: r, [], s, e, ⟨h1, h2, h3, h4, h5⟩, ⟨g1, g2⟩, hm, _ => absurd (g2 q.1 h1 (hm q List.mem_cons_self)) (by rw [h3]; exact h4)
  | q :: r, u :: w, s, e, ⟨h1, h2, h3, h4, h5⟩, ⟨g1, g2, g3, g4, g5⟩, hm, gm => by
    have e1 : q.1 = u.1 := by
      rcases Int.lt_trichotomy q.1 u.1 with c | c | c
      · exact absurd (g2 q.1 h1 c) (by rw [h3]; exact h4)
      · exact c
      · exact absurd (h2 u.1 g1 c) (by rw [g3]; exact g4)
    have e2 : q.2 = u.2 := by rw [← h3, ← g3, e1]
    have e3 : q = u := Prod.ext e1 e2
    subst e3
    rw [bk_Du h5 g5 (fun z hz => hm z (List.mem_cons_of_mem _ hz)) (fun z hz => gm z (List.mem_cons_of_mem _ hz))]
/-- the facts of the logs l, one behind the other -/
def bk_R (σ : zs_S) (A : Int → Int) (l : List (Int × Int)) : Prop := ∀ (i : Nat) (p j : Int), l[i]? = some (p, j) → bk_e σ A i p j
theorem bk_Rc {σ : zs_S} {A A' : Int → Int} {l : List (Int × Int)} (h : bk_R σ A l) (hA : ∀ i, 0 ≤ i → i < (l.length : Int) * 6 → A' i = A i) : bk_R σ A' l := by
  intro i p j hi
  have hl := (List.getElem?_eq_some_iff.mp hi).1
  obtain ⟨a, b, c, d, e, f⟩ := h i p j hi
  exact ⟨by rw [hA _ (by omega) (by omega)]; exact a, by rw [hA _ (by omega) (by omega)]; exact b, by rw [hA _ (by omega) (by omega)]; exact c, by rw [hA _ (by omega) (by omega)]; exact d, by rw [hA _ (by omega) (by omega)]; exact e, by rw [hA _ (by omega) (by omega)]; exact f⟩
theorem bk_Ra {σ : zs_S} {A A' : Int → Int} {l : List (Int × Int)} {p j : Int} (h : bk_R σ A l) (hA : ∀ i, 0 ≤ i → i < (l.length : Int) * 6 → A' i = A i) (he : bk_e σ A' (l.length : Int) p j) : bk_R σ A' (l ++ [(p, j)]) := by
  intro i p' j' hi
  by_cases hl : i < l.length
  · rw [List.getElem?_append_left hl] at hi
    exact bk_Rc h hA i p' j' hi
  · rw [List.getElem?_append_right (by omega)] at hi
    have hz : i - l.length < 1 := (List.getElem?_eq_some_iff.mp hi).1
    have e0 : i = l.length := by omega
    subst e0
    rw [Nat.sub_self] at hi
    cases hi
    exact he
