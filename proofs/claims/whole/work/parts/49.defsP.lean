/-! CLASS AND REFERENCE, part E: the boards -/
/-- boards of a row, of a stack: size, where, place -/
def bo_r (st : Int → Int) : List Int → Int → List (Int × Int × Int)
  | [], _ => []
  | k :: r, x => (k, 0, x) :: bo_r st r (x + st k)
def bo_s (st : Int → Int) (w face : Int) : List Int → Int → List (Int × Int × Int)
  | [], _ => []
  | k :: r, x => (k, w, face + 2 * (x + st k)) :: bo_s st w face r (x + st k)
theorem bo_ra (st : Int → Int) (k : Int) : ∀ (l : List Int) (x : Int), bo_r st (l ++ [k]) x = bo_r st l x ++ [(k, 0, x + ch_t st l)]
  | [], x => by simp [bo_r, ch_t]
  | q :: r, x => by
    rw [List.cons_append, bo_r, bo_r, bo_ra st k r, List.cons_append, ch_t, show x + st q + ch_t st r = x + (st q + ch_t st r) by omega]
theorem bo_sa (st : Int → Int) (w face k : Int) : ∀ (l : List Int) (x : Int), bo_s st w face (l ++ [k]) x = bo_s st w face l x ++ [(k, w, face + 2 * (x + ch_t st l + st k))]
  | [], x => by simp [bo_s, ch_t]
  | q :: r, x => by
    rw [List.cons_append, bo_s, bo_s, bo_sa st w face k r, List.cons_append, ch_t, show x + st q + ch_t st r = x + (st q + ch_t st r) by omega]
theorem bo_rl (st : Int → Int) : ∀ (l : List Int) (x : Int), (bo_r st l x).length = l.length
  | [], _ => rfl
  | q :: r, x => by rw [bo_r, List.length_cons, bo_rl st r, List.length_cons]
theorem bo_sl (st : Int → Int) (w face : Int) : ∀ (l : List Int) (x : Int), (bo_s st w face l x).length = l.length
  | [], _ => rfl
  | q :: r, x => by rw [bo_s, List.length_cons, bo_sl st w face r, List.length_cons]
theorem bo_rg (st : Int → Int) : ∀ (l : List Int) (x : Int) (i : Nat) (k : Int), l[i]? = some k → (bo_r st l x)[i]? = some (k, 0, x + ch_t st (l.take i))
  | [], _, i, k, h => by simp at h
  | q :: r, x, 0, k, h => by
    simp at h
    subst h
    simp [bo_r, ch_t]
  | q :: r, x, i + 1, k, h => by
    rw [List.getElem?_cons_succ] at h
    rw [bo_r, List.getElem?_cons_succ, bo_rg st r _ i k h, List.take_succ_cons, ch_t, show x + st q + ch_t st (r.take i) = x + (st q + ch_t st (r.take i)) by omega]
theorem bo_sg (st : Int → Int) (w face : Int) : ∀ (l : List Int) (x : Int) (i : Nat) (k : Int), l[i]? = some k → (bo_s st w face l x)[i]? = some (k, w, face + 2 * (x + ch_t st (l.take (i + 1))))
  | [], _, i, k, h => by simp at h
  | q :: r, x, 0, k, h => by
    simp at h
    subst h
    simp [bo_s, ch_t]
  | q :: r, x, i + 1, k, h => by
    rw [List.getElem?_cons_succ] at h
    rw [bo_s, List.getElem?_cons_succ, bo_sg st w face r _ i k h, List.take_succ_cons, ch_t, show x + st q + ch_t st (r.take (i + 1)) = x + (st q + ch_t st (r.take (i + 1))) by omega]
/-- how many boards are of size y -/
def bo_n (y : Int) : List (Int × Int × Int) → Int
  | [] => 0
  | b :: r => (if b.1 = y then 1 else 0) + bo_n y r
theorem bo_na (y : Int) : ∀ l m : List (Int × Int × Int), bo_n y (l ++ m) = bo_n y l + bo_n y m
  | [], m => by simp [bo_n]
  | b :: r, m => by rw [List.cons_append, bo_n, bo_n, bo_na y r m]; omega
theorem bo_nr (st : Int → Int) (y : Int) : ∀ (l : List Int) (x : Int), bo_n y (bo_r st l x) = ln_n y l
  | [], _ => rfl
  | q :: r, x => by rw [bo_r, bo_n, ln_n, bo_nr st y r]
theorem bo_ns (st : Int → Int) (w face y : Int) : ∀ (l : List Int) (x : Int), bo_n y (bo_s st w face l x) = ln_n y l
  | [], _ => rfl
  | q :: r, x => by rw [bo_s, bo_n, ln_n, bo_ns st w face y r]
/-- the boards L stand in A -/
def bo_R (A pr : Int → Int) (L : List (Int × Int × Int)) : Prop := ∀ (i : Nat) (k w x : Int), L[i]? = some (k, w, x) → A (4 * i) = k ∧ A (4 * i + 1) = w ∧ A (4 * i + 2) = x ∧ A (4 * i + 3) = pr k
/-- what put does at c -/
def bo_P (σ τ : zs_S) (c k w x : Int) : Prop := τ 67 20 = c + 1 ∧ (∀ y, y < 4 * c → τ 83 y = σ 83 y) ∧ (τ 83 (4 * c) = k ∧ τ 83 (4 * c + 1) = w ∧ τ 83 (4 * c + 2) = x ∧ τ 83 (4 * c + 3) = σ 84 k) ∧ (∀ y, y ≠ 20 → τ 67 y = σ 67 y) ∧ zf_x σ τ [67, 83]
theorem bo_Ra {σ τ : zs_S} {pr : Int → Int} {L : List (Int × Int × Int)} {k w x : Int} (hR : bo_R (σ 83) pr L) (hP : bo_P σ τ L.length k w x) (hp : σ 84 k = pr k) : bo_R (τ 83) pr (L ++ [(k, w, x)]) := by
  obtain ⟨-, p2, ⟨q1, q2, q3, q4⟩, -, -⟩ := hP
  intro i k' w' x' hi
  by_cases hl : i < L.length
  · rw [List.getElem?_append_left hl] at hi
    rw [p2 _ (by omega), p2 _ (by omega), p2 _ (by omega), p2 _ (by omega)]
    exact hR i k' w' x' hi
  · rw [List.getElem?_append_right (by omega)] at hi
    have hz : i - L.length < 1 := (List.getElem?_eq_some_iff.mp hi).1
    have e0 : i = L.length := by omega
    subst e0
    rw [Nat.sub_self] at hi
    cases hi
    exact ⟨q1, q2, q3, by rw [q4]; exact hp⟩
/-- a list of sizes in an array from o on, ended by -1 -/
def bo_A (A : Int → Int) (o : Int) (l : List Int) : Prop := (∀ (j : Nat) (x : Int), l[j]? = some x → A (o + j) = x) ∧ A (o + l.length) = -1
theorem bo_Ag {A : Int → Int} {o : Int} {la lc : List Int} {x : Int} (h : bo_A A o (la ++ x :: lc)) : A (o + la.length) = x := h.1 la.length x (by rw [List.getElem?_append_right (Nat.le_refl _), Nat.sub_self]; rfl)
theorem bo_Ae {A : Int → Int} {o : Int} {la : List Int} (h : bo_A A o (la ++ [])) : A (o + la.length) = -1 := by
  have := h.2
  rwa [List.append_nil] at this
theorem bo_l1 {α : Type} (L : List α) (b : α) : ((L ++ [b]).length : Int) = L.length + 1 := by simp
