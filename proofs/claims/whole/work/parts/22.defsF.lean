/-! THE MATHEMATICS OF THE CLASS, part F: a chain of boards -/
/-- what a chain needs of its steps, prices and limits -/
def ch_I (σ : zs_S) : Prop := ∀ k : Int, 0 ≤ k → k < 6 → (0 ≤ σ 46 k ∧ σ 46 k ≤ 4100) ∧ (0 ≤ σ 47 k ∧ σ 47 k ≤ 1100000) ∧ (-1 ≤ σ 48 k ∧ σ 48 k ≤ 9100) ∧ (0 ≤ σ 48 k → 50 ≤ σ 46 k ∧ 0 < σ 47 k)
/-- no place holds a mark, and none is too great -/
def ch_J (σ : zs_S) : Prop := ∀ x : Int, 0 ≤ x → x ≤ 9100 → 0 ≤ σ 49 x ∧ σ 49 x ≤ 201300000
def ch_m (li : Int → Int) : Nat → Int
  | 0 => 0
  | m + 1 => max (ch_m li m) (li m)
theorem ch_ms {li : Int → Int} {k : Int} (h : 0 ≤ k) : ch_m li (k + 1).toNat = max (ch_m li k.toNat) (li k) := by
  rw [show (k + 1).toNat = k.toNat + 1 by omega, ch_m, show ((k.toNat : Nat) : Int) = k by omega]
theorem ch_mb {li : Int → Int} (h : ∀ k : Int, 0 ≤ k → k < 6 → li k ≤ 9100) : ∀ m : Nat, m ≤ 6 → 0 ≤ ch_m li m ∧ ch_m li m ≤ 9100 ∧ ∀ k : Int, 0 ≤ k → k < m → li k ≤ ch_m li m
  | 0, _ => ⟨by simp [ch_m], by simp [ch_m], fun k a b => absurd b (by omega)⟩
  | m + 1, hm => by
    obtain ⟨a, b, c⟩ := ch_mb h m (by omega)
    have d := h m (by omega) (by omega)
    rw [ch_m]
    refine ⟨by omega, by omega, fun k x y => ?_⟩
    rcases (show k < (m : Int) ∨ k = m by omega) with z | z
    · have := c k x z
      omega
    · subst z
      omega
/-- the most that can be gained from x on, over the first m sizes -/
def ch_f (st pr li G : Int → Int) (x : Int) : Nat → Int
  | 0 => 0
  | m + 1 => if x + st m ≤ li m then max (ch_f st pr li G x m) (pr m + G (x + st m)) else ch_f st pr li G x m
theorem ch_fy {st pr li G : Int → Int} {x k : Int} (h0 : 0 ≤ k) (h : x + st k ≤ li k) : ch_f st pr li G x (k + 1).toNat = max (ch_f st pr li G x k.toNat) (pr k + G (x + st k)) := by
  rw [show (k + 1).toNat = k.toNat + 1 by omega, ch_f, show ((k.toNat : Nat) : Int) = k by omega]
  exact if_pos h
theorem ch_fn {st pr li G : Int → Int} {x k : Int} (h0 : 0 ≤ k) (h : ¬ x + st k ≤ li k) : ch_f st pr li G x (k + 1).toNat = ch_f st pr li G x k.toNat := by
  rw [show (k + 1).toNat = k.toNat + 1 by omega, ch_f, show ((k.toNat : Nat) : Int) = k by omega]
  exact if_neg h
theorem ch_fc {st pr li G E : Int → Int} {x : Int} : ∀ {m : Nat}, (∀ k : Int, 0 ≤ k → k < m → x + st k ≤ li k → G (x + st k) = E (x + st k)) → ch_f st pr li G x m = ch_f st pr li E x m
  | 0, _ => rfl
  | m + 1, h => by
    have ih := ch_fc (pr := pr) (G := G) (E := E) (m := m) (fun k a b => h k a (by omega))
    by_cases c : x + st m ≤ li m
    · rw [ch_f, ch_f, if_pos c, if_pos c, ih, h m (by omega) (by omega) c]
    · rw [ch_f, ch_f, if_neg c, if_neg c, ih]
theorem ch_fb {st pr li G : Int → Int} {x : Int} (hx : 0 ≤ x ∧ x ≤ 9100) (hst : ∀ k : Int, 0 ≤ k → k < 6 → x + st k ≤ li k → 50 ≤ st k) (hpr : ∀ k : Int, 0 ≤ k → k < 6 → 0 ≤ pr k ∧ pr k ≤ 1100000) (hG : ∀ k : Int, 0 ≤ k → k < 6 → x + st k ≤ li k → 0 ≤ G (x + st k) ∧ 50 * G (x + st k) ≤ (9150 - (x + st k)) * 1100000) : ∀ m : Nat, m ≤ 6 → 0 ≤ ch_f st pr li G x m ∧ 50 * ch_f st pr li G x m ≤ (9150 - x) * 1100000
  | 0, _ => ⟨by simp [ch_f], by simp only [ch_f]; omega⟩
  | m + 1, hm => by
    have ih := ch_fb hx hst hpr hG m (by omega)
    by_cases c : x + st m ≤ li m
    · rw [ch_f, if_pos c]
      have h1 := hst m (by omega) (by omega) c
      have h2 := hpr m (by omega) (by omega)
      have h3 := hG m (by omega) (by omega) c
      omega
    · rw [ch_f, if_neg c]
      exact ih
/-- what the fold is: no size gives more, and nothing or some size gives so much -/
theorem ch_fs {st pr li G : Int → Int} {x : Int} : ∀ m : Nat, 0 ≤ ch_f st pr li G x m ∧ (∀ k : Int, 0 ≤ k → k < m → x + st k ≤ li k → pr k + G (x + st k) ≤ ch_f st pr li G x m) ∧ (ch_f st pr li G x m = 0 ∨ ∃ k : Int, 0 ≤ k ∧ k < m ∧ x + st k ≤ li k ∧ pr k + G (x + st k) = ch_f st pr li G x m)
  | 0 => ⟨by simp [ch_f], fun k a b => absurd b (by omega), Or.inl rfl⟩
  | m + 1 => by
    obtain ⟨h1, h2, h3⟩ := ch_fs (st := st) (pr := pr) (li := li) (G := G) (x := x) m
    by_cases c : x + st m ≤ li m
    · rw [ch_f, if_pos c]
      refine ⟨by omega, fun k a b d => ?_, ?_⟩
      · rcases (show k < (m : Int) ∨ k = m by omega) with z | z
        · have := h2 k a z d
          omega
        · subst z
          omega
      · by_cases e : pr m + G (x + st m) ≤ ch_f st pr li G x m
        · rw [show max (ch_f st pr li G x m) (pr m + G (x + st m)) = ch_f st pr li G x m by omega]
          rcases h3 with h3 | ⟨k, a, b, d⟩
          · exact Or.inl h3
          · exact Or.inr ⟨k, a, by omega, d⟩
        · exact Or.inr ⟨m, by omega, by omega, c, by omega⟩
    · rw [ch_f, if_neg c]
      refine ⟨h1, fun k a b d => ?_, ?_⟩
      · rcases (show k < (m : Int) ∨ k = m by omega) with z | z
        · exact h2 k a z d
        · subst z
          exact absurd d c
      · rcases h3 with h3 | ⟨k, a, b, d⟩
        · exact Or.inl h3
        · exact Or.inr ⟨k, a, by omega, d⟩
/-- size k may come next at x, and gains the most -/
abbrev ch_c (st pr li G : Int → Int) (x k : Int) : Prop := x + st k ≤ li k ∧ pr k + G (x + st k) = G x
/-- r is the lowest such size, -1 where there is none -/
def ch_k (st pr li G : Int → Int) (x r : Int) : Prop := (r = -1 ∧ ∀ k : Int, 0 ≤ k → k < 6 → ¬ ch_c st pr li G x k) ∨ (0 ≤ r ∧ r < 6 ∧ ch_c st pr li G x r ∧ ∀ k : Int, 0 ≤ k → k < r → ¬ ch_c st pr li G x k)
/-- places from 0 on that hold what can be gained: 0 is one of them, and what may follow one is one too -/
def ch_M (st li : Int → Int) (Mk : Int → Prop) : Prop := Mk 0 ∧ ∀ x, Mk x → (0 ≤ x ∧ x ≤ 9100) ∧ ∀ k : Int, 0 ≤ k → k < 6 → x + st k ≤ li k → Mk (x + st k)
def ch_S (σ : zs_S) : Prop := ∃ Mk : Int → Prop, ch_M (σ 46) (σ 48) Mk ∧ ∀ x, Mk x → σ 49 x = ch_f (σ 46) (σ 47) (σ 48) (σ 49) x 6
/-- the sizes l stand from x on: each the lowest of those that gain the most, none may follow the last -/
def ch_L (st pr li G : Int → Int) : List Int → Int → Prop
  | [], x => ∀ k : Int, 0 ≤ k → k < 6 → ¬ ch_c st pr li G x k
  | r :: l, x => (0 ≤ r ∧ r < 6) ∧ ch_c st pr li G x r ∧ (∀ k : Int, 0 ≤ k → k < r → ¬ ch_c st pr li G x k) ∧ ch_L st pr li G l (x + st r)
