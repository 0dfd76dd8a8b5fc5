/-! THE MATHEMATICS OF THE CLASS, part A -/
theorem zi_sq {x : Int} (h0 : 0 ≤ x) (h1 : x ≤ 16384) : zi_r (x * x) := by
  have h2 : 0 ≤ x * x := Int.mul_nonneg h0 h0
  have h3 : x * x ≤ 16384 * 16384 := Int.mul_le_mul h1 h1 h0 (by decide)
  exact ⟨by omega, by omega⟩
/-- the root by bits: from bit k - 1 down, on top of r -/
def ro_r (sq : Int) : Nat → Int → Int
  | 0, r => r
  | k + 1, r => if (r + 2 ^ k) * (r + 2 ^ k) ≤ sq then ro_r sq k (r + 2 ^ k) else ro_r sq k r
/-- the other side of the largest rectangle with side b in a circle a across -/
def ro_m (a b : Int) : Int := if a * a - b * b < 0 then -1 else ro_r (a * a - b * b) 14 0
theorem ro_n {sq r bit : Int} {j : Nat} (hj : bit = 2 ^ j) (h : sq < (r + bit) * (r + bit)) : ro_r sq (j + 1) r = ro_r sq j r := by
  subst hj
  simp only [ro_r]
  rw [if_neg (by omega)]
theorem ro_y {sq r bit : Int} {j : Nat} (hj : bit = 2 ^ j) (h : ¬ sq < (r + bit) * (r + bit)) : ro_r sq (j + 1) r = ro_r sq j (r + bit) := by
  subst hj
  simp only [ro_r]
  rw [if_pos (by omega)]
/-- the bit that stands at step k -/
def ro_k (k : Nat) (bit : Int) : Prop := (k = 0 ∧ bit = 0) ∨ ∃ j, k = j + 1 ∧ bit = 2 ^ j
theorem ro_h {j : Nat} {bit : Int} (h : bit = 2 ^ j) : ro_k j (bit / 2) := by
  subst h
  cases j with
  | zero => exact Or.inl ⟨rfl, by decide⟩
  | succ j => exact Or.inr ⟨j, rfl, by rw [Int.pow_succ, Int.mul_ediv_cancel _ (by decide)]⟩
theorem ro_e {k : Nat} {bit : Int} (h : ro_k k bit) (h0 : 0 < bit) : ∃ j, k = j + 1 ∧ bit = 2 ^ j := by
  rcases h with ⟨-, h⟩ | h
  · omega
  · exact h
theorem ro_z {k : Nat} {bit : Int} (h : ro_k k bit) (h0 : bit ≤ 0) : k = 0 := by
  rcases h with ⟨h, -⟩ | ⟨j, -, h⟩
  · exact h
  · have : (0 : Int) < 2 ^ j := Int.pow_pos (by decide)
    omega
theorem ro_hd (j : Nat) : ((2 : Int) ^ j) / 2 + ((2 : Int) ^ j) / 2 ≤ 2 ^ j := by omega
/-- what the root is: r² ≤ sq < (r + 1)² -/
theorem ro_rs (sq : Int) : ∀ (k : Nat) (r : Int), 0 ≤ r → r * r ≤ sq → sq < (r + 2 ^ k) * (r + 2 ^ k) → 0 ≤ ro_r sq k r ∧ ro_r sq k r * ro_r sq k r ≤ sq ∧ sq < (ro_r sq k r + 1) * (ro_r sq k r + 1)
  | 0, r, h0, h1, h2 => ⟨h0, h1, by simpa [ro_r] using h2⟩
  | k + 1, r, h0, h1, h2 => by
    have hp : (0 : Int) < 2 ^ k := Int.pow_pos (by decide)
    simp only [ro_r]
    by_cases h : (r + 2 ^ k) * (r + 2 ^ k) ≤ sq
    · rw [if_pos h]
      refine ro_rs sq k (r + 2 ^ k) (by omega) h ?_
      rw [Int.pow_succ] at h2
      rw [show r + 2 ^ k + 2 ^ k = r + 2 ^ k * 2 by omega]
      exact h2
    · rw [if_neg h]
      exact ro_rs sq k r h0 h1 (by omega)
/-- the least of k diameters from a on, 900 at most; the worst of k grades from a on, 1 at least -/
def lo_t (d : Int → Int) (a : Int) : Nat → Int
  | 0 => 900
  | k + 1 => min (lo_t d a k) (d (a + k))
def hi_t (d : Int → Int) (a : Int) : Nat → Int
  | 0 => 1
  | k + 1 => max (hi_t d a k) (d (a + k))
theorem lo_s {d : Int → Int} {a p : Int} (h : a ≤ p) : lo_t d a (p + 1 - a).toNat = min (lo_t d a (p - a).toNat) (d p) := by
  rw [show (p + 1 - a).toNat = (p - a).toNat + 1 by omega, lo_t, show a + ((p - a).toNat : Int) = p by omega]
theorem hi_s {d : Int → Int} {a p : Int} (h : a ≤ p) : hi_t d a (p + 1 - a).toNat = max (hi_t d a (p - a).toNat) (d p) := by
  rw [show (p + 1 - a).toNat = (p - a).toNat + 1 by omega, hi_t, show a + ((p - a).toNat : Int) = p by omega]
theorem lo_0 {d : Int → Int} {a : Int} : lo_t d a (a - a).toNat = 900 := by rw [show (a - a).toNat = 0 by omega]; rfl
theorem hi_0 {d : Int → Int} {a : Int} : hi_t d a (a - a).toNat = 1 := by rw [show (a - a).toNat = 0 by omega]; rfl
theorem lo_b {d : Int → Int} {a b : Int} (h : ∀ p, a ≤ p → p ≤ b → 50 ≤ d p ∧ d p ≤ 900) : ∀ k : Nat, a + k ≤ b + 1 → 50 ≤ lo_t d a k ∧ lo_t d a k ≤ 900
  | 0, _ => ⟨by simp [lo_t], by simp [lo_t]⟩
  | k + 1, hk => by
    have h1 := lo_b h k (by omega)
    have h2 := h (a + k) (by omega) (by omega)
    rw [lo_t]
    omega
theorem hi_b {d : Int → Int} {a b : Int} (h : ∀ p, a ≤ p → p ≤ b → 1 ≤ d p ∧ d p ≤ 3) : ∀ k : Nat, a + k ≤ b + 1 → 1 ≤ hi_t d a k ∧ hi_t d a k ≤ 3
  | 0, _ => ⟨by simp [hi_t], by simp [hi_t]⟩
  | k + 1, hk => by
    have h1 := hi_b h k (by omega)
    have h2 := h (a + k) (by omega) (by omega)
    rw [hi_t]
    omega
theorem lo_c {d e : Int → Int} {a : Int} : ∀ {k : Nat}, (∀ p, a ≤ p → p < a + k → d p = e p) → lo_t d a k = lo_t e a k
  | 0, _ => rfl
  | k + 1, h => by rw [lo_t, lo_t, lo_c (fun p h1 h2 => h p h1 (by omega)), h (a + k) (by omega) (by omega)]
theorem hi_c {d e : Int → Int} {a : Int} : ∀ {k : Nat}, (∀ p, a ≤ p → p < a + k → d p = e p) → hi_t d a k = hi_t e a k
  | 0, _ => rfl
  | k + 1, h => by rw [hi_t, hi_t, hi_c (fun p h1 h2 => h p h1 (by omega)), h (a + k) (by omega) (by omega)]
/-! what holds of the stem and the kinds: s_ -/
/-- the stem's last point, diameters, grades -/
def ks_s (σ : zs_S) (n : Int) : Prop := 1 ≤ n ∧ n ≤ 80 ∧ σ 2 0 = n ∧ (∀ p, 0 ≤ p → p ≤ n → 50 ≤ σ 3 p ∧ σ 3 p ≤ 900) ∧ (∀ p, 0 ≤ p → p ≤ n → 1 ≤ σ 4 p ∧ σ 4 p ≤ 3)
/-- the kinds: length 0 .. 60, least top, prices -/
def ks_k (σ : zs_S) : Prop := ∀ j : Int, 0 ≤ j → j < 6 → (0 ≤ σ (8 + 2 * j.toNat) 0 ∧ σ (8 + 2 * j.toNat) 0 ≤ 60) ∧ (0 ≤ σ (8 + 2 * j.toNat) 1 ∧ σ (8 + 2 * j.toNat) 1 ≤ 900) ∧ ∀ i, 0 ≤ i → i < 57 → 0 ≤ σ (9 + 2 * j.toNat) i ∧ σ (9 + 2 * j.toNat) i ≤ 1000000
theorem ks_sx {σ τ : zs_S} {n : Int} (h : ks_s σ n) (h2 : ∀ i, τ 2 i = σ 2 i) (h3 : ∀ i, τ 3 i = σ 3 i) (h4 : ∀ i, τ 4 i = σ 4 i) : ks_s τ n := by
  obtain ⟨a, b, c, d, e⟩ := h
  exact ⟨a, b, by rw [h2]; exact c, fun p x y => by rw [h3]; exact d p x y, fun p x y => by rw [h4]; exact e p x y⟩
theorem ks_kx {σ τ : zs_S} (h : ks_k σ) (h1 : ∀ c, 8 ≤ c → c ≤ 19 → ∀ i, τ c i = σ c i) : ks_k τ := by
  intro j a b
  obtain ⟨x, y, z⟩ := h j a b
  refine ⟨by rw [h1 _ (by omega) (by omega)]; exact x, by rw [h1 _ (by omega) (by omega)]; exact y, fun i p q => by rw [h1 _ (by omega) (by omega)]; exact z i p q⟩
/-- the arrays tops and worst are those of a look from f -/
def ks_l (σ : zs_S) (n f : Int) : Prop := ∀ j, 0 ≤ j → j ≤ n - f → σ 5 j = lo_t (σ 3) f (j + 1).toNat ∧ σ 6 j = hi_t (σ 4) f (j + 1).toNat
/-- a log of kind j from p: its length, whether it is allowed, its top, grade and price -/
abbrev bk_n (σ : zs_S) (j : Int) : Int := σ (8 + 2 * j.toNat) 0
abbrev bk_t (σ : zs_S) (p j : Int) : Int := lo_t (σ 3) p (bk_n σ j + 1).toNat
abbrev bk_g (σ : zs_S) (p j : Int) : Int := hi_t (σ 4) p (bk_n σ j + 1).toNat
abbrev bk_a (σ : zs_S) (n p j : Int) : Prop := 0 < bk_n σ j ∧ p + bk_n σ j ≤ n ∧ σ (8 + 2 * j.toNat) 1 ≤ bk_t σ p j
abbrev bk_v (σ : zs_S) (p j : Int) : Int := σ (9 + 2 * j.toNat) (bk_t σ p j / 50 * 3 + bk_g σ p j - 1)
/-- the price from a look, -1 where no log is allowed -/
def bk_p (σ : zs_S) (n p j : Int) : Int := if bk_a σ n p j then bk_v σ p j else -1
theorem bk_pc {σ τ : zs_S} {n p j : Int} (h3 : ∀ i, τ 3 i = σ 3 i) (h4 : ∀ i, τ 4 i = σ 4 i) (hj : 0 ≤ j ∧ j < 6) (h1 : ∀ c, 8 ≤ c → c ≤ 19 → ∀ i, τ c i = σ c i) : bk_p τ n p j = bk_p σ n p j ∧ bk_n τ j = bk_n σ j ∧ bk_t τ p j = bk_t σ p j ∧ bk_g τ p j = bk_g σ p j := by
  have e1 : bk_n τ j = bk_n σ j := h1 _ (by omega) (by omega) _
  have e2 : bk_t τ p j = bk_t σ p j := by
    show lo_t (τ 3) p (bk_n τ j + 1).toNat = _
    rw [e1]; exact lo_c (fun q _ _ => h3 q)
  have e3 : bk_g τ p j = bk_g σ p j := by
    show hi_t (τ 4) p (bk_n τ j + 1).toNat = _
    rw [e1]; exact hi_c (fun q _ _ => h4 q)
  refine ⟨?_, e1, e2, e3⟩
  unfold bk_p bk_a bk_v
  rw [e1, e2, e3, h1 (8 + 2 * j.toNat) (by omega) (by omega), h1 (9 + 2 * j.toNat) (by omega) (by omega)]
