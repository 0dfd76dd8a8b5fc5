/-! THE MATHEMATICS OF THE CLASS, part B: bucking -/
theorem bk_tb {σ : zs_S} {n p j : Int} (hS : ks_s σ n) (hp : 0 ≤ p) (h : bk_a σ n p j) : (50 ≤ bk_t σ p j ∧ bk_t σ p j ≤ 900) ∧ (1 ≤ bk_g σ p j ∧ bk_g σ p j ≤ 3) := by
  obtain ⟨hn1, hn2, hlast, hd, hgd⟩ := hS
  obtain ⟨h1, h2, h3⟩ := h
  have h1' : 0 < σ (8 + 2 * j.toNat) 0 := h1
  have h2' : p + σ (8 + 2 * j.toNat) 0 ≤ n := h2
  exact ⟨lo_b (a := p) (b := n) (fun q x y => hd q (by omega) y) _ (by show p + (((σ (8 + 2 * j.toNat) 0 + 1).toNat : Nat) : Int) ≤ n + 1; omega), hi_b (a := p) (b := n) (fun q x y => hgd q (by omega) y) _ (by show p + (((σ (8 + 2 * j.toNat) 0 + 1).toNat : Nat) : Int) ≤ n + 1; omega)⟩
theorem bk_vb {σ : zs_S} {n p j : Int} (hS : ks_s σ n) (hK : ks_k σ) (hj : 0 ≤ j ∧ j < 6) (hp : 0 ≤ p) (h : bk_a σ n p j) : 0 ≤ bk_v σ p j ∧ bk_v σ p j ≤ 1000000 := by
  obtain ⟨⟨a, b⟩, c, d⟩ := bk_tb hS hp h
  exact (hK j hj.1 hj.2).2.2 _ (by omega) (by omega)
theorem bk_pp {σ : zs_S} {n p j : Int} (h : bk_a σ n p j) : bk_p σ n p j = bk_v σ p j := if_pos h
theorem bk_pn {σ : zs_S} {n p j : Int} (h : ¬ bk_a σ n p j) : bk_p σ n p j = -1 := if_neg h
theorem bk_pr {σ : zs_S} {n p j : Int} (hS : ks_s σ n) (hK : ks_k σ) (hj : 0 ≤ j ∧ j < 6) (hp : 0 ≤ p) : -1 ≤ bk_p σ n p j ∧ bk_p σ n p j ≤ 1000000 := by
  by_cases h : bk_a σ n p j
  · rw [bk_pp h]
    have := bk_vb hS hK hj hp h
    omega
  · rw [bk_pn h]
    omega
theorem bk_pa {σ : zs_S} {n p j : Int} (h : ¬ bk_p σ n p j = -1) : bk_a σ n p j := Classical.byContradiction fun q => h (bk_pn q)
theorem bk_pz {σ : zs_S} {n p j : Int} (hS : ks_s σ n) (hK : ks_k σ) (hj : 0 ≤ j ∧ j < 6) (hp : 0 ≤ p) (h : bk_p σ n p j = -1) : ¬ bk_a σ n p j := fun q => by
  have := bk_vb hS hK hj hp q
  rw [bk_pp q] at h
  omega
theorem bk_ac {σ τ : zs_S} {n p j : Int} (h3 : ∀ i, τ 3 i = σ 3 i) (h4 : ∀ i, τ 4 i = σ 4 i) (hj : 0 ≤ j ∧ j < 6) (h1 : ∀ c, 8 ≤ c → c ≤ 19 → ∀ i, τ c i = σ c i) : (bk_a τ n p j ↔ bk_a σ n p j) ∧ bk_v τ p j = bk_v σ p j := by
  obtain ⟨-, e1, e2, e3⟩ := bk_pc (n := n) (p := p) h3 h4 hj h1
  unfold bk_a bk_v
  rw [e1, e2, e3, h1 (8 + 2 * j.toNat) (by omega) (by omega), h1 (9 + 2 * j.toNat) (by omega) (by omega)]
  exact ⟨Iff.rfl, rfl⟩
/-- the facts of a log -/
def bk_e (σ : zs_S) (A : Int → Int) (c p j : Int) : Prop := A (c * 6 + 0) = p ∧ A (c * 6 + 1) = j ∧ A (c * 6 + 2) = bk_t σ p j ∧ A (c * 6 + 3) = bk_t σ p j / 50 ∧ A (c * 6 + 4) = bk_g σ p j ∧ A (c * 6 + 5) = bk_v σ p j
/-- the best value of logs from p on, and the kind that begins there, over the first m kinds; B: the best values behind p -/
def bk_f (σ : zs_S) (n p : Int) (B : Int → Int) : Nat → Int × Int
  | 0 => (B (p + 1), -1)
  | m + 1 => if bk_a σ n p m ∧ (bk_f σ n p B m).1 < bk_v σ p m + B (p + bk_n σ m + 1) then (bk_v σ p m + B (p + bk_n σ m + 1), (m : Int)) else bk_f σ n p B m
theorem bk_fy {σ : zs_S} {n p : Int} {B : Int → Int} {m : Nat} (h : bk_a σ n p m ∧ (bk_f σ n p B m).1 < bk_v σ p m + B (p + bk_n σ m + 1)) : bk_f σ n p B (m + 1) = (bk_v σ p m + B (p + bk_n σ m + 1), (m : Int)) := by
  rw [bk_f]; exact if_pos h
theorem bk_fn {σ : zs_S} {n p : Int} {B : Int → Int} {m : Nat} (h : ¬ (bk_a σ n p m ∧ (bk_f σ n p B m).1 < bk_v σ p m + B (p + bk_n σ m + 1))) : bk_f σ n p B (m + 1) = bk_f σ n p B m := by
  rw [bk_f]; exact if_neg h
/-- best values are bounded by what the points could bear -/
def bk_b (n p : Int) (B : Int → Int) : Prop := ∀ x, p < x → x ≤ n + 1 → 0 ≤ B x ∧ B x ≤ (n + 1 - x) * 1000000
theorem bk_fb {σ : zs_S} {n p : Int} {B : Int → Int} (hS : ks_s σ n) (hK : ks_k σ) (hp : 0 ≤ p ∧ p ≤ n) (hB : bk_b n p B) : ∀ m : Nat, m ≤ 6 → (0 ≤ (bk_f σ n p B m).1 ∧ (bk_f σ n p B m).1 ≤ (n + 1 - p) * 1000000) ∧ (-1 ≤ (bk_f σ n p B m).2 ∧ (bk_f σ n p B m).2 < 6)
  | 0, _ => by
    have h := hB (p + 1) (by omega) (by omega)
    simp only [bk_f]
    omega
  | m + 1, hm => by
    have ih := bk_fb hS hK hp hB m (by omega)
    by_cases h : bk_a σ n p m ∧ (bk_f σ n p B m).1 < bk_v σ p m + B (p + bk_n σ m + 1)
    · rw [bk_fy h]
      have hv := bk_vb hS hK (j := (m : Int)) ⟨by omega, by omega⟩ hp.1 h.1
      have a1 : 0 < σ (8 + 2 * (m : Int).toNat) 0 := h.1.1
      have a2 : p + σ (8 + 2 * (m : Int).toNat) 0 ≤ n := h.1.2.1
      have h2 := hB (p + bk_n σ m + 1) (by show p < p + σ (8 + 2 * (m : Int).toNat) 0 + 1; omega) (by show p + σ (8 + 2 * (m : Int).toNat) 0 + 1 ≤ n + 1; omega)
      refine ⟨⟨by omega, ?_⟩, by dsimp only; omega, by dsimp only; omega⟩
      have h3 : bk_n σ m = σ (8 + 2 * (m : Int).toNat) 0 := rfl
      dsimp only
      omega
    · rw [bk_fn h]
      exact ih
theorem bk_fc {σ τ : zs_S} {n p : Int} {B E : Int → Int} (h3 : ∀ i, τ 3 i = σ 3 i) (h4 : ∀ i, τ 4 i = σ 4 i) (h1 : ∀ c, 8 ≤ c → c ≤ 19 → ∀ i, τ c i = σ c i) (hp : p ≤ n) (hB : ∀ x, p < x → x ≤ n + 1 → E x = B x) : ∀ m : Nat, m ≤ 6 → bk_f τ n p E m = bk_f σ n p B m
  | 0, _ => by simp only [bk_f]; rw [hB (p + 1) (by omega) (by omega)]
  | m + 1, hm => by
    have ih := bk_fc h3 h4 h1 hp hB m (by omega)
    obtain ⟨-, e1, -, -⟩ := bk_pc (n := n) (p := p) (j := (m : Int)) h3 h4 ⟨by omega, by omega⟩ h1
    obtain ⟨ea, ev⟩ := bk_ac (n := n) (p := p) (j := (m : Int)) h3 h4 ⟨by omega, by omega⟩ h1
    by_cases ha : bk_a σ n p m
    · have a1 : 0 < bk_n σ m := ha.1
      have a2 : p + bk_n σ m ≤ n := ha.2.1
      have hE := hB (p + bk_n σ m + 1) (by omega) (by omega)
      by_cases h : (bk_f σ n p B m).1 < bk_v σ p m + B (p + bk_n σ m + 1)
      · rw [bk_fy ⟨ha, h⟩, bk_fy ⟨ea.mpr ha, by rw [ih, ev, e1, hE]; exact h⟩, ev, e1, hE]
      · rw [bk_fn (fun z => h z.2), bk_fn (fun z => h (by have z2 := z.2; rw [ih, ev, e1, hE] at z2; exact z2)), ih]
    · rw [bk_fn (fun z => ha z.1), bk_fn (fun z => ha (ea.mp z.1)), ih]
