/-! CLASS AND REFERENCE, part A: stem and kinds -/
/-- the worst grade of the first m defects that lie on a .. b -/
def gr_t (F T G : Int → Int) (a b : Int) : Nat → Int
  | 0 => 1
  | k + 1 => if F k ≤ b ∧ a ≤ T k then max (gr_t F T G a b k) (G k) else gr_t F T G a b k
theorem gr_y {F T G : Int → Int} {a b k : Int} (h0 : 0 ≤ k) (h : F k ≤ b ∧ a ≤ T k) : gr_t F T G a b (k + 1).toNat = max (gr_t F T G a b k.toNat) (G k) := by
  rw [show (k + 1).toNat = k.toNat + 1 by omega, gr_t, show ((k.toNat : Nat) : Int) = k by omega]
  exact if_pos h
theorem gr_n {F T G : Int → Int} {a b k : Int} (h0 : 0 ≤ k) (h : ¬ (F k ≤ b ∧ a ≤ T k)) : gr_t F T G a b (k + 1).toNat = gr_t F T G a b k.toNat := by
  rw [show (k + 1).toNat = k.toNat + 1 by omega, gr_t, show ((k.toNat : Nat) : Int) = k by omega]
  exact if_neg h
theorem gr_b {F T G : Int → Int} {a b m : Int} (h : ∀ k : Int, 0 ≤ k → k < m → 2 ≤ G k ∧ G k ≤ 3) : ∀ k : Nat, (k : Int) ≤ m → 1 ≤ gr_t F T G a b k ∧ gr_t F T G a b k ≤ 3
  | 0, _ => ⟨by simp [gr_t], by simp [gr_t]⟩
  | k + 1, hk => by
    have ih := gr_b (a := a) (b := b) (F := F) (T := T) h k (by omega)
    have g := h k (by omega) (by omega)
    rw [gr_t]
    by_cases c : F k ≤ b ∧ a ≤ T k
    · rw [if_pos c]; omega
    · rw [if_neg c]; exact ih
theorem gr_s {F T G : Int → Int} {a b m : Int} (hab : a ≤ b + 1) (h : ∀ k : Int, 0 ≤ k → k < m → F k ≤ T k) : ∀ k : Nat, (k : Int) ≤ m → gr_t F T G a (b + 1) k = max (gr_t F T G a b k) (gr_t F T G (b + 1) (b + 1) k)
  | 0, _ => by simp [gr_t]
  | k + 1, hk => by
    have ih := gr_s (G := G) hab h k (by omega)
    have f := h k (by omega) (by omega)
    rw [gr_t, gr_t, gr_t, ih]
    by_cases c1 : F k ≤ b + 1 ∧ a ≤ T k
    · rw [if_pos c1]
      by_cases c2 : F k ≤ b ∧ a ≤ T k
      · rw [if_pos c2]
        by_cases c3 : F k ≤ b + 1 ∧ b + 1 ≤ T k
        · rw [if_pos c3]; omega
        · rw [if_neg c3]; omega
      · rw [if_neg c2, if_pos (by omega)]; omega
    · rw [if_neg c1, if_neg (by omega), if_neg (by omega)]
theorem gr_h {F T G d : Int → Int} {m n : Int} (h : ∀ k : Int, 0 ≤ k → k < m → F k ≤ T k) (hm : 0 ≤ m) (hG : ∀ k : Int, 0 ≤ k → k < m → 2 ≤ G k ∧ G k ≤ 3) (hd : ∀ p, 0 ≤ p → p ≤ n → d p = gr_t F T G p p m.toNat) {p : Int} (hp : 0 ≤ p) : ∀ k : Nat, p + k ≤ n → hi_t d p (k + 1) = gr_t F T G p (p + k) m.toNat
  | 0, hk => by
    have b := gr_b (F := F) (T := T) (a := p) (b := p) hG m.toNat (by omega)
    rw [hi_t, hi_t, show p + ((0 : Nat) : Int) = p by omega, hd p hp (by omega)]
    omega
  | k + 1, hk => by
    have ih := gr_h h hm hG hd hp k (by omega)
    rw [hi_t, ih, hd (p + ((k + 1 : Nat) : Int)) (by omega) hk, show p + ((k + 1 : Nat) : Int) = p + k + 1 by omega, gr_s (a := p) (b := p + k) (by omega) h m.toNat (by omega)]
/-- the reference holds the same stem and kinds -/
def md_A (σ : zs_S) (n : Int) : Prop := ks_s σ n ∧ ks_k σ ∧ σ 67 1 = n ∧ (∀ p, 0 ≤ p → p ≤ n → σ 68 p = σ 3 p) ∧ (∀ j : Int, 0 ≤ j → j < 6 → σ 72 j = σ (8 + 2 * j.toNat) 0 ∧ σ 73 j = σ (8 + 2 * j.toNat) 1 ∧ ∀ t r : Int, 0 ≤ t → t ≤ 18 → 1 ≤ r → r ≤ 3 → σ 74 (76 * j + 4 * t + r) = σ (9 + 2 * j.toNat) (t * 3 + r - 1)) ∧ (0 ≤ σ 67 3 ∧ σ 67 3 ≤ 20) ∧ (∀ k : Int, 0 ≤ k → k < σ 67 3 → (0 ≤ σ 69 k ∧ σ 69 k ≤ σ 70 k ∧ σ 70 k ≤ n) ∧ (2 ≤ σ 71 k ∧ σ 71 k ≤ 3)) ∧ (∀ p, 0 ≤ p → p ≤ n → σ 4 p = gr_t (σ 69) (σ 70) (σ 71) p p (σ 67 3).toNat)
theorem md_Ax {σ τ : zs_S} {n : Int} (h : md_A σ n) (h1 : ∀ c : Nat, (c = 2 ∨ c = 3 ∨ c = 4 ∨ (8 ≤ c ∧ c ≤ 19) ∨ (68 ≤ c ∧ c ≤ 74)) → ∀ i, τ c i = σ c i) (h2 : τ 67 1 = σ 67 1) (h3 : τ 67 3 = σ 67 3) : md_A τ n := by
  obtain ⟨a, b, c, d, e, f, g, k⟩ := h
  have e69 : τ 69 = σ 69 := funext (h1 69 (by omega))
  have e70 : τ 70 = σ 70 := funext (h1 70 (by omega))
  have e71 : τ 71 = σ 71 := funext (h1 71 (by omega))
  refine ⟨ks_sx a (h1 2 (by omega)) (h1 3 (by omega)) (h1 4 (by omega)), ks_kx b (fun c x y i => h1 c (by omega) i), by rw [h2]; exact c, fun p x y => by rw [h1 68 (by omega), h1 3 (by omega)]; exact d p x y, fun j x y => ?_, by rw [h3]; exact f, fun q x y => by rw [h3] at y; rw [e69, e70, e71]; exact g q x y, fun p x y => by rw [h1 4 (by omega), h3, e69, e70, e71]; exact k p x y⟩
  obtain ⟨q1, q2, q3⟩ := e j x y
  refine ⟨by rw [h1 72 (by omega), h1 _ (by omega)]; exact q1, by rw [h1 73 (by omega), h1 _ (by omega)]; exact q2, fun t r t1 t2 r1 r2 => by rw [h1 74 (by omega), h1 _ (by omega)]; exact q3 t r t1 t2 r1 r2⟩
theorem md_Ap {σ τ : zs_S} {n : Int} {c : Nat} {j v : Int} (h : md_A σ n) (e : τ = zs_put σ c j v) (hc : (c = 67 ∧ j ≠ 1 ∧ j ≠ 3) ∨ 75 ≤ c) : md_A τ n :=
  md_Ax h (fun d hd i => by rw [e, zs_put_ne (by omega)]) (by
    rw [e]
    rcases hc with ⟨rfl, z, -⟩ | z
    · exact zs_put_off (Ne.symm z)
    · exact zs_put_ne (by omega) _) (by
    rw [e]
    rcases hc with ⟨rfl, -, z⟩ | z
    · exact zs_put_off (Ne.symm z)
    · exact zs_put_ne (by omega) _)
/-- nothing of stem and kinds has changed -/
def md_E (σ τ : zs_S) : Prop := (∀ i, τ 3 i = σ 3 i) ∧ (∀ i, τ 4 i = σ 4 i) ∧ ∀ c, 8 ≤ c → c ≤ 19 → ∀ i, τ c i = σ c i
theorem md_Er (σ : zs_S) : md_E σ σ := ⟨fun _ => rfl, fun _ => rfl, fun _ _ _ _ => rfl⟩
theorem md_Ep {σ τ υ : zs_S} {c : Nat} {j v : Int} (h : md_E σ τ) (e : υ = zs_put τ c j v) (hc : 67 ≤ c) : md_E σ υ :=
  ⟨fun i => by rw [e, zs_put_ne (by omega)]; exact h.1 i, fun i => by rw [e, zs_put_ne (by omega)]; exact h.2.1 i, fun d d1 d2 i => by rw [e, zs_put_ne (by omega)]; exact h.2.2 d d1 d2 i⟩
theorem md_Ef {σ τ υ : zs_S} {cs : List Nat} (h : md_E σ τ) (f : zf_x τ υ cs) (hc : ∀ c ∈ cs, 67 ≤ c) : md_E σ υ :=
  ⟨fun i => by rw [f 3 (fun z => absurd (hc 3 z) (by decide))]; exact h.1 i, fun i => by rw [f 4 (fun z => absurd (hc 4 z) (by decide))]; exact h.2.1 i, fun d d1 d2 i => by rw [f d (fun z => absurd (hc d z) (by omega))]; exact h.2.2 d d1 d2 i⟩
theorem md_Ev {σ τ : zs_S} {n p j : Int} (h : md_E σ τ) (hj : 0 ≤ j ∧ j < 6) : (bk_a τ n p j ↔ bk_a σ n p j) ∧ bk_v τ p j = bk_v σ p j ∧ bk_n τ j = bk_n σ j ∧ bk_t τ p j = bk_t σ p j ∧ bk_g τ p j = bk_g σ p j :=
  ⟨(bk_ac h.1 h.2.1 hj h.2.2).1, (bk_ac (n := n) h.1 h.2.1 hj h.2.2).2, (bk_pc (n := n) (p := p) h.1 h.2.1 hj h.2.2).2⟩
