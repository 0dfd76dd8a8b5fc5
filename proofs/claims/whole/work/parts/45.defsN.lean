/-! CLASS AND REFERENCE, part C: sizes, orders, chains -/
/-- the reference holds (in σ) the sizes, prices, orders that the class held (in σ0) -/
def md_S (σ0 σ : zs_S) : Prop := sw_I σ0 ∧ (∀ j : Int, 0 ≤ j → j < 6 → σ 76 j = σ0 (28 + 2 * j.toNat) 0 ∧ σ 77 j = σ0 (28 + 2 * j.toNat) 1 ∧ σ 79 j = σ0 41 j ∧ ∀ r : Int, 1 ≤ r → r ≤ 3 → σ 78 (4 * j + r) = σ0 (29 + 2 * j.toNat) (r - 1)) ∧ σ 67 17 = σ0 26 3 ∧ (∀ i : Int, 0 ≤ i → i < 4 → σ 80 i = σ0 44 i ∧ σ 81 i = σ0 42 i ∧ σ 82 i = σ0 43 i)
theorem md_Sx {σ0 σ τ : zs_S} (h : md_S σ0 σ) (h1 : ∀ c : Nat, 76 ≤ c → c ≤ 82 → ∀ i, τ c i = σ c i) (h2 : τ 67 17 = σ 67 17) : md_S σ0 τ := by
  obtain ⟨a, b, c, d⟩ := h
  refine ⟨a, fun j x y => ?_, by rw [h2]; exact c, fun i x y => ?_⟩
  · obtain ⟨p, q, r, s⟩ := b j x y
    exact ⟨by rw [h1 76 (by omega) (by omega)]; exact p, by rw [h1 77 (by omega) (by omega)]; exact q, by rw [h1 79 (by omega) (by omega)]; exact r, fun t t1 t2 => by rw [h1 78 (by omega) (by omega)]; exact s t t1 t2⟩
  · obtain ⟨p, q, r⟩ := d i x y
    exact ⟨by rw [h1 80 (by omega) (by omega)]; exact p, by rw [h1 81 (by omega) (by omega)]; exact q, by rw [h1 82 (by omega) (by omega)]; exact r⟩
theorem md_Sf {σ0 σ τ : zs_S} {cs : List Nat} (h : md_S σ0 σ) (f : zf_x σ τ cs) (hc : ∀ c ∈ cs, 82 < c) : md_S σ0 τ :=
  md_Sx h (fun c a b i => f c (fun z => absurd (hc c z) (by omega)) i) (f 67 (fun z => absurd (hc 67 z) (by decide)) 17)
/-- a step of the reference's chain: beside in a row, above in a stack -/
def sq_b (σ : zs_S) (h d w k : Int) : Int := if σ 84 k = 0 ∨ ¬ σ 77 k = h ∨ ¬ (w + σ 76 k) * (w + σ 76 k) + h * h ≤ d * d then -1 else w + σ 76 k + σ 67 17
def sq_t (σ : zs_S) (y k : Int) : Int := y + 2 * σ 76 k + (if y = 0 then 0 else 2 * σ 67 17)
def sq_a (σ : zs_S) (d y k : Int) : Int := if σ 84 k = 0 ∨ ¬ σ 77 k * σ 77 k + sq_t σ y k * sq_t σ y k ≤ d * d then -1 else sq_t σ y k
def sq_N (σ : zs_S) (b h d p k : Int) : Int := if b = 1 then sq_b σ h d p k else sq_a σ d p k
/-- bounds of its numbers -/
def sq_I (σ : zs_S) : Prop := (∀ k : Int, 0 ≤ k → k < 6 → (0 ≤ σ 76 k ∧ σ 76 k ≤ 4000) ∧ (0 ≤ σ 77 k ∧ σ 77 k ≤ 4000) ∧ (0 ≤ σ 84 k ∧ σ 84 k ≤ 1100000)) ∧ 0 ≤ σ 67 17 ∧ σ 67 17 ≤ 100
theorem sq_Nf {σ τ : zs_S} {cs : List Nat} (f : zf_x σ τ cs) (hc : ∀ c ∈ cs, 84 < c) (b h d p k : Int) : sq_N τ b h d p k = sq_N σ b h d p k := by
  have e : ∀ c : Nat, c ≤ 84 → ∀ i, τ c i = σ c i := fun c h i => f c (fun z => absurd (hc c z) (by omega)) i
  unfold sq_N sq_b sq_a sq_t
  rw [e 84 (by decide), e 77 (by decide), e 76 (by decide), e 67 (by decide)]
theorem sq_If {σ τ : zs_S} {cs : List Nat} (f : zf_x σ τ cs) (hc : ∀ c ∈ cs, 84 < c) (h : sq_I σ) : sq_I τ := by
  have e : ∀ c : Nat, c ≤ 84 → ∀ i, τ c i = σ c i := fun c h i => f c (fun z => absurd (hc c z) (by omega)) i
  refine ⟨fun k a b => ?_, ?_⟩
  · rw [e 84 (by decide), e 77 (by decide), e 76 (by decide)]
    exact h.1 k a b
  · rw [e 67 (by decide)]
    exact h.2
/-! chains by positions -/
def mq_W (N : Int → Int → Int) (pr G : Int → Int) (R : Int → Prop) : Prop := ∀ p, R p → ((0 ≤ p ∧ p ≤ 9300) ∧ (0 ≤ G p ∧ G p ≤ 300000000)) ∧ (∀ k : Int, 0 ≤ k → k < 6 → 0 ≤ N p k → R (N p k) ∧ p + 50 ≤ N p k ∧ pr k + G (N p k) ≤ G p ∧ (0 < pr k ∧ pr k ≤ 1100000)) ∧ (G p = 0 ∨ ∃ k : Int, 0 ≤ k ∧ k < 6 ∧ 0 ≤ N p k ∧ pr k + G (N p k) = G p)
/-- size k is a best one at p -/
def mq_c (N : Int → Int → Int) (pr G : Int → Int) (p k : Int) : Prop := 0 ≤ N p k ∧ pr k + G (N p k) = G p
def mq_L (N : Int → Int → Int) (pr G : Int → Int) : List Int → Int → Prop
  | [], p => ∀ k : Int, 0 ≤ k → k < 6 → ¬ mq_c N pr G p k
  | r :: l, p => (0 ≤ r ∧ r < 6) ∧ mq_c N pr G p r ∧ (∀ k : Int, 0 ≤ k → k < r → ¬ mq_c N pr G p k) ∧ mq_L N pr G l (N p r)
def mq_V (R : Int → Prop) (G : Int → Int) (r : Int) (V : Int → Int) : Prop := ∀ x, 0 ≤ x → x < 9400 → V x = -1 ∨ (R x ∧ 0 ≤ V x ∧ V x + G x ≤ r)
def mq_E (N : Int → Int → Int) (pr V : Int → Int) (f p : Int) : Prop := ∀ q, f ≤ q → q < p → 0 ≤ V q → ∀ k : Int, 0 ≤ k → k < 6 → 0 ≤ N q k → V q + pr k ≤ V (N q k)
def mq_I (N : Int → Int → Int) (pr V : Int → Int) (p a : Int) : Prop := ∀ k : Int, 0 ≤ k → k < a → 0 ≤ N p k → V p + pr k ≤ V (N p k)
theorem mq_Eu {N : Int → Int → Int} {pr V W : Int → Int} {f p t y : Int} (hE : mq_E N pr V f p) (hW : ∀ x, W x = if x = t then y else V x) (hy : V t ≤ y) (ht : p < t) : mq_E N pr W f p := by
  have up : ∀ x, V x ≤ W x := fun x => by
    rw [hW x]
    by_cases z : x = t
    · rw [if_pos z, z]; exact hy
    · rw [if_neg z]; exact Int.le_refl _
  intro q q1 q2 q3 k k1 k2 k3
  have e : W q = V q := by rw [hW q, if_neg (by omega)]
  rw [e] at q3 ⊢
  exact Int.le_trans (hE q q1 q2 q3 k k1 k2 k3) (up _)
theorem mq_Iu {N : Int → Int → Int} {pr V W : Int → Int} {p a t y : Int} (hI : mq_I N pr V p a) (hW : ∀ x, W x = if x = t then y else V x) (hy : V t ≤ y) (ht : p < t) : mq_I N pr W p a := by
  have up : ∀ x, V x ≤ W x := fun x => by
    rw [hW x]
    by_cases z : x = t
    · rw [if_pos z, z]; exact hy
    · rw [if_neg z]; exact Int.le_refl _
  intro k k1 k2 k3
  have e : W p = V p := by rw [hW p, if_neg (by omega)]
  rw [e]
  exact Int.le_trans (hI k k1 k2 k3) (up _)
theorem mq_Vu {R : Int → Prop} {G V W : Int → Int} {r t y : Int} (hV : mq_V R G r V) (hW : ∀ x, W x = if x = t then y else V x) (hR : R t) (h0 : 0 ≤ y) (h1 : y + G t ≤ r) : mq_V R G r W := by
  intro x x1 x2
  rw [hW x]
  by_cases z : x = t
  · rw [if_pos z, z]; exact Or.inr ⟨hR, h0, h1⟩
  · rw [if_neg z]; exact hV x x1 x2
theorem mq_Is {N : Int → Int → Int} {pr V : Int → Int} {p a : Int} (hI : mq_I N pr V p a) (h : 0 ≤ N p a → V p + pr a ≤ V (N p a)) : mq_I N pr V p (a + 1) := by
  intro k k1 k2 k3
  rcases (show k < a ∨ k = a by omega) with z | z
  · exact hI k k1 z k3
  · subst z; exact h k3
theorem mq_Ei {N : Int → Int → Int} {pr V : Int → Int} {f p : Int} (hE : mq_E N pr V f p) (hI : mq_I N pr V p 6) : mq_E N pr V f (p + 1) := by
  intro q q1 q2 q3 k k1 k2 k3
  rcases (show q < p ∨ q = p by omega) with z | z
  · exact hE q q1 z q3 k k1 k2 k3
  · subst z; exact hI k k1 k2 k3
theorem mq_En {N : Int → Int → Int} {pr V : Int → Int} {f p : Int} (hE : mq_E N pr V f p) (hn : V p < 0) : mq_E N pr V f (p + 1) := by
  intro q q1 q2 q3 k k1 k2 k3
  rcases (show q < p ∨ q = p by omega) with z | z
  · exact hE q q1 z q3 k k1 k2 k3
  · subst z; omega
/-- what can be gained from p is reached -/
theorem mq_e {N : Int → Int → Int} {pr V G : Int → Int} {R : Int → Prop} {f : Int} (hW : mq_W N pr G R) (hE : mq_E N pr V f 9301) : ∀ (m : Nat) (p : Int), (9301 - p).toNat < m → R p → f ≤ p → 0 ≤ V p → ∃ q, f ≤ q ∧ q ≤ 9300 ∧ V p + G p ≤ V q := by
  intro m
  induction m with
  | zero => intro p h; exact absurd h (by omega)
  | succ m ih =>
    intro p h hR hf h0
    obtain ⟨⟨w1, w2⟩, w3, w4⟩ := hW p hR
    rcases w4 with z | ⟨k, k1, k2, k3, k4⟩
    · exact ⟨p, hf, by omega, by omega⟩
    · obtain ⟨c1, c2, c3, c4⟩ := w3 k k1 k2 k3
      have e := hE p hf (by omega) h0 k k1 k2 k3
      have b := (hW _ c1).1
      obtain ⟨q, q1, q2, q3⟩ := ih (N p k) (by omega) c1 (by omega) (by omega)
      exact ⟨q, q1, q2, by omega⟩
/-- p lies on a best chain -/
def mq_T (V G : Int → Int) (r p : Int) : Prop := 0 ≤ V p ∧ V p + G p = r
theorem mq_j {N : Int → Int → Int} {pr V G : Int → Int} {R : Int → Prop} {f r p k : Int} (hW : mq_W N pr G R) (hV : mq_V R G r V) (hE : mq_E N pr V f 9301) (hp : f ≤ p) (hR : R p) (ht : mq_T V G r p) (hk : 0 ≤ k ∧ k < 6) (hN : 0 ≤ N p k) : (mq_T V G r (N p k) ∧ V (N p k) = V p + pr k) ↔ pr k + G (N p k) = G p := by
  obtain ⟨⟨w1, w2⟩, w3, w4⟩ := hW p hR
  obtain ⟨c1, c2, c3, c4⟩ := w3 k hk.1 hk.2 hN
  obtain ⟨t1, t2⟩ := ht
  have e := hE p hp (by omega) t1 k hk.1 hk.2 hN
  have b := (hW _ c1).1
  have v := hV (N p k) (by omega) (by omega)
  unfold mq_T
  constructor
  · rintro ⟨⟨x1, x2⟩, x3⟩; omega
  · intro z
    rcases v with v | ⟨-, v1, v2⟩
    · omega
    · omega
theorem mq_l {N : Int → Int → Int} {pr V G : Int → Int} {R : Int → Prop} {f r p : Int} (hW : mq_W N pr G R) (hV : mq_V R G r V) (hE : mq_E N pr V f 9301) (hr : 0 ≤ r) (hf : 0 ≤ f) (hp : f ≤ p ∧ p ≤ 9300) (h0 : 0 ≤ V p) : mq_T V G r p ↔ (V p = r ∨ ∃ k : Int, 0 ≤ k ∧ k < 6 ∧ 0 ≤ N p k ∧ mq_T V G r (N p k) ∧ V (N p k) = V p + pr k) := by
  obtain ⟨hR, v1, v2⟩ : R p ∧ 0 ≤ V p ∧ V p + G p ≤ r := by
    rcases hV p (by omega) (by omega) with v | v
    · omega
    · exact v
  obtain ⟨⟨w1, w2⟩, w3, w4⟩ := hW p hR
  constructor
  · intro ht
    rcases w4 with z | ⟨k, k1, k2, k3, k4⟩
    · have := ht.2
      exact Or.inl (by omega)
    · exact Or.inr ⟨k, k1, k2, k3, (mq_j hW hV hE hp.1 hR ht ⟨k1, k2⟩ k3).mpr k4⟩
  · rintro (z | ⟨k, k1, k2, k3, ⟨t1, t2⟩, t3⟩)
    · exact ⟨h0, by omega⟩
    · obtain ⟨c1, c2, c3, c4⟩ := w3 k k1 k2 k3
      exact ⟨h0, by omega⟩
/-- a mark says so, over the first a sizes -/
def mq_H (N : Int → Int → Int) (pr V G : Int → Int) (r m p a : Int) : Prop := m = 1 ↔ (V p = r ∨ ∃ k : Int, 0 ≤ k ∧ k < a ∧ 0 ≤ N p k ∧ mq_T V G r (N p k) ∧ V (N p k) = V p + pr k)
theorem mq_Hn {N : Int → Int → Int} {pr V G : Int → Int} {r m p a : Int} (h : mq_H N pr V G r m p a) (hn : ¬ (0 ≤ N p a ∧ mq_T V G r (N p a) ∧ V (N p a) = V p + pr a)) : mq_H N pr V G r m p (a + 1) :=
  Iff.trans h ⟨fun z => z.imp id (fun ⟨j, j1, j2, j3⟩ => ⟨j, j1, by omega, j3⟩), fun z => z.imp id (fun ⟨j, j1, j2, j3⟩ => ⟨j, j1, by
    rcases (show j < a ∨ j = a by omega) with q | q
    · exact q
    · subst q; exact absurd j3 hn, j3⟩)⟩
theorem mq_Hy {N : Int → Int → Int} {pr V G : Int → Int} {r m p a : Int} (h : m = 1) (ha : 0 ≤ a) (hy : 0 ≤ N p a ∧ mq_T V G r (N p a) ∧ V (N p a) = V p + pr a) : mq_H N pr V G r m p (a + 1) :=
  ⟨fun _ => Or.inr ⟨a, ha, by omega, hy⟩, fun _ => h⟩
theorem mq_H0 {N : Int → Int → Int} {pr V G : Int → Int} {r m p : Int} (h : m = 1 ↔ V p = r) : mq_H N pr V G r m p 0 :=
  Iff.trans h ⟨Or.inl, fun z => by
    rcases z with z | ⟨k, k1, k2, -⟩
    · exact z
    · omega⟩
