/-! CLASS AND REFERENCE, part B: the best cutting is one -/
theorem md_Af {σ τ : zs_S} {n : Int} {cs : List Nat} (h : md_A σ n) (f : zf_x σ τ cs) (hc : ∀ c ∈ cs, 75 ≤ c) : md_A τ n :=
  md_Ax h (fun d hd i => f d (fun z => absurd (hc d z) (by omega)) i) (f 67 (fun z => absurd (hc 67 z) (by decide)) 1) (f 67 (fun z => absurd (hc 67 z) (by decide)) 3)
/-- what the class's best values say at p -/
theorem mb_B {σ : zs_S} {n p : Int} {B K : Int → Int} (hz : bk_z σ n B K) (hp : 0 ≤ p ∧ p ≤ n) : B (p + 1) ≤ B p ∧ (∀ a : Int, 0 ≤ a → a < 6 → bk_a σ n p a → bk_v σ p a + B (p + bk_n σ a + 1) ≤ B p) ∧ ((K p = -1 ∧ B p = B (p + 1)) ∨ (0 ≤ K p ∧ K p < 6 ∧ bk_a σ n p (K p) ∧ B p = bk_v σ p (K p) + B (p + bk_n σ (K p) + 1) ∧ B (p + 1) < B p ∧ ∀ a : Int, 0 ≤ a → a < K p → bk_a σ n p a → bk_v σ p a + B (p + bk_n σ a + 1) < B p)) := by
  obtain ⟨⟨e1, e2⟩, -⟩ := hz.2 p hp.1 hp.2
  have h := bk_fs (σ := σ) (n := n) (p := p) (B := B) 6
  rw [← e1, ← e2] at h
  exact h
theorem mb_0 {σ : zs_S} {n : Int} {B K : Int → Int} (hz : bk_z σ n B K) (hn : 1 ≤ n ∧ n ≤ 80) : ∀ k : Nat, (k : Int) ≤ n + 1 → (0 ≤ B k ∧ B k ≤ B 0) ∧ B 0 ≤ 81000000
  | 0, _ => by
    have h := (hz.2 0 (by omega) (by omega)).2
    exact ⟨⟨h.1, Int.le_refl _⟩, by omega⟩
  | k + 1, hk => by
    have ih := mb_0 hz hn k (by omega)
    have h := (mb_B hz (p := k) (by omega)).1
    refine ⟨⟨?_, ?_⟩, ih.2⟩
    · rcases (show ((k + 1 : Nat) : Int) ≤ n ∨ ((k + 1 : Nat) : Int) = n + 1 by omega) with z | z
      · exact (hz.2 _ (by omega) z).2.1
      · rw [z, hz.1]; omega
    · have e : ((k + 1 : Nat) : Int) = (k : Int) + 1 := by omega
      rw [e]; omega
theorem mb_1 {σ : zs_S} {n x : Int} {B K : Int → Int} (hz : bk_z σ n B K) (hn : 1 ≤ n ∧ n ≤ 80) (hx : 0 ≤ x ∧ x ≤ n + 1) : (0 ≤ B x ∧ B x ≤ B 0) ∧ B 0 ≤ 81000000 := by
  have h := mb_0 hz hn x.toNat (by omega)
  rwa [show ((x.toNat : Nat) : Int) = x by omega] at h
/-- values of the reference: each is that of some logs ahead of x -/
def mb_U (n : Int) (B V : Int → Int) : Prop := ∀ x, 0 ≤ x → x ≤ n + 1 → 0 ≤ V x ∧ V x + B x ≤ B 0
/-- what begins below p is told on; what begins at p, for kinds below a -/
def mb_E (σ : zs_S) (n : Int) (V : Int → Int) (p : Int) : Prop := ∀ q, 0 ≤ q → q < p → V q ≤ V (q + 1) ∧ ∀ j : Int, 0 ≤ j → j < 6 → bk_a σ n q j → V q + bk_v σ q j ≤ V (q + bk_n σ j + 1)
def mb_I (σ : zs_S) (n : Int) (V : Int → Int) (p a : Int) : Prop := V p ≤ V (p + 1) ∧ ∀ j : Int, 0 ≤ j → j < a → bk_a σ n p j → V p + bk_v σ p j ≤ V (p + bk_n σ j + 1)
theorem mb_Eu {σ : zs_S} {n p t y : Int} {V W : Int → Int} (hE : mb_E σ n V p) (hW : ∀ x, W x = if x = t then y else V x) (hy : V t ≤ y) (ht : p < t) : mb_E σ n W p := by
  have up : ∀ x, V x ≤ W x := fun x => by
    rw [hW x]
    by_cases z : x = t
    · rw [if_pos z, z]; exact hy
    · rw [if_neg z]; exact Int.le_refl _
  intro q q1 q2
  have e : W q = V q := by rw [hW q, if_neg (by omega)]
  refine ⟨by rw [e]; exact Int.le_trans (hE q q1 q2).1 (up _), fun j j1 j2 ja => by rw [e]; exact Int.le_trans ((hE q q1 q2).2 j j1 j2 ja) (up _)⟩
theorem mb_Iu {σ : zs_S} {n p t y a : Int} {V W : Int → Int} (hI : mb_I σ n V p a) (hW : ∀ x, W x = if x = t then y else V x) (hy : V t ≤ y) (ht : p < t) : mb_I σ n W p a := by
  have up : ∀ x, V x ≤ W x := fun x => by
    rw [hW x]
    by_cases z : x = t
    · rw [if_pos z, z]; exact hy
    · rw [if_neg z]; exact Int.le_refl _
  have e : W p = V p := by rw [hW p, if_neg (by omega)]
  refine ⟨by rw [e]; exact Int.le_trans hI.1 (up _), fun j j1 j2 ja => by rw [e]; exact Int.le_trans (hI.2 j j1 j2 ja) (up _)⟩
theorem mb_Uu {n t y : Int} {B V W : Int → Int} (hU : mb_U n B V) (hW : ∀ x, W x = if x = t then y else V x) (h0 : 0 ≤ y) (h1 : y + B t ≤ B 0) : mb_U n B W := by
  intro x x1 x2
  rw [hW x]
  by_cases z : x = t
  · rw [if_pos z, z]; exact ⟨h0, h1⟩
  · rw [if_neg z]; exact hU x x1 x2
theorem mb_Ei {σ : zs_S} {n p : Int} {V : Int → Int} (hE : mb_E σ n V p) (hI : mb_I σ n V p 6) : mb_E σ n V (p + 1) := by
  intro q q1 q2
  rcases (show q < p ∨ q = p by omega) with z | z
  · exact hE q q1 z
  · subst z; exact hI
theorem mb_Is {σ : zs_S} {n p a : Int} {V : Int → Int} (hI : mb_I σ n V p a) (h : bk_a σ n p a → V p + bk_v σ p a ≤ V (p + bk_n σ a + 1)) : mb_I σ n V p (a + 1) := by
  refine ⟨hI.1, fun j j1 j2 ja => ?_⟩
  rcases (show j < a ∨ j = a by omega) with z | z
  · exact hI.2 j j1 z ja
  · subst z; exact h ja
/-- from every point on, what can be gained reaches the end -/
theorem mb_L {σ : zs_S} {n : Int} {B K V : Int → Int} (hz : bk_z σ n B K) (hK : ∀ j : Int, 0 ≤ j → j < 6 → 0 ≤ bk_n σ j) (hE : mb_E σ n V (n + 1)) : ∀ (m : Nat) (p : Int), (n + 1 - p).toNat < m → 0 ≤ p → p ≤ n + 1 → V p + B p ≤ V (n + 1) := by
  intro m
  induction m with
  | zero => intro p h; exact absurd h (by omega)
  | succ m ih =>
    intro p h p0 p1
    rcases (show p = n + 1 ∨ p ≤ n by omega) with z | z
    · rw [z, hz.1]; omega
    · obtain ⟨b1, b2, b3⟩ := mb_B hz (p := p) ⟨p0, z⟩
      obtain ⟨e1, e2⟩ := hE p p0 (by omega)
      rcases b3 with ⟨-, c⟩ | ⟨c1, c2, c3, c4, -, -⟩
      · have := ih (p + 1) (by omega) (by omega) (by omega)
        omega
      · have a1 := c3.1
        have a2 := c3.2.1
        have x := e2 (K p) c1 c2 c3
        have y := ih (p + bk_n σ (K p) + 1) (by omega) (by omega) (by omega)
        omega
/-- the point p lies on a best cutting -/
def mb_T (B V : Int → Int) (p : Int) : Prop := V p + B p = B 0
theorem mb_e {σ : zs_S} {n : Int} {B K V : Int → Int} (hn : 1 ≤ n ∧ n ≤ 80) (hz : bk_z σ n B K) (hK : ∀ j : Int, 0 ≤ j → j < 6 → 0 ≤ bk_n σ j) (hU : mb_U n B V) (hE : mb_E σ n V (n + 1)) : V (n + 1) = B 0 ∧ V 0 = 0 ∧ mb_T B V 0 ∧ mb_T B V (n + 1) := by
  have h1 := mb_L hz hK hE _ 0 (Nat.lt_succ_self _) (by omega) (by omega)
  have h2 := hU 0 (by omega) (by omega)
  have h3 := hU (n + 1) (by omega) (by omega)
  rw [hz.1] at h3
  unfold mb_T
  rw [hz.1]
  omega
/-- at a point of a best cutting: to skip it is best where the class does, a kind is best where it gains the class's value -/
theorem mb_s {σ : zs_S} {n p : Int} {B K V : Int → Int} (hz : bk_z σ n B K) (hU : mb_U n B V) (hE : mb_E σ n V (n + 1)) (hp : 0 ≤ p ∧ p ≤ n) (ht : mb_T B V p) : (mb_T B V (p + 1) ∧ V (p + 1) = V p) ↔ K p = -1 := by
  obtain ⟨b1, b2, b3⟩ := mb_B hz hp
  have e := (hE p hp.1 (by omega)).1
  have u := hU (p + 1) (by omega) (by omega)
  unfold mb_T at *
  constructor
  · rintro ⟨x, y⟩
    rcases b3 with c | ⟨-, -, -, -, c, -⟩
    · exact c.1
    · omega
  · intro k
    rcases b3 with c | ⟨c, -⟩
    · omega
    · omega
theorem mb_j {σ : zs_S} {n p j : Int} {B K V : Int → Int} (hz : bk_z σ n B K) (hU : mb_U n B V) (hE : mb_E σ n V (n + 1)) (hp : 0 ≤ p ∧ p ≤ n) (hj : 0 ≤ j ∧ j < 6) (ht : mb_T B V p) (ha : bk_a σ n p j) : (mb_T B V (p + bk_n σ j + 1) ∧ V (p + bk_n σ j + 1) = V p + bk_v σ p j) ↔ bk_v σ p j + B (p + bk_n σ j + 1) = B p := by
  have a1 := ha.1
  have a2 := ha.2.1
  obtain ⟨b1, b2, b3⟩ := mb_B hz hp
  have b := b2 j hj.1 hj.2 ha
  have e := (hE p hp.1 (by omega)).2 j hj.1 hj.2 ha
  have u := hU (p + bk_n σ j + 1) (by omega) (by omega)
  unfold mb_T at *
  constructor
  · rintro ⟨x, y⟩; omega
  · intro k; omega
/-- a point leads on where some step from it does -/
theorem mb_l {σ : zs_S} {n p : Int} {B K V : Int → Int} (hz : bk_z σ n B K) (hU : mb_U n B V) (hE : mb_E σ n V (n + 1)) (hp : 0 ≤ p ∧ p ≤ n) : mb_T B V p ↔ ((mb_T B V (p + 1) ∧ V (p + 1) = V p) ∨ ∃ j : Int, 0 ≤ j ∧ j < 6 ∧ bk_a σ n p j ∧ mb_T B V (p + bk_n σ j + 1) ∧ V (p + bk_n σ j + 1) = V p + bk_v σ p j) := by
  constructor
  · intro ht
    by_cases k : K p = -1
    · exact Or.inl ((mb_s hz hU hE hp ht).mpr k)
    · obtain ⟨b1, b2, b3⟩ := mb_B hz hp
      rcases b3 with c | ⟨c1, c2, c3, c4, -, -⟩
      · exact absurd c.1 k
      · exact Or.inr ⟨K p, c1, c2, c3, (mb_j hz hU hE hp ⟨c1, c2⟩ ht c3).mpr c4.symm⟩
  · obtain ⟨b1, b2, b3⟩ := mb_B hz hp
    have u := hU p hp.1 (by omega)
    rintro (⟨x, y⟩ | ⟨j, j1, j2, ja, x, y⟩)
    · unfold mb_T at *; omega
    · have := b2 j j1 j2 ja
      unfold mb_T at *; omega
