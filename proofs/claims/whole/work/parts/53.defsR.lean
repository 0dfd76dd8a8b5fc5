/-! CLASS AND REFERENCE, part F: choosing the pattern -/
/-- the pattern with the height at place i -/
def sw_K (σ0 : zs_S) (gr d i h v : Int) (l1 l2 : List Int) : Prop := σ0 44 i = h ∧ 0 < h ∧ ∃ r1 r2, ch_O (sw_s σ0) (sw_p σ0 gr) (sw_lr (sw_w σ0) (sw_p σ0 gr) h (ro_m d h) (σ0 26 3)) r1 l1 ∧ ¬ r1 = 0 ∧ ch_O (sw_s σ0) (sw_p σ0 gr) (sw_ls (sw_p σ0 gr) (sw_r σ0 d) h) r2 l2 ∧ v = r1 + 2 * r2
abbrev sw_D0 (σ0 : zs_S) (gr d h v : Int) (l1 l2 : List Int) : Prop := sw_D (sw_s σ0) (sw_p σ0 gr) (sw_r σ0 d) (sw_w σ0) (σ0 26 3) d (σ0 44) 4 h v l1 l2
abbrev sw_X0' (σ0 : zs_S) (gr d h v : Int) : Prop := sw_X (sw_s σ0) (sw_p σ0 gr) (sw_r σ0 d) (sw_w σ0) (σ0 26 3) d (σ0 44) 4 h v
theorem sw_Ui {σ0 : zs_S} {gr : Int} (hI : sw_I σ0) (hg : 1 ≤ gr ∧ gr ≤ 3) : sw_U (sw_s σ0) (sw_p σ0 gr) := fun k k1 k2 => by
  have b := sw_pb (k := k) hI hg ⟨k1, k2⟩
  have g0 := hI.2.1
  unfold sw_s at b ⊢
  exact ⟨b.2.2.1, fun z => by have := b.2.1 z; omega⟩
theorem sw_Ku {σ0 : zs_S} {gr d i h v h' v' : Int} {l1 l2 l1' l2' : List Int} (hU : sw_U (sw_s σ0) (sw_p σ0 gr)) (h1 : sw_K σ0 gr d i h v l1 l2) (h2 : sw_K σ0 gr d i h' v' l1' l2') : h = h' ∧ v = v' := by
  obtain ⟨rfl, a, r1, r2, o1, -, o2, rfl⟩ := h1
  obtain ⟨rfl, b, q1, q2, p1, -, p2, rfl⟩ := h2
  have e1 := (ch_Ou (sw_ur hU) o1 p1).1
  have e2 := (ch_Ou (sw_us hU) o2 p2).1
  exact ⟨rfl, by rw [e1, e2]⟩
/-- the best lists stand in A -/
def mo_A (A : Int → Int) (l1 l2 : List Int) : Prop := (bo_A A 0 l1 ∧ bo_A A 300 l2) ∧ (l1.length : Int) ≤ 200 ∧ (l2.length : Int) ≤ 200
/-- what the reference has found over the heights below a -/
def mo_J (σ0 : zs_S) (gr d a mo ch : Int) (A : Int → Int) : Prop :=
  (mo = -1 ∧ ch = 4 ∧ ∀ i : Int, 0 ≤ i → i < a → ∀ h v l1 l2, ¬ sw_K σ0 gr d i h v l1 l2) ∨
  ((0 ≤ ch ∧ ch < a) ∧ (0 ≤ mo ∧ mo ≤ 1000000000) ∧ (∃ l1 l2, sw_K σ0 gr d ch (σ0 44 ch) mo l1 l2 ∧ mo_A A l1 l2) ∧ ∀ i : Int, 0 ≤ i → i < a → ∀ h v l1 l2, sw_K σ0 gr d i h v l1 l2 → ¬ sw_B v h mo (σ0 44 ch))
theorem mo_Jb {σ0 : zs_S} {gr d a mo ch : Int} {A : Int → Int} (h : mo_J σ0 gr d a mo ch A) : (mo = -1 ∧ ch = 4) ∨ ((0 ≤ ch ∧ ch < a) ∧ (0 ≤ mo ∧ mo ≤ 1000000000) ∧ 0 < σ0 44 ch) := by
  rcases h with ⟨a, b, -⟩ | ⟨a, b, ⟨l1, l2, c, -⟩, -⟩
  · exact Or.inl ⟨a, b⟩
  · exact Or.inr ⟨a, b, c.2.1⟩
theorem mo_Jc {σ0 : zs_S} {gr d a mo ch : Int} {A B : Int → Int} (h : mo_J σ0 gr d a mo ch A) (e : B = A) : mo_J σ0 gr d a mo ch B := by rw [e]; exact h
theorem mo_Jn {σ0 : zs_S} {gr d a mo ch : Int} {A : Int → Int} (h : mo_J σ0 gr d a mo ch A) (hn : ∀ h v l1 l2, ¬ sw_K σ0 gr d a h v l1 l2) : mo_J σ0 gr d (a + 1) mo ch A := by
  rcases h with ⟨x, y, z⟩ | ⟨x, y, z, u⟩
  · refine Or.inl ⟨x, y, fun i i1 i2 => ?_⟩
    rcases (show i < a ∨ i = a by omega) with q | q
    · exact z i i1 q
    · subst q; exact hn
  · refine Or.inr ⟨by omega, y, z, fun i i1 i2 => ?_⟩
    rcases (show i < a ∨ i = a by omega) with q | q
    · exact u i i1 q
    · subst q; exact fun h v l1 l2 k => absurd k (hn h v l1 l2)
theorem mo_Jk {σ0 : zs_S} {gr d a mo ch h v : Int} {l1 l2 : List Int} {A : Int → Int} (hU : sw_U (sw_s σ0) (sw_p σ0 gr)) (hJ : mo_J σ0 gr d a mo ch A) (ha4 : a ≤ 4) (hK : sw_K σ0 gr d a h v l1 l2) (h0 : 0 ≤ v) (hn : v < mo ∨ (v = mo ∧ (ch = 4 ∨ σ0 44 ch ≤ h))) : mo_J σ0 gr d (a + 1) mo ch A := by
  have hb := mo_Jb hJ
  rcases hJ with ⟨x, y, z⟩ | ⟨x, y, z, u⟩
  · omega
  · refine Or.inr ⟨by omega, y, z, fun i i1 i2 h' v' l1' l2' k => ?_⟩
    rcases (show i < a ∨ i = a by omega) with q | q
    · exact u i i1 q h' v' l1' l2' k
    · subst q
      obtain ⟨e1, e2⟩ := sw_Ku hU hK k
      rw [← e1, ← e2]
      obtain ⟨l1, l2, c, -⟩ := z
      have c2 := c.2.1
      have c4 : ¬ ch = 4 ∨ ch = 4 := by omega
      have hx : σ0 44 i = h := hK.1
      unfold sw_B
      rcases hn with w | ⟨w1, w2 | w2⟩
      · omega
      · omega
      · omega
theorem mo_Jy {σ0 : zs_S} {gr d a mo ch h v : Int} {l1 l2 : List Int} {A B : Int → Int} (hU : sw_U (sw_s σ0) (sw_p σ0 gr)) (hJ : mo_J σ0 gr d a mo ch A) (ha : 0 ≤ a) (hK : sw_K σ0 gr d a h v l1 l2) (h0 : 0 ≤ v ∧ v ≤ 1000000000) (hy : mo < v ∨ (v = mo ∧ ¬ ch = 4 ∧ h < σ0 44 ch)) (hA : mo_A B l1 l2) : mo_J σ0 gr d (a + 1) v a B := by
  have ex : σ0 44 a = h := hK.1
  have hp : 0 < h := hK.2.1
  refine Or.inr ⟨by omega, h0, ⟨l1, l2, by rw [ex]; exact hK, hA⟩, fun i i1 i2 h' v' l1' l2' k => ?_⟩
  rcases (show i < a ∨ i = a by omega) with q | q
  · rcases hJ with ⟨x, y, z⟩ | ⟨x, y, z, u⟩
    · exact absurd k (z i i1 q h' v' l1' l2')
    · intro w
      refine u i i1 q h' v' l1' l2' k (sw_Bt w ?_)
      rw [ex]
      unfold sw_B
      omega
  · subst q
    obtain ⟨e1, e2⟩ := sw_Ku hU hK k
    rw [← e1, ← e2, ex]
    unfold sw_B
    omega
/-- what the reference has found at last -/
def mo_F (σ0 : zs_S) (gr d v ch : Int) (A : Int → Int) : Prop := ∃ h l1 l2, sw_D0 σ0 gr d h v l1 l2 ∧ sw_X0' σ0 gr d h v ∧ mo_A A l1 l2 ∧ (((0 ≤ ch ∧ ch < 4) ∧ σ0 44 ch = h ∧ 0 < h) ∨ (ch = 4 ∧ h = -1))
theorem mo_Fk {σ0 : zs_S} {gr d mo ch r : Int} {l : List Int} {A : Int → Int} (hU : sw_U (sw_s σ0) (sw_p σ0 gr)) (hJ : mo_J σ0 gr d 4 mo ch A) (hO : ch_O (sw_s σ0) (sw_p σ0 gr) (sw_ls (sw_p σ0 gr) (sw_r σ0 d) (-2 * σ0 26 3)) r l) (h0 : 0 ≤ r) (hn : r ≤ mo) : mo_F σ0 gr d mo ch A := by
  rcases hJ with ⟨x, y, z⟩ | ⟨x, y, ⟨l1, l2, k, m⟩, u⟩
  · omega
  · refine ⟨σ0 44 ch, l1, l2, Or.inr ⟨ch, x.1, x.2, k⟩, ?_, m, Or.inl ⟨x, rfl, k.2.1⟩⟩
    intro h' v' l1' l2' hD
    rcases hD with ⟨q1, q2, q3⟩ | ⟨i, i1, i2, q⟩
    · have := (ch_Ou (sw_us hU) hO q3).1
      unfold sw_B
      omega
    · exact u i i1 i2 h' v' l1' l2' q
theorem mo_Fy {σ0 : zs_S} {gr d mo ch r : Int} {l : List Int} {A B : Int → Int} (hU : sw_U (sw_s σ0) (sw_p σ0 gr)) (hJ : mo_J σ0 gr d 4 mo ch A) (hO : ch_O (sw_s σ0) (sw_p σ0 gr) (sw_ls (sw_p σ0 gr) (sw_r σ0 d) (-2 * σ0 26 3)) r l) (h0 : 0 ≤ r) (hn : mo < r) (hA : mo_A B [] l) : mo_F σ0 gr d r 4 B := by
  refine ⟨-1, [], l, Or.inl ⟨rfl, rfl, hO⟩, ?_, hA, Or.inr ⟨rfl, rfl⟩⟩
  intro h' v' l1' l2' hD
  rcases hD with ⟨q1, q2, q3⟩ | ⟨i, i1, i2, q⟩
  · have := (ch_Ou (sw_us hU) hO q3).1
    unfold sw_B
    omega
  · rcases hJ with ⟨x, y, z⟩ | ⟨x, y, ⟨l1, l2, k, m⟩, u⟩
    · exact absurd q (z i i1 i2 h' v' l1' l2')
    · have w := u i i1 i2 h' v' l1' l2' q
      unfold sw_B at w ⊢
      omega
/-- sizes of a chain: their limits are no less than 0 -/
theorem ch_Lp {st pr li G : Int → Int} (hst : ∀ k : Int, 0 ≤ k → k < 6 → 0 ≤ st k) : ∀ {l : List Int} {x : Int}, ch_L st pr li G l x → 0 ≤ x → ∀ k ∈ l, (0 ≤ k ∧ k < 6) ∧ 0 ≤ li k
  | [], x, _, _, k, hk => by simp at hk
  | q :: l, x, ⟨h1, h2, _, h4⟩, h0, k, hk => by
    have s := hst q h1.1 h1.2
    have c := h2.1
    rcases List.mem_cons.mp hk with z | z
    · rw [z]; exact ⟨h1, by omega⟩
    · exact ch_Lp hst h4 (by omega) k z
theorem ch_Op {st pr li : Int → Int} {r : Int} {l : List Int} (hst : ∀ k : Int, 0 ≤ k → k < 6 → 0 ≤ st k) (h : ch_O st pr li r l) : ∀ k ∈ l, (0 ≤ k ∧ k < 6) ∧ 0 ≤ li k := by
  obtain ⟨G, Mk, hM, hG, -, hl⟩ := h
  exact ch_Lp hst hl (Int.le_refl _)
theorem sw_Dm1 {σ0 : zs_S} {gr d h v : Int} {l1 l2 : List Int} (hI : sw_I σ0) (hg : 1 ≤ gr ∧ gr ≤ 3) (hD : sw_D0 σ0 gr d h v l1 l2) : (∀ x ∈ l1, 0 ≤ x ∧ x < 6) ∧ ∀ x ∈ l2, (0 ≤ x ∧ x < 6) ∧ 50 + σ0 26 3 ≤ sw_s σ0 x ∧ sw_s σ0 x ≤ 4100 := by
  have g0 := hI.2.1
  have key : ∀ {face r : Int} {l : List Int}, ch_O (sw_s σ0) (sw_p σ0 gr) (sw_ls (sw_p σ0 gr) (sw_r σ0 d) face) r l → ∀ x ∈ l, (0 ≤ x ∧ x < 6) ∧ 50 + σ0 26 3 ≤ sw_s σ0 x ∧ sw_s σ0 x ≤ 4100 := fun {face r l} h x hx => by
    obtain ⟨a, b⟩ := ch_Op (fun k k1 k2 => (sw_pb (k := k) hI hg ⟨k1, k2⟩).2.2.1) h x hx
    have c := sw_pb (k := x) hI hg a
    refine ⟨a, ?_, c.2.2.2⟩
    unfold sw_ls at b
    by_cases q : 0 < sw_p σ0 gr x ∧ ¬ sw_r σ0 d x = -1 ∧ face ≤ sw_r σ0 d x
    · have := c.2.1 q.1
      unfold sw_s
      omega
    · rw [if_neg q] at b; omega
  rcases hD with ⟨-, e, o⟩ | ⟨i, -, -, -, -, r1, r2, o1, -, o2, -⟩
  · exact ⟨by rw [e]; simp, key o⟩
  · exact ⟨ch_Om o1, key o2⟩
theorem bo_Tm {st : Int → Int} {gp h : Int} {l1 l2 : List Int} (h1 : ∀ x ∈ l1, 0 ≤ x ∧ x < 6) (h2 : ∀ x ∈ l2, 0 ≤ x ∧ x < 6) : ∀ b ∈ bo_T st gp h l1 l2, 0 ≤ b.1 ∧ b.1 < 6 := by
  have r : ∀ (l : List Int) (x : Int), (∀ x ∈ l, 0 ≤ x ∧ x < 6) → ∀ b ∈ bo_r st l x, 0 ≤ b.1 ∧ b.1 < 6 := by
    intro l
    induction l with
    | nil => intro x _ b hb; simp [bo_r] at hb
    | cons q l ih =>
      intro x hl b hb
      rw [bo_r] at hb
      rcases List.mem_cons.mp hb with z | z
      · rw [z]; exact hl q List.mem_cons_self
      · exact ih _ (fun y hy => hl y (List.mem_cons_of_mem _ hy)) b z
  have s : ∀ (w f : Int) (l : List Int) (x : Int), (∀ x ∈ l, 0 ≤ x ∧ x < 6) → ∀ b ∈ bo_s st w f l x, 0 ≤ b.1 ∧ b.1 < 6 := by
    intro w f l
    induction l with
    | nil => intro x _ b hb; simp [bo_s] at hb
    | cons q l ih =>
      intro x hl b hb
      rw [bo_s] at hb
      rcases List.mem_cons.mp hb with z | z
      · rw [z]; exact hl q List.mem_cons_self
      · exact ih _ (fun y hy => hl y (List.mem_cons_of_mem _ hy)) b z
  intro b hb
  unfold bo_T at hb
  rcases List.mem_append.mp hb with hb | hb
  · rcases List.mem_append.mp hb with hb | hb
    · exact r l1 0 h1 b hb
    · exact s _ _ l2 0 h2 b hb
  · by_cases q : h = -1
    · rw [if_pos q] at hb; simp at hb
    · rw [if_neg q] at hb; exact s _ _ l2 0 h2 b hb
theorem bo_nt {y : Int} {L : List (Int × Int × Int)} {m : Nat} {b : Int × Int × Int} (h : L[m]? = some b) : bo_n y (L.take (m + 1)) = bo_n y (L.take m) + (if b.1 = y then 1 else 0) := by
  have hl := (List.getElem?_eq_some_iff.mp h)
  have e : L.take (m + 1) = L.take m ++ [b] := by
    rw [← hl.2, List.take_append_getElem]
  rw [e, bo_na]
  simp [bo_n]
theorem bo_nb (y : Int) : ∀ L : List (Int × Int × Int), 0 ≤ bo_n y L
  | [] => by simp [bo_n]
  | b :: r => by
    have := bo_nb y r
    rw [bo_n]
    by_cases h : b.1 = y
    · rw [if_pos h]; omega
    · rw [if_neg h]; omega
