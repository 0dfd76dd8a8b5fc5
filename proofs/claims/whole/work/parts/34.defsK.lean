/-! THE MATHEMATICS OF THE CLASS, part K: choosing the pattern -/
theorem sw_Bt {a b c d e f : Int} (h1 : sw_B a b c d) (h2 : sw_B c d e f) : sw_B a b e f := by
  unfold sw_B at *
  omega
/-- steps of sizes that stand are 50 at least -/
def sw_U (s pr : Int → Int) : Prop := ∀ k : Int, 0 ≤ k → k < 6 → 0 ≤ s k ∧ (0 < pr k → 50 ≤ s k)
theorem sw_us {s pr rc : Int → Int} {face : Int} (h : sw_U s pr) : ∀ k : Int, 0 ≤ k → k < 6 → 0 ≤ s k ∧ (0 ≤ sw_ls pr rc face k → 50 ≤ s k) := fun k a b => ⟨(h k a b).1, fun z => (h k a b).2 (by
  unfold sw_ls at z
  by_cases c : 0 < pr k ∧ ¬ rc k = -1 ∧ face ≤ rc k
  · exact c.1
  · rw [if_neg c] at z; omega)⟩
theorem sw_ur {s pr wd : Int → Int} {h wi gp : Int} (hU : sw_U s pr) : ∀ k : Int, 0 ≤ k → k < 6 → 0 ≤ s k ∧ (0 ≤ sw_lr wd pr h wi gp k → 50 ≤ s k) := fun k a b => ⟨(hU k a b).1, fun z => (hU k a b).2 (by
  unfold sw_lr at z
  by_cases c : wd k = h ∧ 0 < pr k ∧ ¬ wi = -1
  · exact c.2.1
  · rw [if_neg c] at z; omega)⟩
/-- no height at place a: nothing comes -/
theorem sw_X0 {s pr rc wd hs : Int → Int} {gp d a h v : Int} (hX : sw_X s pr rc wd gp d hs a h v) (h0 : hs a ≤ 0) : sw_X s pr rc wd gp d hs (a + 1) h v := by
  intro h' v' l1' l2' hD
  rcases hD with z | ⟨i, i1, i2, i3, i4, z⟩
  · exact hX h' v' l1' l2' (Or.inl z)
  · rcases (show i < a ∨ i = a by omega) with c | c
    · exact hX h' v' l1' l2' (Or.inr ⟨i, i1, c, i3, i4, z⟩)
    · subst c; omega
/-- the height at place a has no row -/
theorem sw_X1 {s pr rc wd hs : Int → Int} {gp d a h v r : Int} {l : List Int} (hU : sw_U s pr) (hX : sw_X s pr rc wd gp d hs a h v) (hO : ch_O s pr (sw_lr wd pr (hs a) (ro_m d (hs a)) gp) r l) (hr : r = 0) : sw_X s pr rc wd gp d hs (a + 1) h v := by
  intro h' v' l1' l2' hD
  rcases hD with z | ⟨i, i1, i2, i3, i4, r1, r2, o1, o2, z⟩
  · exact hX h' v' l1' l2' (Or.inl z)
  · rcases (show i < a ∨ i = a by omega) with c | c
    · exact hX h' v' l1' l2' (Or.inr ⟨i, i1, c, i3, i4, r1, r2, o1, o2, z⟩)
    · subst c; subst i3
      have := (ch_Ou (sw_ur hU) hO o1).1
      omega
/-- the pattern of the height at place a isn't better -/
theorem sw_X2 {s pr rc wd hs : Int → Int} {gp d a h v r1 r2 : Int} {l1 l2 : List Int} (hU : sw_U s pr) (hX : sw_X s pr rc wd gp d hs a h v) (o1 : ch_O s pr (sw_lr wd pr (hs a) (ro_m d (hs a)) gp) r1 l1) (o2 : ch_O s pr (sw_ls pr rc (hs a)) r2 l2) (hn : ¬ sw_B (r1 + 2 * r2) (hs a) v h) : sw_X s pr rc wd gp d hs (a + 1) h v := by
  intro h' v' l1' l2' hD
  rcases hD with z | ⟨i, i1, i2, i3, i4, q1, q2, p1, p2, p3, p4⟩
  · exact hX h' v' l1' l2' (Or.inl z)
  · rcases (show i < a ∨ i = a by omega) with c | c
    · exact hX h' v' l1' l2' (Or.inr ⟨i, i1, c, i3, i4, q1, q2, p1, p2, p3, p4⟩)
    · subst c; subst i3
      have e1 := (ch_Ou (sw_ur hU) o1 p1).1
      have e2 := (ch_Ou (sw_us hU) o2 p3).1
      rw [p4, ← e1, ← e2]
      exact hn
/-- it is better -/
theorem sw_X3 {s pr rc wd hs : Int → Int} {gp d a h v r1 r2 : Int} {l1 l2 : List Int} (hU : sw_U s pr) (hX : sw_X s pr rc wd gp d hs a h v) (o1 : ch_O s pr (sw_lr wd pr (hs a) (ro_m d (hs a)) gp) r1 l1) (o2 : ch_O s pr (sw_ls pr rc (hs a)) r2 l2) (hb : sw_B (r1 + 2 * r2) (hs a) v h) : sw_X s pr rc wd gp d hs (a + 1) (hs a) (r1 + 2 * r2) := by
  intro h' v' l1' l2' hD
  rcases hD with z | ⟨i, i1, i2, i3, i4, q1, q2, p1, p2, p3, p4⟩
  · exact fun y => hX h' v' l1' l2' (Or.inl z) (sw_Bt y hb)
  · rcases (show i < a ∨ i = a by omega) with c | c
    · exact fun y => hX h' v' l1' l2' (Or.inr ⟨i, i1, c, i3, i4, q1, q2, p1, p2, p3, p4⟩) (sw_Bt y hb)
    · subst c; subst i3
      have e1 := (ch_Ou (sw_ur hU) o1 p1).1
      have e2 := (ch_Ou (sw_us hU) o2 p3).1
      rw [p4, ← e1, ← e2]
      unfold sw_B
      omega
theorem sw_Xn {s pr rc wd hs : Int → Int} {gp d v : Int} {l : List Int} (hU : sw_U s pr) (o : ch_O s pr (sw_ls pr rc (-2 * gp)) v l) : sw_X s pr rc wd gp d hs 0 (-1) v := by
  intro h' v' l1' l2' hD
  rcases hD with ⟨z1, z2, z3⟩ | ⟨i, i1, i2, z⟩
  · have := (ch_Ou (sw_us hU) o z3).1
    unfold sw_B
    omega
  · omega
/-- all cells but those that sawing writes -/
def sw_Q (σ τ : zs_S) : Prop := ∀ c : Nat, (c < 46 ∨ 66 < c) → c ≠ 26 → ∀ i, τ c i = σ c i
/-- what sawing leaves: the pattern u is the latest, its boards are delivered -/
def sw_O (σ τ : zs_S) (d gr h v : Int) (l1 l2 : List Int) (u p : Nat) : Prop := sw_D (sw_s σ) (sw_p σ gr) (sw_r σ d) (sw_w σ) (σ 26 3) d (σ 44) 4 h v l1 l2 ∧ sw_X (sw_s σ) (sw_p σ gr) (sw_r σ d) (sw_w σ) (σ 26 3) d (σ 44) 4 h v ∧ (zs_p u ∧ zs_p p ∧ u ≠ p) ∧ (τ 26 6 = u ∧ τ 26 7 = p ∧ τ 26 3 = σ 26 3) ∧ pd_R τ u (sw_s σ) h v l1 l2 (sw_F (σ 26 3) h) ∧ (∀ y : Int, 0 ≤ y → y < 6 → τ (u + 7) y = sw_p σ gr y ∧ τ 41 y = max 0 (σ 41 y - (ln_n y l1 + pa_s h * ln_n y l2))) ∧ ch_J τ ∧ pa_I τ u ∧ (∀ c : Nat, (c < 46 ∨ 66 < c) → c ≠ 26 → c ≠ 41 → ∀ i, τ c i = σ c i)
