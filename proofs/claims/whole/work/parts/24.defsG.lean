/-! THE MATHEMATICS OF THE CLASS, part G: how a chain is solved -/
/-- the places that can be reached are marked, on from those below p -/
def ch_A (σ0 σ : zs_S) (la p : Int) : Prop := zf_x σ0 σ [49] ∧ σ 49 0 = -1 ∧ (∀ x, 0 ≤ x → x ≤ 9100 → σ 49 x = -1 ∨ σ 49 x = σ0 49 x) ∧ (∀ x, 0 ≤ x → x ≤ 9100 → σ 49 x = -1 → x ≤ la) ∧ (∀ x, 0 ≤ x → x < p → σ 49 x = -1 → ∀ k : Int, 0 ≤ k → k < 6 → x + σ0 46 k ≤ σ0 48 k → σ 49 (x + σ0 46 k) = -1)
theorem ch_An {σ0 σ : zs_S} {la p : Int} (h : ch_A σ0 σ la p) (hp : ¬ σ 49 p = -1) : ch_A σ0 σ la (p + 1) := by
  obtain ⟨a, b, c, d, e⟩ := h
  refine ⟨a, b, c, d, fun x h1 h2 h3 => ?_⟩
  rcases (show x < p ∨ x = p by omega) with z | z
  · exact e x h1 z h3
  · subst z; exact absurd h3 hp
theorem ch_Ay {σ0 σ τ : zs_S} {la p : Int} (hI : ch_I σ0) (hJ : ch_J σ0) (hla : 0 ≤ la ∧ la ≤ 9100) (hli : ∀ k : Int, 0 ≤ k → k < 6 → σ0 48 k ≤ la) (hp : 0 ≤ p ∧ p ≤ la) (h : ch_A σ0 σ la p)
    (f : zf_x σ τ [49]) (h1 : ∀ a : Int, 0 ≤ a → a < 6 → p + σ 46 a ≤ σ 48 a → τ 49 (p + σ 46 a) = -1) (h2 : ∀ x, τ 49 x = σ 49 x ∨ (τ 49 x = -1 ∧ ∃ a : Int, 0 ≤ a ∧ a < 6 ∧ p + σ 46 a ≤ σ 48 a ∧ x = p + σ 46 a)) : ch_A σ0 τ la (p + 1) := by
  obtain ⟨a, b, c, d, e⟩ := h
  have e46 : ∀ i, σ 46 i = σ0 46 i := a 46 (by decide)
  have e48 : ∀ i, σ 48 i = σ0 48 i := a 48 (by decide)
  have up : ∀ x, σ 49 x = -1 → τ 49 x = -1 := fun x hx => by
    rcases h2 x with z | z
    · rw [z]; exact hx
    · exact z.1
  refine ⟨zf_t a f (by simp) (by simp), up 0 b, fun x x1 x2 => ?_, fun x x1 x2 x3 => ?_, fun x x1 x2 x3 k k1 k2 k3 => ?_⟩
  · rcases h2 x with z | z
    · rw [z]; exact c x x1 x2
    · exact Or.inl z.1
  · rcases h2 x with z | ⟨-, k, k1, k2, k3, k4⟩
    · rw [z] at x3; exact d x x1 x2 x3
    · rw [e46, e48] at k3
      rw [e46] at k4
      have := hli k k1 k2
      omega
  · have k3' : x + σ 46 k ≤ σ 48 k := by rw [e46, e48]; exact k3
    rcases (show x < p ∨ x = p by omega) with z | z
    · have kb := hI k k1 k2
      have hx3 : σ 49 x = -1 := by
        rcases h2 x with y | ⟨-, q, q1, q2, q3, q4⟩
        · rw [← y]; exact x3
        · rw [e46, e48] at q3
          rw [e46] at q4
          have qb := hI q q1 q2
          have := (qb.2.2.2 (by omega)).1
          omega
      exact up _ (e x x1 z hx3 k k1 k2 k3)
    · subst z
      have := h1 k k1 k2 k3'
      rw [e46] at this
      exact this
/-- the gains of the marked places behind p are worked out -/
def ch_B (σ0 σ1 σ : zs_S) (la p : Int) : Prop := zf_x σ0 σ [49] ∧ (∀ x, p < x → (0 ≤ x ∧ x ≤ la ∧ σ1 49 x = -1) → σ 49 x = ch_f (σ0 46) (σ0 47) (σ0 48) (σ 49) x 6 ∧ 0 ≤ σ 49 x ∧ 50 * σ 49 x ≤ (9150 - x) * 1100000) ∧ (∀ x, x ≤ p → (0 ≤ x ∧ x ≤ la ∧ σ1 49 x = -1) → σ 49 x = -1) ∧ (∀ x, 0 ≤ x → x ≤ 9100 → ¬ (0 ≤ x ∧ x ≤ la ∧ σ1 49 x = -1) → σ 49 x = σ0 49 x)
/-- what mostFrom needs at p -/
theorem ch_Bg {σ0 σ1 σ : zs_S} {la p : Int} (hI : ch_I σ0) (hla : 0 ≤ la ∧ la ≤ 9100) (hli : ∀ k : Int, 0 ≤ k → k < 6 → σ0 48 k ≤ la) (hp : 0 ≤ p ∧ p ≤ la) (hA : ch_A σ0 σ1 la (la + 1)) (h : ch_B σ0 σ1 σ la p) (hm : σ1 49 p = -1) :
    ∀ a : Int, 0 ≤ a → a < 6 → p + σ 46 a ≤ σ 48 a → (0 ≤ p + σ 46 a ∧ p + σ 46 a ≤ la ∧ p < p + σ 46 a) ∧ σ1 49 (p + σ 46 a) = -1 ∧ 0 ≤ σ 49 (p + σ 46 a) ∧ 50 * σ 49 (p + σ 46 a) ≤ (9150 - (p + σ 46 a)) * 1100000 := by
  obtain ⟨a, b, c, d⟩ := h
  obtain ⟨-, -, -, -, e⟩ := hA
  intro k k1 k2 k3
  have e46 : ∀ i, σ 46 i = σ0 46 i := a 46 (by decide)
  have e48 : ∀ i, σ 48 i = σ0 48 i := a 48 (by decide)
  rw [e46, e48] at k3
  have kb := hI k k1 k2
  have l := hli k k1 k2
  have s := (kb.2.2.2 (by omega)).1
  have m2 := e p hp.1 (by omega) hm k k1 k2 k3
  have r := b (p + σ0 46 k) (by omega) ⟨by omega, by omega, m2⟩
  rw [e46]
  exact ⟨by omega, m2, r.2⟩
theorem ch_By {σ0 σ1 σ : zs_S} {la p : Int} (hI : ch_I σ0) (hJ : ch_J σ0) (hla : 0 ≤ la ∧ la ≤ 9100) (hli : ∀ k : Int, 0 ≤ k → k < 6 → σ0 48 k ≤ la) (hp : 0 ≤ p ∧ p ≤ la) (hA : ch_A σ0 σ1 la (la + 1)) (h : ch_B σ0 σ1 σ la p) (hm : σ 49 p = -1) {τ : zs_S} (e : τ = zs_put σ 49 p (ch_f (σ 46) (σ 47) (σ 48) (σ 49) p 6)) : ch_B σ0 σ1 τ la (p - 1) := by
  have h0 := h
  obtain ⟨a, b, c, d⟩ := h
  have mp : σ1 49 p = -1 := Classical.byContradiction fun z => by
    have := d p hp.1 (by omega) (fun y => z y.2.2)
    have := hJ p hp.1 (by omega)
    omega
  have g := ch_Bg hI hla hli hp hA h0 mp
  have e46 : σ 46 = σ0 46 := funext (a 46 (by decide))
  have e47 : σ 47 = σ0 47 := funext (a 47 (by decide))
  have e48 : σ 48 = σ0 48 := funext (a 48 (by decide))
  have fb := ch_fb (st := σ 46) (pr := σ 47) (li := σ 48) (G := σ 49) (x := p) ⟨hp.1, by omega⟩ (fun k k1 k2 k3 => ((hI k k1 k2).2.2.2 (by have := (hI k k1 k2).1; rw [e46, e48] at k3; omega)).1 |> (by rw [e46]; exact ·)) (fun k k1 k2 => by rw [e47]; exact (hI k k1 k2).2.1) (fun k k1 k2 k3 => (g k k1 k2 k3).2.2) 6 (by omega)
  have off : ∀ x, x ≠ p → τ 49 x = σ 49 x := fun x hx => by rw [e, zs_put_off hx]
  have same : ∀ x, p ≤ x → ch_f (σ0 46) (σ0 47) (σ0 48) (τ 49) x 6 = ch_f (σ0 46) (σ0 47) (σ0 48) (σ 49) x 6 := fun x hx => ch_fc (fun k k1 k2 k3 => off _ (by
    have kb := hI k k1 k2
    have := (kb.2.2.2 (by omega)).1
    omega))
  refine ⟨zf_p a e (by decide), fun x x1 x2 => ?_, fun x x1 x2 => ?_, fun x x1 x2 x3 => ?_⟩
  · rw [same x (by omega)]
    rcases (show x = p ∨ p < x by omega) with z | z
    · rw [z, e, zs_put_self, ← e46, ← e47, ← e48]
      exact ⟨rfl, fb⟩
    · rw [off x (by omega)]
      exact b x z x2
  · rw [off x (by omega)]
    exact c x (by omega) x2
  · rw [off x (fun z => x3 (by rw [z]; exact ⟨hp.1, hp.2, mp⟩))]
    exact d x x1 x2 x3
theorem ch_Bn {σ0 σ1 σ : zs_S} {la p : Int} (h : ch_B σ0 σ1 σ la p) (hm : ¬ σ 49 p = -1) : ch_B σ0 σ1 σ la (p - 1) := by
  obtain ⟨a, b, c, d⟩ := h
  refine ⟨a, fun x x1 x2 => ?_, fun x x1 x2 => c x (by omega) x2, d⟩
  rcases (show x = p ∨ p < x by omega) with z | z
  · subst z
    exact absurd (c x (Int.le_refl _) x2) hm
  · exact b x z x2
/-- at the end -/
theorem ch_Be {σ0 σ1 σ : zs_S} {la : Int} (hJ : ch_J σ0) (hla : 0 ≤ la ∧ la ≤ 9100) (hI : ch_I σ0) (hli : ∀ k : Int, 0 ≤ k → k < 6 → σ0 48 k ≤ la) (hA : ch_A σ0 σ1 la (la + 1)) (h : ch_B σ0 σ1 σ la (-1)) : zf_x σ0 σ [49] ∧ ch_S σ ∧ ch_J σ := by
  obtain ⟨a, b, c, d⟩ := h
  obtain ⟨-, a2, -, -, a5⟩ := hA
  have e46 : σ 46 = σ0 46 := funext (a 46 (by decide))
  have e47 : σ 47 = σ0 47 := funext (a 47 (by decide))
  have e48 : σ 48 = σ0 48 := funext (a 48 (by decide))
  refine ⟨a, ⟨fun x => 0 ≤ x ∧ x ≤ la ∧ σ1 49 x = -1, ⟨⟨by omega, by omega, a2⟩, fun x hx => ⟨⟨hx.1, by omega⟩, fun k k1 k2 k3 => ?_⟩⟩, fun x hx => ?_⟩, fun x x1 x2 => ?_⟩
  · rw [e46, e48] at k3
    rw [e46]
    have := hli k k1 k2
    have := (hI k k1 k2).1
    exact ⟨by omega, by omega, a5 x hx.1 (by omega) hx.2.2 k k1 k2 k3⟩
  · rw [e46, e47, e48]
    exact (b x (by omega) hx).1
  · by_cases hx : 0 ≤ x ∧ x ≤ la ∧ σ1 49 x = -1
    · have := (b x (by omega) hx).2
      omega
    · rw [d x x1 x2 hx]
      exact hJ x x1 x2
