/-! THE MATHEMATICS OF THE CLASS, part I: sawing -/
/-- the most valuable chain: its gain r, its sizes l -/
def ch_O (st pr li : Int → Int) (r : Int) (l : List Int) : Prop := ∃ (G : Int → Int) (Mk : Int → Prop), ch_M st li Mk ∧ (∀ x, Mk x → G x = ch_f st pr li G x 6) ∧ r = G 0 ∧ ch_L st pr li G l 0
theorem ch_fd {st pr li st' pr' li' G : Int → Int} {x : Int} : ∀ {m : Nat}, (∀ k : Int, 0 ≤ k → k < m → st k = st' k ∧ pr k = pr' k ∧ li k = li' k) → ch_f st pr li G x m = ch_f st' pr' li' G x m
  | 0, _ => rfl
  | m + 1, h => by
    have ih := ch_fd (G := G) (x := x) (m := m) (fun k a b => h k a (by omega))
    obtain ⟨a, b, c⟩ := h m (by omega) (by omega)
    rw [ch_f, ch_f, ih, a, b, c]
theorem ch_Ld {st pr li st' pr' li' G : Int → Int} (h : ∀ k : Int, 0 ≤ k → k < 6 → st k = st' k ∧ pr k = pr' k ∧ li k = li' k) : ∀ {l : List Int} {x : Int}, ch_L st pr li G l x → ch_L st' pr' li' G l x
  | [], x, hl => fun k a b => by
    obtain ⟨e1, e2, e3⟩ := h k a b
    have := hl k a b
    unfold ch_c at this ⊢
    rw [← e1, ← e2, ← e3]
    exact this
  | q :: l, x, ⟨h1, h2, h3, h4⟩ => by
    obtain ⟨e1, e2, e3⟩ := h q h1.1 h1.2
    refine ⟨h1, by unfold ch_c at h2 ⊢; rw [← e1, ← e2, ← e3]; exact h2, fun k a b => ?_, by rw [← e1]; exact ch_Ld h h4⟩
    obtain ⟨f1, f2, f3⟩ := h k a (by omega)
    have := h3 k a b
    unfold ch_c at this ⊢
    rw [← f1, ← f2, ← f3]
    exact this
theorem ch_Od {st pr li st' pr' li' : Int → Int} {r : Int} {l : List Int} (h : ∀ k : Int, 0 ≤ k → k < 6 → st k = st' k ∧ pr k = pr' k ∧ li k = li' k) (hO : ch_O st pr li r l) : ch_O st' pr' li' r l := by
  obtain ⟨G, Mk, ⟨m1, m2⟩, b, c, d⟩ := hO
  refine ⟨G, Mk, ⟨m1, fun x hx => ⟨(m2 x hx).1, fun k k1 k2 k3 => ?_⟩⟩, fun x hx => ?_, c, ch_Ld h d⟩
  · obtain ⟨e1, e2, e3⟩ := h k k1 k2
    rw [← e1, ← e3] at k3
    rw [← e1]
    exact (m2 x hx).2 k k1 k2 k3
  · rw [b x hx]
    exact ch_fd (fun k k1 k2 => h k k1 (by omega))
/-- gain and sizes of a chain are one -/
theorem ch_Gu {st pr li G E : Int → Int} {Mk Nk : Int → Prop} (hst : ∀ k : Int, 0 ≤ k → k < 6 → 0 ≤ st k ∧ (0 ≤ li k → 50 ≤ st k)) (hM : ch_M st li Mk) (hN : ch_M st li Nk) (hG : ∀ x, Mk x → G x = ch_f st pr li G x 6) (hE : ∀ x, Nk x → E x = ch_f st pr li E x 6) : ∀ (n : Nat) (x : Int), (9101 - x).toNat < n → Mk x → Nk x → G x = E x := by
  intro n
  induction n with
  | zero => intro x h; exact absurd h (by omega)
  | succ n ih =>
    intro x h hx hy
    rw [hG x hx, hE x hy]
    refine ch_fc (fun k k1 k2 k3 => ?_)
    have k2' : k < 6 := k2
    have b := (hM.2 x hx).1
    have s := hst k k1 k2'
    have s2 := s.2 (by omega)
    have mm := (hM.2 x hx).2 k k1 k2' k3
    have b2 := (hM.2 _ mm).1
    exact ih (x + st k) (by omega) mm ((hN.2 x hy).2 k k1 k2' k3)
theorem ch_Lu {st pr li G E : Int → Int} {Mk Nk : Int → Prop} (hM : ch_M st li Mk) (hN : ch_M st li Nk) (hGE : ∀ x, Mk x → Nk x → G x = E x) : ∀ {l m : List Int} {x : Int}, Mk x → Nk x → ch_L st pr li G l x → ch_L st pr li E m x → l = m := by
  have cc : ∀ x, Mk x → Nk x → ∀ k : Int, 0 ≤ k → k < 6 → (ch_c st pr li G x k ↔ ch_c st pr li E x k) := fun x hx hy k k1 k2 => by
    unfold ch_c
    rw [hGE x hx hy]
    constructor
    · rintro ⟨a, b⟩
      exact ⟨a, by rw [← hGE _ ((hM.2 x hx).2 k k1 k2 a) ((hN.2 x hy).2 k k1 k2 a)]; exact b⟩
    · rintro ⟨a, b⟩
      exact ⟨a, by rw [hGE _ ((hM.2 x hx).2 k k1 k2 a) ((hN.2 x hy).2 k k1 k2 a)]; exact b⟩
  intro l
  induction l with
  | nil =>
    intro m x hx hy h1 h2
    cases m with
    | nil => rfl
    | cons q r => exact absurd ((cc x hx hy q h2.1.1 h2.1.2).mpr h2.2.1) (h1 q h2.1.1 h2.1.2)
  | cons p l ih =>
    intro m x hx hy h1 h2
    obtain ⟨a1, a2, a3, a4⟩ := h1
    cases m with
    | nil => exact absurd ((cc x hx hy p a1.1 a1.2).mp a2) (h2 p a1.1 a1.2)
    | cons q r =>
      obtain ⟨b1, b2, b3, b4⟩ := h2
      have e : p = q := by
        rcases Int.lt_trichotomy p q with c | c | c
        · exact absurd ((cc x hx hy p a1.1 a1.2).mp a2) (b3 p a1.1 c)
        · exact c
        · exact absurd ((cc x hx hy q b1.1 b1.2).mpr b2) (a3 q b1.1 c)
      subst e
      rw [ih ((hM.2 x hx).2 p a1.1 a1.2 a2.1) ((hN.2 x hy).2 p a1.1 a1.2 a2.1) a4 b4]
theorem ch_Ou {st pr li : Int → Int} {r s : Int} {l m : List Int} (hst : ∀ k : Int, 0 ≤ k → k < 6 → 0 ≤ st k ∧ (0 ≤ li k → 50 ≤ st k)) (h1 : ch_O st pr li r l) (h2 : ch_O st pr li s m) : r = s ∧ l = m := by
  obtain ⟨G, Mk, hM, hG, rfl, hl⟩ := h1
  obtain ⟨E, Nk, hN, hE, rfl, hm⟩ := h2
  have key : ∀ x, Mk x → Nk x → G x = E x := fun x hx hy => ch_Gu hst hM hN hG hE _ x (Nat.lt_succ_self _) hx hy
  exact ⟨key 0 hM.1 hN.1, ch_Lu hM hN key hM.1 hN.1 hl hm⟩
theorem ch_Om {st pr li : Int → Int} {r : Int} {l : List Int} (h : ch_O st pr li r l) : ∀ k ∈ l, 0 ≤ k ∧ k < 6 := by
  obtain ⟨G, Mk, hM, hG, -, hl⟩ := h
  exact ch_Lm hl
/-- limits of a stack on a face, of a row in a cant -/
def sw_ls (pr rc : Int → Int) (face : Int) : Int → Int := fun k => if 0 < pr k ∧ ¬ rc k = -1 ∧ face ≤ rc k then (rc k - face) / 2 else -1
def sw_lr (wd pr : Int → Int) (h wi gp : Int) : Int → Int := fun k => if wd k = h ∧ 0 < pr k ∧ ¬ wi = -1 then wi + gp else -1
/-- the sizes, the kerf, the heights, the orders -/
def sw_I (σ : zs_S) : Prop := (∀ j : Int, 0 ≤ j → j < 6 → (σ (28 + 2 * j.toNat) 0 = 0 ∨ (50 ≤ σ (28 + 2 * j.toNat) 0 ∧ σ (28 + 2 * j.toNat) 0 ≤ 4000)) ∧ (0 ≤ σ (28 + 2 * j.toNat) 1 ∧ σ (28 + 2 * j.toNat) 1 ≤ 4000) ∧ ∀ i : Int, 0 ≤ i → i < 3 → 0 ≤ σ (29 + 2 * j.toNat) i ∧ σ (29 + 2 * j.toNat) i ≤ 1000000) ∧ (0 ≤ σ 26 3 ∧ σ 26 3 ≤ 100) ∧ (∀ i : Int, 0 ≤ i → i < 4 → σ 44 i = 0 ∨ (300 ≤ σ 44 i ∧ σ 44 i ≤ 5000)) ∧ od_I σ
/-- step, price and width of size k -/
def sw_s (σ : zs_S) (k : Int) : Int := σ (28 + 2 * k.toNat) 0 + σ 26 3
def sw_p (σ : zs_S) (gr k : Int) : Int := if 0 < σ (28 + 2 * k.toNat) 0 then σ (29 + 2 * k.toNat) (gr - 1) + od_a (σ 42) (σ 43) (σ 41 k) 4 else 0
def sw_w (σ : zs_S) (k : Int) : Int := σ (28 + 2 * k.toNat) 1
def sw_r (σ : zs_S) (d k : Int) : Int := ro_m d (sw_w σ k)
theorem ro_mb {a b : Int} (ha : 0 ≤ a ∧ a ≤ 9000) (hb : 0 ≤ b) : -1 ≤ ro_m a b ∧ ro_m a b ≤ 9000 := by
  unfold ro_m
  by_cases h : a * a - b * b < 0
  · rw [if_pos h]; omega
  · rw [if_neg h]
    have h0 : (0 : Int) ≤ a * a - b * b := by omega
    have hb2 : 0 ≤ b * b := Int.mul_nonneg hb hb
    have ha2 : a * a ≤ 9000 * 9000 := Int.mul_le_mul ha.2 ha.2 ha.1 (by decide)
    obtain ⟨h1, h2, h3⟩ := ro_rs (a * a - b * b) 14 0 (Int.le_refl _) (by simpa using h0) (by
      show a * a - b * b < (0 + 2 ^ 14) * (0 + 2 ^ 14)
      have : ((0 : Int) + 2 ^ 14) * (0 + 2 ^ 14) = 268435456 := by decide
      omega)
    refine ⟨by omega, ?_⟩
    rcases (show 9000 < ro_r (a * a - b * b) 14 0 ∨ ro_r (a * a - b * b) 14 0 ≤ 9000 by omega) with c | c
    · have : 9001 * 9001 ≤ ro_r (a * a - b * b) 14 0 * ro_r (a * a - b * b) 14 0 := Int.mul_le_mul (by omega) (by omega) (by decide) (by omega)
      omega
    · exact c
theorem sw_pb {σ : zs_S} {gr k : Int} (hI : sw_I σ) (hg : 1 ≤ gr ∧ gr ≤ 3) (hk : 0 ≤ k ∧ k < 6) : (0 ≤ sw_p σ gr k ∧ sw_p σ gr k ≤ 1100000) ∧ (0 < sw_p σ gr k → 50 ≤ σ (28 + 2 * k.toNat) 0) ∧ (0 ≤ sw_s σ k ∧ sw_s σ k ≤ 4100) := by
  obtain ⟨a, b, c, d⟩ := hI
  obtain ⟨a1, a2, a3⟩ := a k hk.1 hk.2
  have a4 := a3 (gr - 1) (by omega) (by omega)
  have o := od_b (sh := σ 42) (ad := σ 43) (nd := σ 41 k) (fun j y1 y2 => (d.2 j y1 y2).2) 4 (by omega)
  unfold sw_p sw_s
  by_cases h : 0 < σ (28 + 2 * k.toNat) 0
  · rw [if_pos h]; omega
  · rw [if_neg h]; omega
/-- the chain stands ready: steps, prices and reaches of a log -/
def sw_C (σ : zs_S) (s p r : Int → Int) (gp : Int) : Prop := (0 ≤ gp ∧ gp ≤ 100 ∧ σ 26 3 = gp) ∧ ch_J σ ∧ ∀ k : Int, 0 ≤ k → k < 6 → (σ 46 k = s k ∧ σ 47 k = p k ∧ σ 50 k = r k) ∧ (0 ≤ s k ∧ s k ≤ 4100) ∧ (0 ≤ p k ∧ p k ≤ 1100000) ∧ (0 < p k → 50 + gp ≤ s k) ∧ (-1 ≤ r k ∧ r k ≤ 9000)
/-- a stack of the sizes l on a face: A the sizes, P the places -/
def st_R (st A P : Int → Int) (face : Int) (l : List Int) : Prop := ∀ (i : Nat) (k : Int), l[i]? = some k → A i = k ∧ P i = face + 2 * ch_t st (l.take (i + 1))
theorem ch_tk {st : Int → Int} : ∀ {l : List Int} {i : Nat} {k : Int}, l[i]? = some k → ch_t st (l.take (i + 1)) = ch_t st (l.take i) + st k
  | [], i, k, h => by simp at h
  | q :: r, 0, k, h => by
    simp at h
    subst h
    simp [ch_t]
  | q :: r, i + 1, k, h => by
    rw [List.getElem?_cons_succ] at h
    rw [List.take_succ_cons, List.take_succ_cons, ch_t, ch_t, ch_tk h]
    omega
