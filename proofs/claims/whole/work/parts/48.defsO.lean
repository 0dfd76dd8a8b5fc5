/-! CLASS AND REFERENCE, part D: the same chains -/
theorem ro_i {a b x : Int} (ha : 0 ≤ a ∧ a ≤ 9000) (hb : 0 ≤ b) (hx : 0 ≤ x) : (b * b + x * x ≤ a * a) ↔ (¬ ro_m a b = -1 ∧ x ≤ ro_m a b) := by
  have hx2 : 0 ≤ x * x := Int.mul_nonneg hx hx
  have hb2 : 0 ≤ b * b := Int.mul_nonneg hb hb
  have ha2 : a * a ≤ 9000 * 9000 := Int.mul_le_mul ha.2 ha.2 ha.1 (by decide)
  unfold ro_m
  by_cases h : a * a - b * b < 0
  · rw [if_pos h]
    constructor
    · intro z; omega
    · intro z; exact absurd rfl z.1
  · rw [if_neg h]
    have h0 : (0 : Int) ≤ a * a - b * b := by omega
    obtain ⟨h1, h2, h3⟩ := ro_rs (a * a - b * b) 14 0 (Int.le_refl _) (by simpa using h0) (by
      show a * a - b * b < (0 + 2 ^ 14) * (0 + 2 ^ 14)
      have : ((0 : Int) + 2 ^ 14) * (0 + 2 ^ 14) = 268435456 := by decide
      omega)
    generalize ro_r (a * a - b * b) 14 0 = r at h1 h2 h3 ⊢
    constructor
    · intro z
      refine ⟨by omega, ?_⟩
      rcases (show x ≤ r ∨ r + 1 ≤ x by omega) with c | c
      · exact c
      · have : (r + 1) * (r + 1) ≤ x * x := Int.mul_le_mul c c (by omega) (by omega)
        omega
    · rintro ⟨-, z⟩
      have : x * x ≤ r * r := Int.mul_le_mul z z hx h1
      omega
theorem ch_Gb {st pr li G : Int → Int} {Mk : Int → Prop} (hst : ∀ k : Int, 0 ≤ k → k < 6 → 0 ≤ st k ∧ (0 ≤ li k → 50 ≤ st k)) (hpr : ∀ k : Int, 0 ≤ k → k < 6 → 0 ≤ pr k ∧ pr k ≤ 1100000) (hM : ch_M st li Mk) (hG : ∀ x, Mk x → G x = ch_f st pr li G x 6) : ∀ (n : Nat) (x : Int), (9101 - x).toNat < n → Mk x → 0 ≤ G x ∧ 50 * G x ≤ (9150 - x) * 1100000 := by
  intro n
  induction n with
  | zero => intro x h; exact absurd h (by omega)
  | succ n ih =>
    intro x h hx
    rw [hG x hx]
    have b := hM.2 x hx
    refine ch_fb b.1 (fun k k1 k2 k3 => ?_) hpr (fun k k1 k2 k3 => ?_) 6 (by omega)
    · have s := hst k k1 k2
      exact s.2 (by omega)
    · have s := hst k k1 k2
      have s2 := s.2 (by omega)
      have m := b.2 k k1 k2 k3
      have b2 := (hM.2 _ m).1
      exact ih (x + st k) (by omega) m
/-- chains by places and by positions -/
theorem mq_tr {st pr li G pr' φ ψ : Int → Int} {Mk : Int → Prop} {N : Int → Int → Int} (hst : ∀ k : Int, 0 ≤ k → k < 6 → 0 ≤ st k ∧ (0 ≤ li k → 50 ≤ st k)) (hM : ch_M st li Mk) (hG : ∀ x, Mk x → G x = ch_f st pr li G x 6)
    (hpr : ∀ k : Int, 0 ≤ k → k < 6 → (0 ≤ pr k ∧ pr k ≤ 1100000) ∧ pr' k = pr k ∧ (0 ≤ li k → 0 < pr k)) (hφ : ∀ x, Mk x → ψ (φ x) = x ∧ 0 ≤ φ x ∧ φ x ≤ 9300)
    (hN : ∀ x, Mk x → ∀ k : Int, 0 ≤ k → k < 6 → (x + st k ≤ li k → N (φ x) k = φ (x + st k) ∧ φ x + 50 ≤ φ (x + st k)) ∧ (¬ x + st k ≤ li k → N (φ x) k = -1)) :
    mq_W N pr' (fun p => G (ψ p)) (fun p => ∃ x, Mk x ∧ p = φ x) ∧ ∀ (l : List Int) (x : Int), Mk x → ch_L st pr li G l x → mq_L N pr' (fun p => G (ψ p)) l (φ x) := by
  have key : ∀ x, Mk x → ∀ k : Int, 0 ≤ k → k < 6 → 0 ≤ N (φ x) k → x + st k ≤ li k := fun x hx k k1 k2 k3 => Classical.byContradiction fun z => by
    have := (hN x hx k k1 k2).2 z
    omega
  have cc : ∀ x, Mk x → ∀ k : Int, 0 ≤ k → k < 6 → (mq_c N pr' (fun p => G (ψ p)) (φ x) k ↔ ch_c st pr li G x k) := fun x hx k k1 k2 => by
    unfold mq_c ch_c
    constructor
    · rintro ⟨y, z⟩
      have q := key x hx k k1 k2 y
      refine ⟨q, ?_⟩
      have m := (hM.2 x hx).2 k k1 k2 q
      rw [((hN x hx k k1 k2).1 q).1] at z
      simp only [(hφ x hx).1, (hφ _ m).1, (hpr k k1 k2).2.1] at z
      exact z
    · rintro ⟨y, z⟩
      have m := (hM.2 x hx).2 k k1 k2 y
      rw [((hN x hx k k1 k2).1 y).1]
      simp only [(hφ x hx).1, (hφ _ m).1, (hpr k k1 k2).2.1]
      exact ⟨(hφ _ m).2.1, z⟩
  refine ⟨?_, ?_⟩
  · rintro p ⟨x, hx, rfl⟩
    have gb := ch_Gb hst (fun k k1 k2 => (hpr k k1 k2).1) hM hG _ x (Nat.lt_succ_self _) hx
    have b := (hM.2 x hx).1
    obtain ⟨f1, f2, f3⟩ := ch_fs (st := st) (pr := pr) (li := li) (G := G) (x := x) 6
    rw [← hG x hx] at f1 f2 f3
    refine ⟨⟨(hφ x hx).2, by simp only [(hφ x hx).1]; omega⟩, fun k k1 k2 k3 => ?_, ?_⟩
    · have q := key x hx k k1 k2 k3
      have m := (hM.2 x hx).2 k k1 k2 q
      obtain ⟨e, e2⟩ := (hN x hx k k1 k2).1 q
      have f := f2 k k1 k2 q
      have s := (hst k k1 k2).1
      have pp := (hpr k k1 k2).2.2 (by omega)
      have pb := (hpr k k1 k2).1
      rw [e]
      simp only [(hφ x hx).1, (hφ _ m).1, (hpr k k1 k2).2.1]
      exact ⟨⟨_, m, rfl⟩, e2, f, pp, pb.2⟩
    · rcases f3 with z | ⟨k, k1, k2, k3, k4⟩
      · exact Or.inl (by simp only [(hφ x hx).1]; exact z)
      · exact Or.inr ⟨k, k1, k2, (cc x hx k k1 k2).mpr ⟨k3, k4⟩⟩
  · intro l
    induction l with
    | nil =>
      intro x hx h k k1 k2 z
      exact h k k1 k2 ((cc x hx k k1 k2).mp z)
    | cons q l ih =>
      rintro x hx ⟨h1, h2, h3, h4⟩
      have m := (hM.2 x hx).2 q h1.1 h1.2 h2.1
      refine ⟨h1, (cc x hx q h1.1 h1.2).mpr h2, fun k k1 k2 z => h3 k k1 k2 ((cc x hx k k1 (by omega)).mp z), ?_⟩
      rw [((hN x hx q h1.1 h1.2).1 h2.1).1]
      exact ih _ m h4
/-- there is a best chain -/
def ch_x (st pr li : Int → Int) : Nat → Int → Int
  | 0, _ => 0
  | m + 1, x => ch_f st pr li (ch_x st pr li m) x 6
theorem ch_xs {st pr li : Int → Int} (hst : ∀ k : Int, 0 ≤ k → k < 6 → 0 ≤ st k ∧ (0 ≤ li k → 50 ≤ st k)) (hli : ∀ k : Int, 0 ≤ k → k < 6 → li k ≤ 9100) : ∀ (m : Nat) (x : Int), 0 ≤ x → 9101 - x ≤ m → ch_x st pr li (m + 1) x = ch_x st pr li m x
  | 0, x, h0, h => by
    have e : ∀ j : Nat, j ≤ 6 → ch_f st pr li (ch_x st pr li 0) x j = 0 := by
      intro j
      induction j with
      | zero => intro _; rfl
      | succ j ih =>
        intro hj
        have := hst j (by omega) (by omega)
        have := hli j (by omega) (by omega)
        rw [ch_f, if_neg (by omega)]
        exact ih (by omega)
    exact e 6 (by omega)
  | m + 1, x, h0, h => by
    show ch_f st pr li (ch_x st pr li (m + 1)) x 6 = ch_f st pr li (ch_x st pr li m) x 6
    refine ch_fc (fun k k1 k2 k3 => ?_)
    have s := hst k k1 k2
    have s2 := s.2 (by omega)
    exact ch_xs hst hli m (x + st k) (by omega) (by omega)
theorem ch_low (P : Int → Prop) : ∀ m : Nat, (∀ k : Int, 0 ≤ k → k < m → ¬ P k) ∨ ∃ r : Int, 0 ≤ r ∧ r < m ∧ P r ∧ ∀ k : Int, 0 ≤ k → k < r → ¬ P k
  | 0 => Or.inl (fun k a b => absurd b (by omega))
  | m + 1 => by
    rcases ch_low P m with z | ⟨r, a, b, c, d⟩
    · by_cases h : P m
      · exact Or.inr ⟨m, by omega, by omega, h, z⟩
      · refine Or.inl (fun k a b => ?_)
        rcases (show k < (m : Int) ∨ k = m by omega) with y | y
        · exact z k a y
        · subst y; exact h
    · exact Or.inr ⟨r, a, by omega, c, d⟩
theorem ch_xl {st pr li G : Int → Int} (hst : ∀ k : Int, 0 ≤ k → k < 6 → 0 ≤ st k ∧ (0 ≤ li k → 50 ≤ st k)) (hli : ∀ k : Int, 0 ≤ k → k < 6 → li k ≤ 9100) : ∀ (n : Nat) (x : Int), (9101 - x).toNat < n → 0 ≤ x → ∃ l, ch_L st pr li G l x := by
  intro n
  induction n with
  | zero => intro x h; exact absurd h (by omega)
  | succ n ih =>
    intro x h h0
    rcases ch_low (ch_c st pr li G x) 6 with z | ⟨r, a, b, c, d⟩
    · exact ⟨[], z⟩
    · have b' : r < 6 := b
      have s := hst r a b'
      have c1 := c.1
      have s2 := s.2 (by omega)
      have l1 := hli r a b'
      obtain ⟨l, hl⟩ := ih (x + st r) (by omega) (by omega)
      exact ⟨r :: l, ⟨a, b'⟩, c, d, hl⟩
theorem ch_E {st pr li : Int → Int} (hst : ∀ k : Int, 0 ≤ k → k < 6 → 0 ≤ st k ∧ (0 ≤ li k → 50 ≤ st k)) (hli : ∀ k : Int, 0 ≤ k → k < 6 → li k ≤ 9100) : ∃ r l, ch_O st pr li r l := by
  obtain ⟨l, hl⟩ := ch_xl (pr := pr) (G := ch_x st pr li 9102) hst hli _ 0 (Nat.lt_succ_self _) (Int.le_refl _)
  refine ⟨_, l, ch_x st pr li 9102, fun x => 0 ≤ x ∧ x ≤ 9100, ⟨⟨by omega, by omega⟩, fun x hx => ⟨hx, fun k k1 k2 k3 => ?_⟩⟩, fun x hx => ?_, rfl, hl⟩
  · have s := (hst k k1 k2).1
    have l1 := hli k k1 k2
    omega
  · rw [← ch_xs hst hli 9102 x hx.1 (by omega)]
    rfl
/-- the row of a cant -/
theorem sq_row {σ0 σ : zs_S} {gr h d r : Int} {l : List Int} (hM : md_S σ0 σ) (hg : 1 ≤ gr ∧ gr ≤ 3) (hp : ∀ y : Int, 0 ≤ y → y < 6 → σ 84 y = sw_p σ0 gr y) (hh : 0 < h) (hd : 0 ≤ d ∧ d ≤ 9000) (hO : ch_O (sw_s σ0) (sw_p σ0 gr) (sw_lr (sw_w σ0) (sw_p σ0 gr) h (ro_m d h) (σ0 26 3)) r l) : ∃ (G : Int → Int) (R : Int → Prop), mq_W (sq_N σ 1 h d) (σ 84) G R ∧ R 0 ∧ mq_L (sq_N σ 1 h d) (σ 84) G l 0 ∧ G 0 = r := by
  obtain ⟨G, Mk, hK, hG, hr, hl⟩ := hO
  obtain ⟨hI, hz, hkf, hof⟩ := id hM
  have g0 := hI.2.1
  have hU : sw_U (sw_s σ0) (sw_p σ0 gr) := fun k k1 k2 => by
    have b := sw_pb (k := k) hI hg ⟨k1, k2⟩
    unfold sw_s at b ⊢
    exact ⟨b.2.2.1, fun z => by have := b.2.1 z; omega⟩
  have rb := ro_mb (a := d) (b := h) hd (by omega)
  have hpr : ∀ k : Int, 0 ≤ k → k < 6 → (0 ≤ sw_p σ0 gr k ∧ sw_p σ0 gr k ≤ 1100000) ∧ σ 84 k = sw_p σ0 gr k ∧ (0 ≤ sw_lr (sw_w σ0) (sw_p σ0 gr) h (ro_m d h) (σ0 26 3) k → 0 < sw_p σ0 gr k) := fun k k1 k2 => ⟨(sw_pb hI hg ⟨k1, k2⟩).1, hp k k1 k2, fun z => by
    unfold sw_lr at z
    by_cases c : sw_w σ0 k = h ∧ 0 < sw_p σ0 gr k ∧ ¬ ro_m d h = -1
    · exact c.2.1
    · rw [if_neg c] at z; omega⟩
  obtain ⟨t1, t2⟩ := mq_tr (N := sq_N σ 1 h d) (pr' := σ 84) (φ := fun x => x) (ψ := fun x => x) (sw_ur hU) hK hG hpr (fun x hx => ⟨rfl, (hK.2 x hx).1.1, by have := (hK.2 x hx).1; omega⟩) (fun x hx k k1 k2 => by
    have bx := (hK.2 x hx).1
    obtain ⟨z1, z2, -, -⟩ := hz k k1 k2
    have e1 : σ 76 k = sw_s σ0 k - σ0 26 3 := by rw [z1]; unfold sw_s; omega
    have e2 : σ 77 k = sw_w σ0 k := z2
    have e3 := hp k k1 k2
    have b := sw_pb (k := k) hI hg ⟨k1, k2⟩
    have th : 0 ≤ σ 76 k := by rw [z1]; have := (hI.1 k k1 k2).1; omega
    have ri := ro_i (a := d) (b := h) (x := x + σ 76 k) hd (by omega) (by omega)
    have eN : sq_N σ 1 h d x k = if σ 84 k = 0 ∨ ¬ σ 77 k = h ∨ ¬ (x + σ 76 k) * (x + σ 76 k) + h * h ≤ d * d then -1 else x + σ 76 k + σ 67 17 := by unfold sq_N sq_b; rw [if_pos rfl]
    unfold sw_lr
    by_cases c : sw_w σ0 k = h ∧ 0 < sw_p σ0 gr k ∧ ¬ ro_m d h = -1
    · rw [if_pos c]
      refine ⟨fun y => ?_, fun y => ?_⟩
      · have q := ri.mpr ⟨c.2.2, by omega⟩
        have u := (hU k k1 k2).2 c.2.1
        show sq_N σ 1 h d x k = x + sw_s σ0 k ∧ x + 50 ≤ x + sw_s σ0 k
        rw [eN, if_neg (by
          rintro (z | z | z)
          · omega
          · exact z (e2.trans c.1)
          · omega)]
        omega
      · show sq_N σ 1 h d x k = -1
        rw [eN, if_pos (Or.inr (Or.inr (fun z => y (by
          have := (ri.mp (by omega)).2
          omega))))]
    · rw [if_neg c]
      refine ⟨fun y => by omega, fun _ => ?_⟩
      show sq_N σ 1 h d x k = -1
      rw [eN, if_pos]
      by_cases c1 : σ 84 k = 0
      · exact Or.inl c1
      · by_cases c2 : σ 77 k = h
        · refine Or.inr (Or.inr (fun z => c ⟨e2.symm.trans c2, by omega, (ri.mp (by omega)).1⟩))
        · exact Or.inr (Or.inl c2))
  exact ⟨_, _, t1, ⟨0, hK.1, rfl⟩, t2 l 0 hK.1 hl, hr.symm⟩
/-- a stack on a face; f: where the reference begins -/
theorem sq_stk {σ0 σ : zs_S} {gr d r f face : Int} {l : List Int} (hM : md_S σ0 σ) (hg : 1 ≤ gr ∧ gr ≤ 3) (hp : ∀ y : Int, 0 ≤ y → y < 6 → σ 84 y = sw_p σ0 gr y) (hf : (face = f ∧ 0 < f ∧ f ≤ 5000) ∨ (f = 0 ∧ face = -2 * σ0 26 3)) (hd : 0 ≤ d ∧ d ≤ 9000) (hO : ch_O (sw_s σ0) (sw_p σ0 gr) (sw_ls (sw_p σ0 gr) (sw_r σ0 d) face) r l) : ∃ (G : Int → Int) (R : Int → Prop), mq_W (sq_N σ 0 0 d) (σ 84) G R ∧ R f ∧ mq_L (sq_N σ 0 0 d) (σ 84) G l f ∧ G f = r := by
  obtain ⟨G, Mk, hK, hG, hr, hl⟩ := hO
  obtain ⟨hI, hz, hkf, hof⟩ := id hM
  have g0 := hI.2.1
  have hU : sw_U (sw_s σ0) (sw_p σ0 gr) := fun k k1 k2 => by
    have b := sw_pb (k := k) hI hg ⟨k1, k2⟩
    unfold sw_s at b ⊢
    exact ⟨b.2.2.1, fun z => by have := b.2.1 z; omega⟩
  have hU2 : ∀ k : Int, 0 ≤ k → k < 6 → 0 < sw_p σ0 gr k → 50 + σ0 26 3 ≤ sw_s σ0 k := fun k k1 k2 z => by
    have b := (sw_pb (k := k) hI hg ⟨k1, k2⟩).2.1 z
    unfold sw_s
    omega
  have wb : ∀ k : Int, 0 ≤ k → k < 6 → 0 ≤ sw_w σ0 k := fun k k1 k2 => (hI.1 k k1 k2).2.1.1
  have rb : ∀ k : Int, 0 ≤ k → k < 6 → -1 ≤ sw_r σ0 d k ∧ sw_r σ0 d k ≤ 9000 := fun k k1 k2 => ro_mb hd (wb k k1 k2)
  have lp : ∀ k : Int, 0 ≤ sw_ls (sw_p σ0 gr) (sw_r σ0 d) face k → (0 < sw_p σ0 gr k ∧ ¬ sw_r σ0 d k = -1 ∧ face ≤ sw_r σ0 d k) ∧ sw_ls (sw_p σ0 gr) (sw_r σ0 d) face k = (sw_r σ0 d k - face) / 2 := fun k z => by
    unfold sw_ls at z ⊢
    by_cases c : 0 < sw_p σ0 gr k ∧ ¬ sw_r σ0 d k = -1 ∧ face ≤ sw_r σ0 d k
    · exact ⟨c, if_pos c⟩
    · rw [if_neg c] at z; omega
  have hpr : ∀ k : Int, 0 ≤ k → k < 6 → (0 ≤ sw_p σ0 gr k ∧ sw_p σ0 gr k ≤ 1100000) ∧ σ 84 k = sw_p σ0 gr k ∧ (0 ≤ sw_ls (sw_p σ0 gr) (sw_r σ0 d) face k → 0 < sw_p σ0 gr k) := fun k k1 k2 => ⟨(sw_pb hI hg ⟨k1, k2⟩).1, hp k k1 k2, fun z => (lp k z).1.1⟩
  have hK2 : ch_M (sw_s σ0) (sw_ls (sw_p σ0 gr) (sw_r σ0 d) face) (fun x => Mk x ∧ (x = 0 ∨ (50 + σ0 26 3 ≤ x ∧ face + 2 * x ≤ 9000))) := ⟨⟨hK.1, Or.inl rfl⟩, fun x hx => ⟨(hK.2 x hx.1).1, fun k k1 k2 k3 => ⟨(hK.2 x hx.1).2 k k1 k2 k3, Or.inr (by
    have b := (hK.2 x hx.1).1
    have s := (hU k k1 k2).1
    obtain ⟨q, e⟩ := lp k (by omega)
    have u := hU2 k k1 k2 q.1
    have r := rb k k1 k2
    omega)⟩⟩⟩
  obtain ⟨t1, t2⟩ := mq_tr (N := sq_N σ 0 0 d) (pr' := σ 84) (φ := fun x => if x = 0 then f else face + 2 * x) (ψ := fun p => if p = f then 0 else (p - face) / 2) (sw_us hU) hK2 (fun x hx => hG x hx.1) hpr (fun x hx => by
    rcases hx.2 with z | z
    · subst z
      simp
      omega
    · have n0 : ¬ x = 0 := by omega
      simp only [if_neg n0]
      rw [if_neg (by omega)]
      omega) (fun x hx k k1 k2 => by
    have bx := (hK.2 x hx.1).1
    obtain ⟨z1, z2, -, -⟩ := hz k k1 k2
    have e1 : σ 76 k = sw_s σ0 k - σ0 26 3 := by rw [z1]; unfold sw_s; omega
    have e2 : σ 77 k = sw_w σ0 k := z2
    have e3 := hp k k1 k2
    have b := sw_pb (k := k) hI hg ⟨k1, k2⟩
    have th : 0 ≤ σ 76 k := by rw [z1]; have := (hI.1 k k1 k2).1; omega
    have et : sq_t σ (if x = 0 then f else face + 2 * x) k = face + 2 * (x + sw_s σ0 k) := by
      unfold sq_t
      rcases hx.2 with z | z
      · subst z
        simp only [if_true, ite_true]
        rcases hf with y | y
        · rw [if_neg (by omega)]; omega
        · rw [if_pos (by omega)]; omega
      · rw [if_neg (show ¬ x = 0 by omega), if_neg (by omega)]; omega
    have ez : ∀ y, sq_N σ 0 0 d y k = if σ 84 k = 0 ∨ ¬ σ 77 k * σ 77 k + sq_t σ y k * sq_t σ y k ≤ d * d then -1 else sq_t σ y k := fun y => by unfold sq_N sq_a; rw [if_neg (by decide)]
    have eN := ez (if x = 0 then f else face + 2 * x)
    rw [et, e2] at eN
    have t0 : 0 ≤ face + 2 * (x + sw_s σ0 k) := by
      rcases hf with y | y
      · omega
      · omega
    have ri := ro_i (a := d) (b := sw_w σ0 k) (x := face + 2 * (x + sw_s σ0 k)) hd (wb k k1 k2) t0
    have rr := rb k k1 k2
    by_cases c : 0 < sw_p σ0 gr k ∧ ¬ sw_r σ0 d k = -1 ∧ face ≤ sw_r σ0 d k
    · have el : sw_ls (sw_p σ0 gr) (sw_r σ0 d) face k = (sw_r σ0 d k - face) / 2 := by unfold sw_ls; rw [if_pos c]
      rw [el]
      have u := hU2 k k1 k2 c.1
      refine ⟨fun y => ?_, fun y => ?_⟩
      · have q := ri.mpr ⟨c.2.1, by show _ ≤ sw_r σ0 d k; omega⟩
        have n0 : ¬ x + sw_s σ0 k = 0 := by omega
        show sq_N σ 0 0 d (if x = 0 then f else face + 2 * x) k = (if x + sw_s σ0 k = 0 then f else face + 2 * (x + sw_s σ0 k)) ∧ (if x = 0 then f else face + 2 * x) + 50 ≤ (if x + sw_s σ0 k = 0 then f else face + 2 * (x + sw_s σ0 k))
        rw [eN, if_neg n0, if_neg (by
          rintro (z | z)
          · omega
          · exact z q)]
        refine ⟨rfl, ?_⟩
        rcases hx.2 with z | z
        · rw [if_pos z]; omega
        · rw [if_neg (by omega)]; omega
      · show sq_N σ 0 0 d (if x = 0 then f else face + 2 * x) k = -1
        rw [eN, if_pos (Or.inr (fun z => y (by
          have q : face + 2 * (x + sw_s σ0 k) ≤ sw_r σ0 d k := (ri.mp z).2
          omega)))]
    · have el : sw_ls (sw_p σ0 gr) (sw_r σ0 d) face k = -1 := by unfold sw_ls; rw [if_neg c]
      rw [el]
      refine ⟨fun y => by omega, fun _ => ?_⟩
      show sq_N σ 0 0 d (if x = 0 then f else face + 2 * x) k = -1
      rw [eN, if_pos]
      by_cases c1 : σ 84 k = 0
      · exact Or.inl c1
      · refine Or.inr (fun z => c ?_)
        obtain ⟨q1, q2⟩ := ri.mp z
        have q3 : face + 2 * (x + sw_s σ0 k) ≤ sw_r σ0 d k := q2
        exact ⟨by omega, q1, by omega⟩)
  refine ⟨_, _, t1, ⟨0, hK2.1, by simp⟩, ?_, ?_⟩
  · have := t2 l 0 hK2.1 hl
    simpa using this
  · show G (if f = f then 0 else (f - face) / 2) = r
    rw [if_pos rfl]
    exact hr.symm
