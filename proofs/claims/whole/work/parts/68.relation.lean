/-! CLASS AND REFERENCE, part G: what holds between them after every call -/
def rl_L (σ : zs_S) (b : Nat) : Prop := σ b 0 = σ 67 10 ∧ (0 ≤ σ b 0 ∧ σ b 0 ≤ 40) ∧ (∀ i : Int, 0 ≤ i → i < σ b 0 * 6 → σ (b + 1) i = σ 75 i ∧ 0 ≤ σ (b + 1) i ∧ σ (b + 1) i ≤ 1000000) ∧ (∀ i : Int, 0 ≤ i → i < σ b 0 → (50 ≤ σ (b + 1) (i * 6 + 2) ∧ σ (b + 1) (i * 6 + 2) ≤ 900) ∧ (1 ≤ σ (b + 1) (i * 6 + 4) ∧ σ (b + 1) (i * 6 + 4) ≤ 3))
def rl_P (σ : zs_S) (u : Nat) : Prop := (σ 67 20 = pa_n σ u ∧ σ 67 21 = σ u 0) ∧ pa_I σ u ∧ (∀ i c : Int, 0 ≤ i → i < pa_n σ u → 0 ≤ c → c ≤ 3 → pa_F σ u i c = σ 83 (4 * i + c) ∧ zi_r (pa_F σ u i c))
def rl_G (σ : zs_S) (b q u p : Nat) : Prop := (zs_q b ∧ zs_q q ∧ q ≠ b ∧ σ 1 4 = b ∧ σ 1 5 = q) ∧ (zs_p p ∧ zs_p u ∧ u ≠ p ∧ σ 26 6 = u ∧ σ 26 7 = p)
def rl_R (σ : zs_S) (n : Int) (b q u p : Nat) : Prop := md_A σ n ∧ md_S σ σ ∧ σ 2 3 = σ 67 3 ∧ rl_L σ b ∧ rl_G σ b q u p ∧ σ 20 (n + 1) = 0 ∧ rl_P σ u ∧ ch_J σ
theorem pa_nb {σ : zs_S} {u : Nat} (h : pa_I σ u) : 0 ≤ pa_n σ u ∧ pa_n σ u ≤ 360 := by
  obtain ⟨-, -, a, b, -, -⟩ := h
  unfold pa_n
  rcases pa_sb (σ u 0) with z | z <;> rw [z] <;> omega
theorem rl_Lx {σ τ : zs_S} {b : Nat} (h : rl_L σ b) (h1 : ∀ i, τ b i = σ b i) (h2 : ∀ i, τ (b + 1) i = σ (b + 1) i) (h3 : ∀ i, τ 75 i = σ 75 i) (h4 : τ 67 10 = σ 67 10) : rl_L τ b := by
  unfold rl_L
  rw [show τ b = σ b from funext h1, show τ (b + 1) = σ (b + 1) from funext h2, show τ 75 = σ 75 from funext h3, h4]
  exact h
theorem rl_Px {σ τ : zs_S} {u : Nat} (h : rl_P σ u) (h1 : ∀ c, u ≤ c → c ≤ u + 7 → ∀ i, τ c i = σ c i) (h2 : ∀ i, τ 83 i = σ 83 i) (h3 : τ 67 20 = σ 67 20) (h4 : τ 67 21 = σ 67 21) : rl_P τ u := by
  have e0 : τ u = σ u := funext (h1 _ (by omega) (by omega))
  have e1 : τ (u + 1) = σ (u + 1) := funext (h1 _ (by omega) (by omega))
  have e2 : τ (u + 1 + 1) = σ (u + 1 + 1) := funext (h1 _ (by omega) (by omega))
  have e3 : τ (u + 1 + 2) = σ (u + 1 + 2) := funext (h1 _ (by omega) (by omega))
  have e4 : τ (u + 4) = σ (u + 4) := funext (h1 _ (by omega) (by omega))
  have e5 : τ (u + 4 + 1) = σ (u + 4 + 1) := funext (h1 _ (by omega) (by omega))
  have e6 : τ (u + 4 + 2) = σ (u + 4 + 2) := funext (h1 _ (by omega) (by omega))
  have e7 : τ (u + 7) = σ (u + 7) := funext (h1 _ (by omega) (by omega))
  unfold rl_P pa_I pa_n pa_F at *
  rw [e0, e1, e2, e3, e4, e5, e6, e7, show τ 83 = σ 83 from funext h2, h3, h4]
  exact h
theorem rl_Sx {σ τ : zs_S} (h : md_S σ σ) (h1 : ∀ c : Nat, ((28 ≤ c ∧ c ≤ 39) ∨ (41 ≤ c ∧ c ≤ 44) ∨ (76 ≤ c ∧ c ≤ 82)) → ∀ i, τ c i = σ c i) (h2 : τ 26 3 = σ 26 3) (h3 : τ 67 17 = σ 67 17) : md_S τ τ := by
  obtain ⟨⟨a1, a2, a3, a4, a5⟩, b, c, d⟩ := h
  refine ⟨⟨fun j x y => ?_, by rw [h2]; exact a2, fun i x y => ?_, fun k x y => ?_, fun k x y => ?_⟩, fun j x y => ?_, by rw [h3, h2]; exact c, fun i x y => ?_⟩
  · rw [h1 (28 + 2 * j.toNat) (by omega), h1 (28 + 2 * j.toNat) (by omega)]
    obtain ⟨p, q, r⟩ := a1 j x y
    exact ⟨p, q, fun i i1 i2 => by rw [h1 (29 + 2 * j.toNat) (by omega)]; exact r i i1 i2⟩
  · rw [h1 44 (by omega)]; exact a3 i x y
  · rw [h1 41 (by omega)]; exact a4 k x y
  · rw [h1 42 (by omega), h1 43 (by omega)]; exact a5 k x y
  · obtain ⟨p, q, r, s⟩ := b j x y
    exact ⟨by rw [h1 76 (by omega), h1 (28 + 2 * j.toNat) (by omega)]; exact p, by rw [h1 77 (by omega), h1 (28 + 2 * j.toNat) (by omega)]; exact q, by rw [h1 79 (by omega), h1 41 (by omega)]; exact r, fun t t1 t2 => by rw [h1 78 (by omega), h1 (29 + 2 * j.toNat) (by omega)]; exact s t t1 t2⟩
  · obtain ⟨p, q, r⟩ := d i x y
    exact ⟨by rw [h1 80 (by omega), h1 44 (by omega)]; exact p, by rw [h1 81 (by omega), h1 42 (by omega)]; exact q, by rw [h1 82 (by omega), h1 43 (by omega)]; exact r⟩
/-- what calls that set something leave -/
theorem rl_set {σ τ : zs_S} {n : Int} {b q u p : Nat} (h : rl_R σ n b q u p) (hA : md_A τ n) (hS : md_S τ τ) (hd : τ 2 3 = τ 67 3) (f : ∀ c : Nat, (c = 1 ∨ c = 20 ∨ (22 ≤ c ∧ c ≤ 25) ∨ (49 ≤ c ∧ c ≤ 66) ∨ c = 75 ∨ c = 83) → ∀ i, τ c i = σ c i) (g6 : τ 26 6 = σ 26 6) (g7 : τ 26 7 = σ 26 7) (m : ∀ y, (y = 10 ∨ y = 20 ∨ y = 21) → τ 67 y = σ 67 y) : rl_R τ n b q u p := by
  obtain ⟨-, -, -, hL, ⟨⟨q1, q2, q3, q4, q5⟩, p1, p2, p3, p4, p5⟩, h20, hP, hJ⟩ := h
  refine ⟨hA, hS, hd, rl_Lx hL (f b (by omega)) (f (b + 1) (by omega)) (f 75 (by omega)) (m 10 (by omega)), ⟨⟨q1, q2, q3, by rw [f 1 (by omega)]; exact q4, by rw [f 1 (by omega)]; exact q5⟩, p1, p2, p3, by rw [g6]; exact p4, by rw [g7]; exact p5⟩, by rw [f 20 (by omega)]; exact h20, rl_Px hP (fun c c1 c2 => f c (by omega)) (f 83 (by omega)) (m 20 (by omega)) (m 21 (by omega)), fun x x1 x2 => by rw [f 49 (by omega)]; exact hJ x x1 x2⟩
/-- nothing has changed but thrown and the law's own cell -/
theorem rl_E {σ τ : zs_S} {n : Int} {b q u p : Nat} (h : rl_R σ n b q u p) (e : ∀ c : Nat, c ≠ 67 → c ≠ 90 → ∀ i, τ c i = σ c i) (m : ∀ y, y ≠ 0 → τ 67 y = σ 67 y) : rl_R τ n b q u p :=
  rl_set h (md_Ax h.1 (fun c hc i => e c (by omega) (by omega) i) (m 1 (by decide)) (m 3 (by decide))) (rl_Sx h.2.1 (fun c hc i => e c (by omega) (by omega) i) (e 26 (by decide) (by decide) 3) (m 17 (by decide))) (by rw [e 2 (by decide) (by decide), m 3 (by decide)]; exact h.2.2.1) (fun c hc i => e c (by omega) (by omega) i) (e 26 (by decide) (by decide) 6) (e 26 (by decide) (by decide) 7) (fun y hy => m y (by omega))
theorem rl_0 {σ : zs_S} {n : Int} {b q u p : Nat} (h : rl_R σ n b q u p) (v : Int) : rl_R (zs_put σ 67 0 v) n b q u p :=
  rl_E h (fun c c1 _ i => zs_put_ne c1 i) (fun y hy => zs_put_off hy)
theorem rl_diam {σ τ : zs_S} {n a x : Int} {b q u p : Nat} (h : rl_R σ n b q u p) (hc : (0 ≤ a ∧ a ≤ n) ∧ 50 ≤ x ∧ x ≤ 900) (e3 : ∀ i, τ 3 i = if i = a then x else σ 3 i) (e68 : ∀ i, τ 68 i = if i = a then x else σ 68 i) (eo : ∀ c : Nat, c ≠ 3 → c ≠ 68 → c ≠ 67 → ∀ i, τ c i = σ c i) (m : ∀ y, y ≠ 0 → τ 67 y = σ 67 y) : rl_R τ n b q u p := by
  refine rl_set h ?_ (rl_Sx h.2.1 (fun c hc i => eo c (by omega) (by omega) (by omega) i) (eo 26 (by decide) (by decide) (by decide) 3) (m 17 (by decide))) (by rw [eo 2 (by decide) (by decide) (by decide), m 3 (by decide)]; exact h.2.2.1) (fun c hc i => eo c (by omega) (by omega) (by omega) i) (eo 26 (by decide) (by decide) (by decide) 6) (eo 26 (by decide) (by decide) (by decide) 7) (fun y hy => m y (by omega))
  obtain ⟨⟨n1, n2, n3, n4, n5⟩, hK, h1, hd, hk, hf, hdf, hgr⟩ := h.1
  refine ⟨⟨n1, n2, by rw [eo 2 (by decide) (by decide) (by decide)]; exact n3, fun p p1 p2 => ?_, fun p p1 p2 => by rw [eo 4 (by decide) (by decide) (by decide)]; exact n5 p p1 p2⟩, ks_kx hK (fun c c1 c2 i => eo c (by omega) (by omega) (by omega) i), by rw [m 1 (by decide)]; exact h1, fun p p1 p2 => by rw [e3, e68, hd p p1 p2], fun j j1 j2 => ?_, by rw [m 3 (by decide)]; exact hf, fun k k1 k2 => ?_, fun p p1 p2 => ?_⟩
  · rw [e3]
    by_cases z : p = a
    · rw [if_pos z]; exact hc.2
    · rw [if_neg z]; exact n4 p p1 p2
  · obtain ⟨q1, q2, q3⟩ := hk j j1 j2
    exact ⟨by rw [eo 72 (by decide) (by decide) (by decide), eo _ (by omega) (by omega) (by omega)]; exact q1, by rw [eo 73 (by decide) (by decide) (by decide), eo _ (by omega) (by omega) (by omega)]; exact q2, fun t r t1 t2 r1 r2 => by rw [eo 74 (by decide) (by decide) (by decide), eo _ (by omega) (by omega) (by omega)]; exact q3 t r t1 t2 r1 r2⟩
  · rw [m 3 (by decide)] at k2
    rw [eo 69 (by decide) (by decide) (by decide), eo 70 (by decide) (by decide) (by decide), eo 71 (by decide) (by decide) (by decide)]
    exact hdf k k1 k2
  · rw [eo 4 (by decide) (by decide) (by decide), m 3 (by decide), show τ 69 = σ 69 from funext (eo 69 (by decide) (by decide) (by decide)), show τ 70 = σ 70 from funext (eo 70 (by decide) (by decide) (by decide)), show τ 71 = σ 71 from funext (eo 71 (by decide) (by decide) (by decide))]
    exact hgr p p1 p2
theorem gr_c {F T G F' T' G' : Int → Int} {a b : Int} : ∀ {k : Nat}, (∀ i : Int, 0 ≤ i → i < k → F' i = F i ∧ T' i = T i ∧ G' i = G i) → gr_t F' T' G' a b k = gr_t F T G a b k
  | 0, _ => rfl
  | k + 1, h => by
    obtain ⟨e1, e2, e3⟩ := h k (by omega) (by omega)
    rw [gr_t, gr_t, gr_c (fun i i1 i2 => h i i1 (by omega)), e1, e2, e3]
theorem rl_def {σ τ : zs_S} {n a x c : Int} {b q u p : Nat} (h : rl_R σ n b q u p) (hc : ((0 ≤ x ∧ x ≤ n) ∧ (0 ≤ a ∧ a ≤ x) ∧ (2 ≤ c ∧ c ≤ 3)) ∧ σ 2 3 < 20) (d2 : τ 2 3 = σ 2 3 + 1) (d0 : τ 2 0 = σ 2 0) (d4 : ∀ p, τ 4 p = if a ≤ p ∧ p ≤ x then max (σ 4 p) c else σ 4 p) (m3 : τ 67 3 = σ 67 3 + 1) (f1 : τ 69 (σ 67 3) = a ∧ τ 70 (σ 67 3) = x ∧ τ 71 (σ 67 3) = c) (f2 : ∀ y, y ≠ σ 67 3 → τ 69 y = σ 69 y ∧ τ 70 y = σ 70 y ∧ τ 71 y = σ 71 y) (eo : ∀ c : Nat, c ≠ 2 → c ≠ 4 → c ≠ 67 → c ≠ 69 → c ≠ 70 → c ≠ 71 → ∀ i, τ c i = σ c i) (m : ∀ y, y ≠ 0 → y ≠ 3 → τ 67 y = σ 67 y) : rl_R τ n b q u p := by
  have ee : ∀ c : Nat, (c ≠ 2 ∧ c ≠ 4 ∧ c ≠ 67 ∧ c ≠ 69 ∧ c ≠ 70 ∧ c ≠ 71) → ∀ i, τ c i = σ c i := fun c h i => eo c h.1 h.2.1 h.2.2.1 h.2.2.2.1 h.2.2.2.2.1 h.2.2.2.2.2 i
  have h23 := h.2.2.1
  refine rl_set h ?_ (rl_Sx h.2.1 (fun c hc i => ee c (by omega) i) (ee 26 (by omega) 3) (m 17 (by decide) (by decide))) (by rw [d2, m3, h23]) (fun c hc i => ee c (by omega) i) (ee 26 (by omega) 6) (ee 26 (by omega) 7) (fun y hy => m y (by omega) (by omega))
  obtain ⟨⟨n1, n2, n3, n4, n5⟩, hK, h1, hd, hk, hf, hdf, hgr⟩ := h.1
  refine ⟨⟨n1, n2, by rw [d0]; exact n3, fun p p1 p2 => by rw [ee 3 (by omega)]; exact n4 p p1 p2, fun p p1 p2 => ?_⟩, ks_kx hK (fun c c1 c2 i => ee c (by omega) i), by rw [m 1 (by decide) (by decide)]; exact h1, fun p p1 p2 => by rw [ee 68 (by omega), ee 3 (by omega)]; exact hd p p1 p2, fun j j1 j2 => ?_, by rw [m3]; omega, fun k k1 k2 => ?_, fun p p1 p2 => ?_⟩
  · have := n5 p p1 p2
    rw [d4]
    by_cases z : a ≤ p ∧ p ≤ x
    · rw [if_pos z]; omega
    · rw [if_neg z]; exact this
  · obtain ⟨q1, q2, q3⟩ := hk j j1 j2
    exact ⟨by rw [ee 72 (by omega), ee _ (by omega)]; exact q1, by rw [ee 73 (by omega), ee _ (by omega)]; exact q2, fun t r t1 t2 r1 r2 => by rw [ee 74 (by omega), ee _ (by omega)]; exact q3 t r t1 t2 r1 r2⟩
  · rcases (show k = σ 67 3 ∨ k < σ 67 3 by omega) with z | z
    · rw [z, f1.1, f1.2.1, f1.2.2]; omega
    · obtain ⟨g1, g2, g3⟩ := f2 k (by omega)
      rw [g1, g2, g3]; exact hdf k k1 z
  · rw [m3, show (σ 67 3 + 1).toNat = (σ 67 3).toNat + 1 by omega, gr_t, gr_c (F := σ 69) (T := σ 70) (G := σ 71) (fun i i1 i2 => f2 i (by omega)), ← hgr p p1 p2, show (((σ 67 3).toNat : Nat) : Int) = σ 67 3 by omega, f1.1, f1.2.1, f1.2.2, d4]
theorem rl_kind {σ τ : zs_S} {n a x c : Int} {b q u p : Nat} (h : rl_R σ n b q u p) (hc : (0 ≤ a ∧ a ≤ 5) ∧ (1 ≤ x ∧ x ≤ 60) ∧ (0 ≤ c ∧ c ≤ 900)) (k0 : τ (8 + 2 * a.toNat) 0 = x) (k1 : τ (8 + 2 * a.toNat) 1 = c) (k2 : ∀ i : Int, 0 ≤ i → i < 57 → τ (9 + 2 * a.toNat) i = 0) (m1 : τ 72 a = x ∧ τ 73 a = c) (m2 : ∀ y, y ≠ a → τ 72 y = σ 72 y ∧ τ 73 y = σ 73 y) (m4 : ∀ y, τ 74 y = if 76 * a ≤ y ∧ y < 76 * a + 76 then 0 else σ 74 y) (eo : ∀ c : Nat, c ≠ 8 + 2 * a.toNat → c ≠ 9 + 2 * a.toNat → c ≠ 67 → c ≠ 72 → c ≠ 73 → c ≠ 74 → ∀ i, τ c i = σ c i) (m : ∀ y, y ≠ 0 → τ 67 y = σ 67 y) : rl_R τ n b q u p := by
  have ee : ∀ c : Nat, (c ≠ 8 + 2 * a.toNat ∧ c ≠ 9 + 2 * a.toNat ∧ c ≠ 67 ∧ c ≠ 72 ∧ c ≠ 73 ∧ c ≠ 74) → ∀ i, τ c i = σ c i := fun c h i => eo c h.1 h.2.1 h.2.2.1 h.2.2.2.1 h.2.2.2.2.1 h.2.2.2.2.2 i
  have h23 := h.2.2.1
  refine rl_set h ?_ (rl_Sx h.2.1 (fun c hc i => ee c (by omega) i) (ee 26 (by omega) 3) (m 17 (by decide))) (by rw [ee 2 (by omega), m 3 (by decide)]; exact h23) (fun c hc i => ee c (by omega) i) (ee 26 (by omega) 6) (ee 26 (by omega) 7) (fun y hy => m y (by omega))
  obtain ⟨⟨n1, n2, n3, n4, n5⟩, hK, h1, hd, hk, hf, hdf, hgr⟩ := h.1
  refine ⟨⟨n1, n2, by rw [ee 2 (by omega)]; exact n3, fun p p1 p2 => by rw [ee 3 (by omega)]; exact n4 p p1 p2, fun p p1 p2 => by rw [ee 4 (by omega)]; exact n5 p p1 p2⟩, fun j j1 j2 => ?_, by rw [m 1 (by decide)]; exact h1, fun p p1 p2 => by rw [ee 68 (by omega), ee 3 (by omega)]; exact hd p p1 p2, fun j j1 j2 => ?_, by rw [m 3 (by decide)]; exact hf, fun k k1 k2 => ?_, fun p p1 p2 => ?_⟩
  · by_cases z : j = a
    · subst z
      rw [k0, k1]
      exact ⟨by omega, by omega, fun i i1 i2 => by rw [k2 i i1 i2]; omega⟩
    · rw [ee (8 + 2 * j.toNat) (by omega), ee (8 + 2 * j.toNat) (by omega)]
      obtain ⟨q1, q2, q3⟩ := hK j j1 j2
      exact ⟨q1, q2, fun i i1 i2 => by rw [ee (9 + 2 * j.toNat) (by omega)]; exact q3 i i1 i2⟩
  · by_cases z : j = a
    · subst z
      rw [k0, k1, m1.1, m1.2]
      refine ⟨rfl, rfl, fun t r t1 t2 r1 r2 => ?_⟩
      rw [m4, if_pos (by omega), k2 _ (by omega) (by omega)]
    · obtain ⟨q1, q2, q3⟩ := hk j j1 j2
      rw [ee (8 + 2 * j.toNat) (by omega), ee (8 + 2 * j.toNat) (by omega), (m2 j z).1, (m2 j z).2]
      refine ⟨q1, q2, fun t r t1 t2 r1 r2 => ?_⟩
      rw [m4, if_neg (by omega), ee (9 + 2 * j.toNat) (by omega)]
      exact q3 t r t1 t2 r1 r2
  · rw [m 3 (by decide)] at k2
    rw [ee 69 (by omega), ee 70 (by omega), ee 71 (by omega)]
    exact hdf k k1 k2
  · rw [ee 4 (by omega), m 3 (by decide), show τ 69 = σ 69 from funext (ee 69 (by omega)), show τ 70 = σ 70 from funext (ee 70 (by omega)), show τ 71 = σ 71 from funext (ee 71 (by omega))]
    exact hgr p p1 p2
theorem rl_price {σ τ : zs_S} {n a x c d : Int} {b q u p : Nat} (h : rl_R σ n b q u p) (hc : ((0 ≤ a ∧ a ≤ 5) ∧ (0 ≤ x ∧ x ≤ 18)) ∧ (1 ≤ c ∧ c ≤ 3) ∧ (0 ≤ d ∧ d ≤ 1000000)) (k2 : ∀ i, τ (9 + 2 * a.toNat) i = if i = x * 3 + c - 1 then d else σ (9 + 2 * a.toNat) i) (m4 : ∀ y, τ 74 y = if y = 76 * a + 4 * x + c then d else σ 74 y) (eo : ∀ c : Nat, c ≠ 9 + 2 * a.toNat → c ≠ 67 → c ≠ 74 → ∀ i, τ c i = σ c i) (m : ∀ y, y ≠ 0 → τ 67 y = σ 67 y) : rl_R τ n b q u p := by
  have ee : ∀ c : Nat, (c ≠ 9 + 2 * a.toNat ∧ c ≠ 67 ∧ c ≠ 74) → ∀ i, τ c i = σ c i := fun c h i => eo c h.1 h.2.1 h.2.2 i
  have h23 := h.2.2.1
  refine rl_set h ?_ (rl_Sx h.2.1 (fun c hc i => ee c (by omega) i) (ee 26 (by omega) 3) (m 17 (by decide))) (by rw [ee 2 (by omega), m 3 (by decide)]; exact h23) (fun c hc i => ee c (by omega) i) (ee 26 (by omega) 6) (ee 26 (by omega) 7) (fun y hy => m y (by omega))
  obtain ⟨⟨n1, n2, n3, n4, n5⟩, hK, h1, hd, hk, hf, hdf, hgr⟩ := h.1
  refine ⟨⟨n1, n2, by rw [ee 2 (by omega)]; exact n3, fun p p1 p2 => by rw [ee 3 (by omega)]; exact n4 p p1 p2, fun p p1 p2 => by rw [ee 4 (by omega)]; exact n5 p p1 p2⟩, fun j j1 j2 => ?_, by rw [m 1 (by decide)]; exact h1, fun p p1 p2 => by rw [ee 68 (by omega), ee 3 (by omega)]; exact hd p p1 p2, fun j j1 j2 => ?_, by rw [m 3 (by decide)]; exact hf, fun k k1 k2 => ?_, fun p p1 p2 => ?_⟩
  · obtain ⟨q1, q2, q3⟩ := hK j j1 j2
    rw [ee (8 + 2 * j.toNat) (by omega), ee (8 + 2 * j.toNat) (by omega)]
    refine ⟨q1, q2, fun i i1 i2 => ?_⟩
    by_cases z : j = a
    · subst z
      rw [k2]
      by_cases y : i = x * 3 + c - 1
      · rw [if_pos y]; omega
      · rw [if_neg y]; exact q3 i i1 i2
    · rw [ee (9 + 2 * j.toNat) (by omega)]; exact q3 i i1 i2
  · obtain ⟨q1, q2, q3⟩ := hk j j1 j2
    rw [ee (8 + 2 * j.toNat) (by omega), ee (8 + 2 * j.toNat) (by omega), ee 72 (by omega), ee 73 (by omega)]
    refine ⟨q1, q2, fun t r t1 t2 r1 r2 => ?_⟩
    rw [m4]
    by_cases z : j = a
    · subst z
      rw [k2]
      by_cases y : t = x ∧ r = c
      · rw [if_pos (by omega), if_pos (by omega)]
      · rw [if_neg (by omega), if_neg (by omega)]; exact q3 t r t1 t2 r1 r2
    · rw [if_neg (by omega), ee (9 + 2 * j.toNat) (by omega)]; exact q3 t r t1 t2 r1 r2
  · rw [m 3 (by decide)] at k2
    rw [ee 69 (by omega), ee 70 (by omega), ee 71 (by omega)]
    exact hdf k k1 k2
  · rw [ee 4 (by omega), m 3 (by decide), show τ 69 = σ 69 from funext (ee 69 (by omega)), show τ 70 = σ 70 from funext (ee 70 (by omega)), show τ 71 = σ 71 from funext (ee 71 (by omega))]
    exact hgr p p1 p2
