/-! CLASS AND REFERENCE, part I: the pattern -/
theorem sw_one {σ : zs_S} {gr d h v h' v' : Int} {l1 l2 l1' l2' : List Int} (hU : sw_U (sw_s σ) (sw_p σ gr)) (hD : sw_D0 σ gr d h v l1 l2) (hX : sw_X0' σ gr d h v) (hD' : sw_D0 σ gr d h' v' l1' l2') (hX' : sw_X0' σ gr d h' v') : (h' = h ∧ v' = v) ∧ l1' = l1 ∧ l2' = l2 := by
  have a := hX h' v' l1' l2' hD'
  have b := hX' h v l1 l2 hD
  have e : h' = h ∧ v' = v := by
    unfold sw_B at a b
    by_cases z : h = -1 <;> by_cases y : h' = -1 <;> omega
  refine ⟨e, ?_⟩
  obtain ⟨rfl, rfl⟩ := e
  rcases hD with ⟨x1, x2, x3⟩ | ⟨i, i1, i2, i3, i4, r1, r2, o1, o2, o3, o4⟩
  · rcases hD' with ⟨y1, y2, y3⟩ | ⟨i, i1, i2, i3, i4, -⟩
    · exact ⟨by rw [x2, y2], ((ch_Ou (sw_us hU) x3 y3).2).symm⟩
    · omega
  · rcases hD' with ⟨y1, y2, y3⟩ | ⟨j, j1, j2, j3, j4, s1, s2, p1, p2, p3, p4⟩
    · omega
    · exact ⟨((ch_Ou (sw_ur hU) o1 p1).2).symm, ((ch_Ou (sw_us hU) o3 p3).2).symm⟩
theorem ch_Tm {st pr li G : Int → Int} {Mk : Int → Prop} (hM : ch_M st li Mk) : ∀ (l : List Int) (x : Int), ch_L st pr li G l x → Mk x → ∀ i : Nat, Mk (x + ch_t st (l.take i))
  | [], x, _, hx, i => by simpa [ch_t] using hx
  | q :: l, x, _, hx, 0 => by simpa [ch_t] using hx
  | q :: l, x, ⟨h1, h2, _, h4⟩, hx, i + 1 => by
    have := ch_Tm hM l (x + st q) h4 ((hM.2 x hx).2 q h1.1 h1.2 h2.1) i
    rw [List.take_succ_cons, ch_t, ← Int.add_assoc]
    exact this
theorem ch_Tb {st pr li : Int → Int} {r : Int} {l : List Int} (h : ch_O st pr li r l) (i : Nat) : 0 ≤ ch_t st (l.take i) ∧ ch_t st (l.take i) ≤ 9100 := by
  obtain ⟨G, Mk, hM, hG, -, hl⟩ := h
  have := (hM.2 _ (ch_Tm hM l 0 hl hM.1 i)).1
  rwa [Int.zero_add] at this
theorem sw_Tb {σ : zs_S} {gr d h v : Int} {l1 l2 : List Int} (hD : sw_D0 σ gr d h v l1 l2) (i : Nat) : (0 ≤ ch_t (sw_s σ) (l1.take i) ∧ ch_t (sw_s σ) (l1.take i) ≤ 9100) ∧ (0 ≤ ch_t (sw_s σ) (l2.take i) ∧ ch_t (sw_s σ) (l2.take i) ≤ 9100) := by
  rcases hD with ⟨x1, x2, x3⟩ | ⟨k, i1, i2, i3, i4, r1, r2, o1, o2, o3, o4⟩
  · exact ⟨by rw [x2]; simp [ch_t], ch_Tb x3 i⟩
  · exact ⟨ch_Tb o1 i, ch_Tb o3 i⟩
theorem pa_fr {a w x y k : Int} (h : zi_r a ∧ zi_r w ∧ zi_r x ∧ zi_r y) : zi_r (pa_f a w x y k) := by
  unfold pa_f
  split
  · exact h.1
  · split
    · exact h.2.1
    · split
      · exact h.2.2.1
      · exact h.2.2.2
theorem pa_fb {A pr : Int → Int} {L : List (Int × Int × Int)} {i : Nat} {k w x c : Int} (hR : bo_R A pr L) (hi : L[i]? = some (k, w, x)) (hc : 0 ≤ c ∧ c ≤ 3) : pa_f k w x (pr k) c = A (4 * i + c) := by
  obtain ⟨a, b, d, e⟩ := hR i k w x hi
  unfold pa_f
  rcases (show c = 0 ∨ c = 1 ∨ c = 2 ∨ c = 3 by omega) with z | z | z | z
  · rw [if_pos z, z, Int.add_zero, a]
  · rw [if_neg (by omega), if_pos z, z, b]
  · rw [if_neg (by omega), if_neg (by omega), if_pos z, z, d]
  · rw [if_neg (by omega), if_neg (by omega), if_neg (by omega), z, e]
/-- the class's pattern and the reference's boards are one -/
theorem rl_pat {τ : zs_S} {u : Nat} {s pr : Int → Int} {gp h v : Int} {l1 l2 : List Int} (hR : pd_R τ u s h v l1 l2 (sw_F gp h)) (hI : pa_I τ u) (hpr : ∀ y : Int, 0 ≤ y → y < 6 → τ (u + 7) y = pr y ∧ 0 ≤ pr y ∧ pr y ≤ 1100000) (h20 : τ 67 20 = (bo_T s gp h l1 l2).length) (h21 : τ 67 21 = h) (hB : bo_R (τ 83) pr (bo_T s gp h l1 l2)) (m1 : ∀ x ∈ l1, 0 ≤ x ∧ x < 6) (m2 : ∀ x ∈ l2, 0 ≤ x ∧ x < 6) (hgp : 0 ≤ gp ∧ gp ≤ 100) (hh : h ≤ 5000 ∧ -1 ≤ h) (tb : ∀ i : Nat, (0 ≤ ch_t s (l1.take i) ∧ ch_t s (l1.take i) ≤ 9100) ∧ (0 ≤ ch_t s (l2.take i) ∧ ch_t s (l2.take i) ≤ 9100)) : rl_P τ u := by
  obtain ⟨a1, a2, ⟨b1, b2, b3⟩, c1, c2, c3⟩ := hR
  have en : pa_n τ u = ((bo_T s gp h l1 l2).length : Int) := by
    unfold pa_n
    rw [a1, b1, c1, bo_Tl]
  refine ⟨⟨by rw [h20, en], by rw [h21, a1]⟩, hI, fun i c i1 i2 c1' c2' => ?_⟩
  rw [en] at i2
  have key : ∃ k w x, (bo_T s gp h l1 l2)[i.toNat]? = some (k, w, x) ∧ pa_F τ u i c = pa_f k w x (pr k) c ∧ (0 ≤ k ∧ k < 6) ∧ (0 ≤ w ∧ w ≤ 2) ∧ zi_r x := by
    have eF : sw_F gp h = -2 * gp ∨ sw_F gp h = h := by
      unfold sw_F
      split
      · exact Or.inl rfl
      · exact Or.inr rfl
    rw [bo_Tl] at i2
    by_cases z1 : i < l1.length
    · obtain ⟨k, hk⟩ : ∃ k, l1[i.toNat]? = some k := ⟨_, List.getElem?_eq_getElem (by omega)⟩
      obtain ⟨e1, e2⟩ := b3 i.toNat k hk
      have kb := m1 k (List.mem_of_getElem? hk)
      rw [show ((i.toNat : Nat) : Int) = i by omega] at e1 e2
      refine ⟨k, 0, ch_t s (l1.take i.toNat), ?_, ?_, kb, by omega, ?_⟩
      · have := bo_rg s l1 0 i.toNat k hk
        rw [Int.zero_add] at this
        unfold bo_T
        rw [List.append_assoc, List.getElem?_append_left (by rw [bo_rl]; omega)]
        exact this
      · unfold pa_F
        rw [b1, if_pos z1, e1, e2, (hpr k kb.1 kb.2).1]
      · have := (tb i.toNat).1
        omega
    · by_cases z2 : i - l1.length < l2.length
      · obtain ⟨k, hk⟩ : ∃ k, l2[(i - l1.length).toNat]? = some k := ⟨_, List.getElem?_eq_getElem (by omega)⟩
        obtain ⟨e1, e2⟩ := c3 (i - l1.length).toNat k hk
        have kb := m2 k (List.mem_of_getElem? hk)
        rw [show (((i - l1.length).toNat : Nat) : Int) = i - l1.length by omega] at e1 e2
        refine ⟨k, 1, sw_F gp h + 2 * ch_t s (l2.take ((i - l1.length).toNat + 1)), ?_, ?_, kb, by omega, ?_⟩
        · have := bo_sg s 1 (sw_F gp h) l2 0 (i - l1.length).toNat k hk
          rw [Int.zero_add] at this
          unfold bo_T
          rw [List.append_assoc, List.getElem?_append_right (by rw [bo_rl]; omega), bo_rl, List.getElem?_append_left (by rw [bo_sl]; omega), show i.toNat - l1.length = (i - l1.length).toNat by omega]
          exact this
        · unfold pa_F
          rw [b1, c1, if_neg z1, if_pos z2, e1, e2, (hpr k kb.1 kb.2).1]
        · have := (tb ((i - l1.length).toNat + 1)).2
          omega
      · have hne : ¬ h = -1 := fun z => by
          rw [z, pa_s1 rfl] at i2
          omega
        rw [pa_s2 hne] at i2
        obtain ⟨k, hk⟩ : ∃ k, l2[(i - l1.length - l2.length).toNat]? = some k := ⟨_, List.getElem?_eq_getElem (by omega)⟩
        obtain ⟨e1, e2⟩ := c3 (i - l1.length - l2.length).toNat k hk
        have kb := m2 k (List.mem_of_getElem? hk)
        rw [show (((i - l1.length - l2.length).toNat : Nat) : Int) = i - l1.length - l2.length by omega] at e1 e2
        refine ⟨k, 2, sw_F gp h + 2 * ch_t s (l2.take ((i - l1.length - l2.length).toNat + 1)), ?_, ?_, kb, by omega, ?_⟩
        · have := bo_sg s 2 (sw_F gp h) l2 0 (i - l1.length - l2.length).toNat k hk
          rw [Int.zero_add] at this
          unfold bo_T
          rw [if_neg hne, List.getElem?_append_right (by rw [List.length_append, bo_rl, bo_sl]; omega), List.length_append, bo_rl, bo_sl, show i.toNat - (l1.length + l2.length) = (i - l1.length - l2.length).toNat by omega]
          exact this
        · unfold pa_F
          rw [b1, c1, if_neg z1, if_neg z2, e1, e2, (hpr k kb.1 kb.2).1]
        · have := (tb ((i - l1.length - l2.length).toNat + 1)).2
          omega
  obtain ⟨k, w, x, e1, e2, e3, e4, e5⟩ := key
  have pb := (hpr k e3.1 e3.2).2
  refine ⟨?_, ?_⟩
  · rw [e2, pa_fb hB e1 ⟨c1', c2'⟩, show ((i.toNat : Nat) : Int) = i by omega]
  · rw [e2]
    exact pa_fr ⟨by omega, by omega, e5, by omega⟩
/-- after sawing -/
theorem rl_saw {σ τ1 τ : zs_S} {n gr d h x h' x' : Int} {l1 l2 l1' l2' : List Int} {b q u p u' p' : Nat} (hr : rl_R σ n b q u p) (hg : 1 ≤ gr ∧ gr ≤ 3) (hO : sw_O σ τ1 d gr h x l1 l2 u' p') (hD : sw_D0 σ gr d h' x' l1' l2') (hX : sw_X0' σ gr d h' x') (h21 : τ 67 21 = h') (h20 : τ 67 20 = (bo_T (sw_s σ) (σ 26 3) h' l1' l2').length) (hB : bo_R (τ 83) (sw_p σ gr) (bo_T (sw_s σ) (σ 26 3) h' l1' l2')) (h79 : ∀ y : Int, 0 ≤ y → y < 6 → τ 79 y = max 0 (σ 41 y - (ln_n y l1' + pa_s h' * ln_n y l2'))) (eo : ∀ c : Nat, (c ≠ 67 ∧ c ≠ 79 ∧ ¬ (83 ≤ c ∧ c ≤ 90)) → ∀ i, τ c i = τ1 c i) (m : ∀ y, y ≠ 0 → y ≠ 20 → y ≠ 21 → τ 67 y = τ1 67 y) : x' = x ∧ rl_R τ n b q u' p' := by
  obtain ⟨o1, o2, ⟨z1, z2, z3⟩, ⟨t6, t7, t3⟩, oR, oN, oJ, oI, oE⟩ := hO
  have hI := hr.2.1.1
  have hU := sw_Ui hI hg
  obtain ⟨⟨rfl, rfl⟩, rfl, rfl⟩ := sw_one hU o1 o2 hD hX
  refine ⟨rfl, ?_⟩
  obtain ⟨m1, m2⟩ := sw_Dm1 hI hg hD
  obtain ⟨hA, hS, h23, hL, ⟨⟨q1, q2, q3, q4, q5⟩, p1, p2, p3, p4, p5⟩, hz, hP, hJ⟩ := hr
  have ee : ∀ c : Nat, (c ≠ 67 ∧ c ≠ 79 ∧ ¬ (83 ≤ c ∧ c ≤ 90) ∧ (c < 46 ∨ 66 < c) ∧ c ≠ 26 ∧ c ≠ 41) → ∀ i, τ c i = σ c i := fun c hc i => by rw [eo c (by omega), oE c (by omega) (by omega) (by omega)]
  have mm : ∀ y, y ≠ 0 → y ≠ 20 → y ≠ 21 → τ 67 y = σ 67 y := fun y y1 y2 y3 => by rw [m y y1 y2 y3, oE 67 (by omega) (by omega) (by omega)]
  have g0 := hI.2.1
  have hIt : pa_I τ u' := by
    have e : ∀ c, u' ≤ c → c ≤ u' + 7 → τ c = τ1 c := fun c c1 c2 => funext (eo c (by omega))
    unfold pa_I
    rw [e u' (by omega) (by omega), e (u' + 1) (by omega) (by omega), e (u' + 4) (by omega) (by omega), e (u' + 1 + 1) (by omega) (by omega), e (u' + 4 + 1) (by omega) (by omega)]
    exact oI
  have hRt : pd_R τ u' (sw_s σ) h' x' l1' l2' (sw_F (σ 26 3) h') := pd_Rx oR (fun c c1 c2 => eo c (by omega))
  have hh : h' ≤ 5000 ∧ -1 ≤ h' := by
    have := hIt.1
    rw [hRt.1] at this
    omega
  refine ⟨md_Ax hA (fun c hc i => ee c (by omega) i) (mm 1 (by decide) (by decide) (by decide)) (mm 3 (by decide) (by decide) (by decide)), ?_, by rw [ee 2 (by omega), mm 3 (by decide) (by decide) (by decide)]; exact h23, rl_Lx hL (ee b (by omega)) (ee (b + 1) (by omega)) (ee 75 (by omega)) (mm 10 (by decide) (by decide) (by decide)), ⟨⟨q1, q2, q3, by rw [ee 1 (by omega)]; exact q4, by rw [ee 1 (by omega)]; exact q5⟩, z2, z1, z3, by rw [eo 26 (by omega)]; exact t6, by rw [eo 26 (by omega)]; exact t7⟩, by rw [ee 20 (by omega)]; exact hz, ?_, fun y y1 y2 => by rw [eo 49 (by omega)]; exact oJ y y1 y2⟩
  · obtain ⟨⟨a1, a2, a3, a4, a5⟩, s2, s3, s4⟩ := hS
    have e41 : ∀ y : Int, 0 ≤ y → y < 6 → τ 41 y = max 0 (σ 41 y - (ln_n y l1' + pa_s h' * ln_n y l2')) := fun y y1 y2 => by rw [eo 41 (by omega)]; exact (oN y y1 y2).2
    have e3 : τ 26 3 = σ 26 3 := by rw [eo 26 (by omega)]; exact t3
    refine ⟨⟨fun j j1 j2 => ?_, by rw [e3]; exact a2, fun i x y => by rw [ee 44 (by omega)]; exact a3 i x y, fun k k1 k2 => ?_, fun k x y => by rw [ee 42 (by omega), ee 43 (by omega)]; exact a5 k x y⟩, fun j j1 j2 => ?_, by rw [mm 17 (by decide) (by decide) (by decide), e3]; exact s3, fun i x y => by rw [ee 80 (by omega), ee 81 (by omega), ee 82 (by omega), ee 44 (by omega), ee 42 (by omega), ee 43 (by omega)]; exact s4 i x y⟩
    · rw [ee (28 + 2 * j.toNat) (by omega), ee (28 + 2 * j.toNat) (by omega)]
      obtain ⟨q1, q2, q3⟩ := a1 j j1 j2
      exact ⟨q1, q2, fun i i1 i2 => by rw [ee (29 + 2 * j.toNat) (by omega)]; exact q3 i i1 i2⟩
    · have n1 := (ln_nb k l1').1
      have n2 := (ln_nb k l2').1
      have n3 := a4 k k1 k2
      have n4 : 0 ≤ pa_s h' * ln_n k l2' := by rcases pa_sb h' with w | w <;> rw [w] <;> omega
      rw [e41 k k1 k2]
      omega
    · obtain ⟨q1, q2, q3, q4⟩ := s2 j j1 j2
      rw [ee (28 + 2 * j.toNat) (by omega), ee (28 + 2 * j.toNat) (by omega), ee 76 (by omega), ee 77 (by omega), e41 j j1 j2, h79 j j1 j2]
      exact ⟨q1, q2, rfl, fun r r1 r2 => by rw [ee 78 (by omega), ee (29 + 2 * j.toNat) (by omega)]; exact q4 r r1 r2⟩
  · refine rl_pat (gp := σ 26 3) (pr := sw_p σ gr) hRt hIt (fun y y1 y2 => ⟨by rw [eo (u' + 7) (by omega)]; exact (oN y y1 y2).1, (sw_pb (k := y) hI hg ⟨y1, y2⟩).1⟩) h20 h21 hB m1 (fun x hx => (m2 x hx).1) g0 hh (fun i => sw_Tb hD i)
