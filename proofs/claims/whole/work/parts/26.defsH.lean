/-! THE MATHEMATICS OF THE CLASS, part H: lines, orders, patterns -/
def ch_t (st : Int → Int) : List Int → Int
  | [] => 0
  | k :: r => st k + ch_t st r
theorem ch_ta (st : Int → Int) (k : Int) : ∀ l : List Int, ch_t st (l ++ [k]) = ch_t st l + st k
  | [] => by simp [ch_t]
  | q :: r => by rw [List.cons_append, ch_t, ch_t, ch_ta st k r]; omega
theorem ch_tc {st su : Int → Int} : ∀ {l : List Int}, (∀ k ∈ l, st k = su k) → ch_t st l = ch_t su l
  | [], _ => rfl
  | q :: r, h => by rw [ch_t, ch_t, h q List.mem_cons_self, ch_tc (fun k hk => h k (List.mem_cons_of_mem _ hk))]
/-- the sizes l stand from x up to e -/
def ch_P (st pr li G : Int → Int) : List Int → Int → Int → Prop
  | [], x, e => x = e
  | r :: l, x, e => (0 ≤ r ∧ r < 6) ∧ ch_c st pr li G x r ∧ (∀ k : Int, 0 ≤ k → k < r → ¬ ch_c st pr li G x k) ∧ ch_P st pr li G l (x + st r) e
theorem ch_Pa {st pr li G : Int → Int} {r : Int} : ∀ {l : List Int} {x e : Int}, ch_P st pr li G l x e → (0 ≤ r ∧ r < 6) → ch_c st pr li G e r → (∀ k : Int, 0 ≤ k → k < r → ¬ ch_c st pr li G e k) → ch_P st pr li G (l ++ [r]) x (e + st r)
  | [], x, e, h, a, b, c => by
    cases h
    exact ⟨a, b, c, rfl⟩
  | q :: l, x, e, ⟨h1, h2, h3, h4⟩, a, b, c => ⟨h1, h2, h3, ch_Pa h4 a b c⟩
theorem ch_Pl {st pr li G : Int → Int} : ∀ {l : List Int} {x e : Int}, ch_P st pr li G l x e → (∀ k : Int, 0 ≤ k → k < 6 → ¬ ch_c st pr li G e k) → ch_L st pr li G l x
  | [], x, e, h, a => by
    cases h
    exact a
  | q :: l, x, e, ⟨h1, h2, h3, h4⟩, a => ⟨h1, h2, h3, ch_Pl h4 a⟩
theorem ch_Pt {st pr li G : Int → Int} : ∀ {l : List Int} {x e : Int}, ch_P st pr li G l x e → e = x + ch_t st l
  | [], x, e, h => by
    cases h
    simp [ch_t]
  | q :: l, x, e, ⟨h1, h2, h3, h4⟩ => by
    rw [ch_Pt h4, ch_t]
    omega
theorem ch_Lm {st pr li G : Int → Int} : ∀ {l : List Int} {x : Int}, ch_L st pr li G l x → ∀ k ∈ l, 0 ≤ k ∧ k < 6
  | [], x, _, k, hk => by simp at hk
  | q :: l, x, ⟨h1, _, _, h4⟩, k, hk => by
    rcases List.mem_cons.mp hk with z | z
    · rw [z]; exact h1
    · exact ch_Lm h4 k z
/-- a line that holds the sizes l: A the sizes, P the places -/
def ln_R (st A P : Int → Int) (l : List Int) : Prop := ∀ (i : Nat) (k : Int), l[i]? = some k → A i = k ∧ P i = ch_t st (l.take i)
theorem ln_Ra {st A P A' P' : Int → Int} {l : List Int} {r : Int} (h : ln_R st A P l) (hA : ∀ i : Int, i ≠ l.length → A' i = A i) (hP : ∀ i : Int, i ≠ l.length → P' i = P i) (h1 : A' l.length = r) (h2 : P' l.length = ch_t st l) : ln_R st A' P' (l ++ [r]) := by
  intro i k hi
  by_cases hl : i < l.length
  · rw [List.getElem?_append_left hl] at hi
    rw [List.take_append_of_le_length (by omega), hA _ (by omega), hP _ (by omega)]
    exact h i k hi
  · rw [List.getElem?_append_right (by omega)] at hi
    have hz : i - l.length < 1 := (List.getElem?_eq_some_iff.mp hi).1
    have e0 : i = l.length := by omega
    subst e0
    rw [Nat.sub_self] at hi
    cases hi
    rw [List.take_append_of_le_length (Nat.le_refl _), List.take_length]
    exact ⟨h1, h2⟩
/-- how many of the first m are s -/
def ln_c (A : Int → Int) (s : Int) : Nat → Int
  | 0 => 0
  | m + 1 => ln_c A s m + (if A m = s then 1 else 0)
theorem ln_cs {A : Int → Int} {s a : Int} (h : 0 ≤ a) : ln_c A s (a + 1).toNat = ln_c A s a.toNat + (if A a = s then 1 else 0) := by
  rw [show (a + 1).toNat = a.toNat + 1 by omega, ln_c, show ((a.toNat : Nat) : Int) = a by omega]
theorem ln_cb {A : Int → Int} {s : Int} : ∀ m : Nat, 0 ≤ ln_c A s m ∧ ln_c A s m ≤ m
  | 0 => ⟨by simp [ln_c], by simp [ln_c]⟩
  | m + 1 => by
    have := ln_cb (A := A) (s := s) m
    rw [ln_c]
    by_cases h : A m = s
    · rw [if_pos h]; omega
    · rw [if_neg h]; omega
/-- what a shortage adds -/
def od_a (sh ad : Int → Int) (nd : Int) : Nat → Int
  | 0 => 0
  | m + 1 => if 0 < sh m ∧ sh m ≤ nd then max (od_a sh ad nd m) (ad m) else od_a sh ad nd m
theorem od_y {sh ad : Int → Int} {nd a : Int} (h0 : 0 ≤ a) (h : 0 < sh a ∧ sh a ≤ nd) : od_a sh ad nd (a + 1).toNat = max (od_a sh ad nd a.toNat) (ad a) := by
  rw [show (a + 1).toNat = a.toNat + 1 by omega, od_a, show ((a.toNat : Nat) : Int) = a by omega]
  exact if_pos h
theorem od_n {sh ad : Int → Int} {nd a : Int} (h0 : 0 ≤ a) (h : ¬ (0 < sh a ∧ sh a ≤ nd)) : od_a sh ad nd (a + 1).toNat = od_a sh ad nd a.toNat := by
  rw [show (a + 1).toNat = a.toNat + 1 by omega, od_a, show ((a.toNat : Nat) : Int) = a by omega]
  exact if_neg h
/-- the orders' numbers -/
def od_I (σ : zs_S) : Prop := (∀ k : Int, 0 ≤ k → k < 6 → 0 ≤ σ 41 k ∧ σ 41 k ≤ 1000) ∧ ∀ k : Int, 0 ≤ k → k < 4 → (0 ≤ σ 42 k ∧ σ 42 k ≤ 100000) ∧ (0 ≤ σ 43 k ∧ σ 43 k ≤ 100000)
theorem od_b {sh ad : Int → Int} {nd : Int} (h : ∀ k : Int, 0 ≤ k → k < 4 → 0 ≤ ad k ∧ ad k ≤ 100000) : ∀ m : Nat, m ≤ 4 → 0 ≤ od_a sh ad nd m ∧ od_a sh ad nd m ≤ 100000
  | 0, _ => ⟨by simp [od_a], by simp [od_a]⟩
  | m + 1, hm => by
    have := od_b (sh := sh) (nd := nd) h m (by omega)
    have := h m (by omega) (by omega)
    rw [od_a]
    by_cases c : 0 < sh m ∧ sh m ≤ nd
    · rw [if_pos c]; omega
    · rw [if_neg c]; omega
/-- how often a stack stands -/
def pa_s (h : Int) : Int := if h = -1 then 1 else 2
theorem pa_s1 {h : Int} (e : h = -1) : pa_s h = 1 := if_pos e
theorem pa_s2 {h : Int} (e : ¬ h = -1) : pa_s h = 2 := if_neg e
theorem pa_sb (h : Int) : pa_s h = 1 ∨ pa_s h = 2 := by
  by_cases e : h = -1
  · exact Or.inl (pa_s1 e)
  · exact Or.inr (pa_s2 e)
section ZTS
variable {g : zg_G} {M : zm_T} {k : zk_T} {pc : Nat} {L L' : List (Nat × Value)} {S : List Value} {σ : zs_S}
theorem zr_tabIn (C : zk_ok g M k) {dflt lo hi off : Int} {offs : Array Int} {len : Nat} {x : Int} (tgt : Nat) (hd : decode M.2.1 pc = .ok (.tableswitch dflt lo hi offs, len)) (hr : zi_r x) (h : lo ≤ x ∧ x ≤ hi) (ho : offs[(x - lo).toNat]? = some off) (ht : (pc : Int) + off = (tgt : Int))
    (K : zw_W g M k tgt L S σ) : zw_W g M k pc L (zv_i x :: S) σ := by
  obtain ⟨p, l, e, R, s, m, args, below, meth, c, cells, slots, Q, A⟩ := k
  obtain ⟨hx, hb, hml, hown, hts, hK, hA, hf1, hf2, hc1, hc2, hN⟩ := C
  intro H locs ls hP hS hl
  exact lv_tableIn hx hb hd (by rw [zi_toInt hr]; omega) (by rw [zi_toInt hr]; omega) (by rw [zi_toInt hr]; exact ho) ht (K H locs ls hP hS hl)
theorem zr_tabOut (C : zk_ok g M k) {dflt lo hi : Int} {offs : Array Int} {len : Nat} {x : Int} (tgt : Nat) (hd : decode M.2.1 pc = .ok (.tableswitch dflt lo hi offs, len)) (hr : zi_r x) (h : x < lo ∨ hi < x) (ht : (pc : Int) + dflt = (tgt : Int))
    (K : zw_W g M k tgt L S σ) : zw_W g M k pc L (zv_i x :: S) σ := by
  obtain ⟨p, l, e, R, s, m, args, below, meth, c, cells, slots, Q, A⟩ := k
  obtain ⟨hx, hb, hml, hown, hts, hK, hA, hf1, hf2, hc1, hc2, hN⟩ := C
  intro H locs ls hP hS hl
  exact lv_tableOut hx hb hd (by rw [zi_toInt hr]; exact h) ht (K H locs ls hP hS hl)
end ZTS
