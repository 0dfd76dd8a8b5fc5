/-! THE MATHEMATICS OF THE CLASS, part J: the best pattern -/
/-- the pattern at p: height h, value v, row l1, stack l2 on a face -/
def pd_R (σ : zs_S) (p : Nat) (s : Int → Int) (h v : Int) (l1 l2 : List Int) (face : Int) : Prop := σ p 0 = h ∧ σ p 1 = v ∧ (σ (p + 1) 0 = l1.length ∧ (l1.length : Int) ≤ 180 ∧ ln_R s (σ (p + 1 + 1)) (σ (p + 1 + 2)) l1) ∧ (σ (p + 4) 0 = l2.length ∧ (l2.length : Int) ≤ 90 ∧ st_R s (σ (p + 4 + 1)) (σ (p + 4 + 2)) face l2)
theorem pd_Rx {σ τ : zs_S} {p : Nat} {s : Int → Int} {h v face : Int} {l1 l2 : List Int} (hR : pd_R σ p s h v l1 l2 face) (hx : ∀ c, p ≤ c → c ≤ p + 6 → ∀ i, τ c i = σ c i) : pd_R τ p s h v l1 l2 face := by
  obtain ⟨a, b, ⟨c, d, e⟩, f, g, k⟩ := hR
  refine ⟨by rw [hx _ (by omega) (by omega)]; exact a, by rw [hx _ (by omega) (by omega)]; exact b, ⟨by rw [hx _ (by omega) (by omega)]; exact c, d, ?_⟩, by rw [hx _ (by omega) (by omega)]; exact f, g, ?_⟩
  · rw [show τ (p + 1 + 1) = σ (p + 1 + 1) from funext (hx _ (by omega) (by omega)), show τ (p + 1 + 2) = σ (p + 1 + 2) from funext (hx _ (by omega) (by omega))]
    exact e
  · rw [show τ (p + 4 + 1) = σ (p + 4 + 1) from funext (hx _ (by omega) (by omega)), show τ (p + 4 + 2) = σ (p + 4 + 2) from funext (hx _ (by omega) (by omega))]
    exact k
/-- the patterns that a log allows: without a cant, or with the height at a place below m -/
def sw_D (s pr rc wd : Int → Int) (gp d : Int) (hs : Int → Int) (m : Int) (h v : Int) (l1 l2 : List Int) : Prop := (h = -1 ∧ l1 = [] ∧ ch_O s pr (sw_ls pr rc (-2 * gp)) v l2) ∨ (∃ i : Int, 0 ≤ i ∧ i < m ∧ hs i = h ∧ 0 < h ∧ ∃ r1 r2, ch_O s pr (sw_lr wd pr h (ro_m d h) gp) r1 l1 ∧ ¬ r1 = 0 ∧ ch_O s pr (sw_ls pr rc h) r2 l2 ∧ v = r1 + 2 * r2)
/-- the face on which the stack of a pattern of height h stands -/
def sw_F (gp h : Int) : Int := if h = -1 then -2 * gp else h
/-- (v, h) is better than (w, k) -/
abbrev sw_B (v h w k : Int) : Prop := w < v ∨ (v = w ∧ ¬ h = -1 ∧ (k = -1 ∨ h < k))
/-- none of the patterns below m is better than (v, h) -/
def sw_X (s pr rc wd : Int → Int) (gp d : Int) (hs : Int → Int) (m : Int) (h v : Int) : Prop := ∀ (h' v' : Int) (l1' l2' : List Int), sw_D s pr rc wd gp d hs m h' v' l1' l2' → ¬ sw_B v' h' v h
theorem sw_Dm {s pr rc wd hs : Int → Int} {gp d m n h v : Int} {l1 l2 : List Int} (hD : sw_D s pr rc wd gp d hs m h v l1 l2) (hm : m ≤ n) : sw_D s pr rc wd gp d hs n h v l1 l2 := by
  rcases hD with z | ⟨i, i1, i2, z⟩
  · exact Or.inl z
  · exact Or.inr ⟨i, i1, by omega, z⟩
theorem pd_I {σ : zs_S} {p : Nat} {s : Int → Int} {h v face : Int} {l1 l2 : List Int} (hR : pd_R σ p s h v l1 l2 face) (hh : -1 ≤ h ∧ h ≤ 5000) (hv : 0 ≤ v ∧ v ≤ 1000000000) (m1 : ∀ k ∈ l1, 0 ≤ k ∧ k < 6) (m2 : ∀ k ∈ l2, 0 ≤ k ∧ k < 6) : pa_I σ p := by
  obtain ⟨a, b, ⟨c, d, e⟩, f, g, k⟩ := hR
  refine ⟨by rw [a]; exact hh, by rw [b]; exact hv, by rw [c]; omega, by rw [f]; omega, fun i i1 i2 => ?_, fun i i1 i2 => ?_⟩
  · rw [c] at i2
    obtain ⟨q, hq⟩ : ∃ q, l1[i.toNat]? = some q := ⟨_, List.getElem?_eq_getElem (by omega)⟩
    have := (e i.toNat q hq).1
    rw [show ((i.toNat : Nat) : Int) = i by omega] at this
    rw [this]
    exact m1 q (List.mem_of_getElem? hq)
  · rw [f] at i2
    obtain ⟨q, hq⟩ : ∃ q, l2[i.toNat]? = some q := ⟨_, List.getElem?_eq_getElem (by omega)⟩
    have := (k i.toNat q hq).1
    rw [show ((i.toNat : Nat) : Int) = i by omega] at this
    rw [this]
    exact m2 q (List.mem_of_getElem? hq)
/-- how often s stands in l -/
def ln_n (s : Int) : List Int → Int
  | [] => 0
  | k :: r => (if k = s then 1 else 0) + ln_n s r
theorem ln_na (s k : Int) : ∀ l : List Int, ln_n s (l ++ [k]) = ln_n s l + (if k = s then 1 else 0)
  | [] => by simp [ln_n]
  | q :: r => by rw [List.cons_append, ln_n, ln_n, ln_na s k r]; omega
theorem ln_nb (s : Int) : ∀ l : List Int, 0 ≤ ln_n s l ∧ ln_n s l ≤ l.length
  | [] => by simp [ln_n]
  | q :: r => by
    have := ln_nb s r
    rw [ln_n, List.length_cons]
    by_cases h : q = s
    · rw [if_pos h]; omega
    · rw [if_neg h]; omega
theorem ln_nt {A : Int → Int} {s : Int} {l : List Int} (h : ∀ (i : Nat) (k : Int), l[i]? = some k → A i = k) : ∀ m : Nat, m ≤ l.length → ln_c A s m = ln_n s (l.take m)
  | 0, _ => by simp [ln_c, ln_n]
  | m + 1, hm => by
    have hk : l[m]? = some l[m] := List.getElem?_eq_getElem (by omega)
    have e : l.take (m + 1) = l.take m ++ [l[m]] := by rw [List.take_append_getElem]
    rw [ln_c, ln_nt h m (by omega), e, ln_na, h m _ hk]
theorem pd_c {σ : zs_S} {p : Nat} {s : Int → Int} {h v face : Int} {l1 l2 : List Int} (hR : pd_R σ p s h v l1 l2 face) (y : Int) : pa_c σ p y = ln_n y l1 + pa_s h * ln_n y l2 := by
  obtain ⟨a, b, ⟨c, d, e⟩, f, g, k⟩ := hR
  unfold pa_c
  rw [a, c, f, show ((l1.length : Nat) : Int).toNat = l1.length by omega, show ((l2.length : Nat) : Int).toNat = l2.length by omega, ln_nt (fun i q hi => (e i q hi).1) _ (Nat.le_refl _), ln_nt (fun i q hi => (k i q hi).1) _ (Nat.le_refl _), List.take_length, List.take_length]
/-- where r isn't 0, P (kept from omega's eyes) -/
def sw_Y (r : Int) (P : Prop) : Prop := ¬ r = 0 → P
