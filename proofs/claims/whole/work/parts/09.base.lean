theorem zq_1 {c : Prop} [Decidable c] (h : c) : some (zv_i 1) = some (zv_i (zi_b c)) := by rw [zi_bt h]
theorem zq_0 {c : Prop} [Decidable c] (h : ¬ c) : some (zv_i 0) = some (zv_i (zi_b c)) := by rw [zi_bf h]
theorem zq_b {c d : Prop} [Decidable c] [Decidable d] (h : c ↔ d) : some (zv_i (zi_b c)) = some (zv_i (zi_b d)) := by
  by_cases hc : c
  · rw [zi_bt hc, zi_bt (h.mp hc)]
  · rw [zi_bf hc, zi_bf (fun q => hc (h.mpr q))]
theorem zq_i {x y : Int} (h : x = y) : some (zv_i x) = some (zv_i y) := by rw [h]
/-- what a method left as it was: all cells but these -/
def zf_x (σ τ : zs_S) (cs : List Nat) : Prop := ∀ c, c ∉ cs → ∀ i, τ c i = σ c i
theorem zf_r (σ : zs_S) (cs : List Nat) : zf_x σ σ cs := fun _ _ _ => rfl
theorem zf_t {σ τ υ : zs_S} {cs ds es : List Nat} (h1 : zf_x σ τ cs) (h2 : zf_x τ υ ds) (hc : ∀ c, c ∈ cs → c ∈ es) (hd : ∀ c, c ∈ ds → c ∈ es) : zf_x σ υ es := fun c h i => by
  rw [h2 c (fun q => h (hd c q)) i, h1 c (fun q => h (hc c q)) i]
theorem zf_p {σ τ υ : zs_S} {cs : List Nat} {k : Nat} {j v : Int} (h1 : zf_x σ τ cs) (e : υ = zs_put τ k j v) (hk : k ∈ cs) : zf_x σ υ cs := fun c h i => by
  rw [e, zs_put_ne (fun q => h (by rw [q]; exact hk)) i, h1 c h i]
theorem zf_w {σ τ : zs_S} {cs ds : List Nat} (h : zf_x σ τ cs) (hc : ∀ c, c ∈ cs → c ∈ ds) : zf_x σ τ ds := fun c q i => h c (fun z => q (hc c z)) i
section ZB
variable {g : zg_G} {M : zm_T} {k : zk_T} {pc : Nat} {L L' : List (Nat × Value)} {S : List Value} {σ : zs_S}
theorem zi_shr1 {x : Int} (h0 : 0 ≤ x) (h1 : x ≤ 2147483647) : zi_w x >>> (zi_w 1 &&& 31) = zi_w (x / 2) := by
  apply Int32.toInt_inj.mp
  rw [pk_shr (zi_w x) (zi_w 1 &&& 31) 1 (by decide), zi_toInt ⟨by omega, h1⟩, zi_toInt ⟨by omega, by omega⟩, Int.shiftRight_eq_div_pow]
  rfl
theorem zr_ishr1 (C : zk_ok g M k) {x : Int} (hd : decode M.2.1 pc = .ok (.ishr, 1)) (h0 : 0 ≤ x) (h1 : x ≤ 2147483647) (K : zw_W g M k (pc + 1) L (zv_i (x / 2) :: S) σ) : zw_W g M k pc L (zv_i 1 :: zv_i x :: S) σ := by
  obtain ⟨p, l, e, R, s, m, args, below, meth, c, cells, slots, Q, A⟩ := k
  obtain ⟨hx, hb, hml, hown, hts, hK, hA, hf1, hf2, hc1, hc2, hN⟩ := C
  intro H locs ls hP hS hl
  refine lv_ishr hx hb hd ?_
  rw [zi_shr1 h0 h1]
  exact K H locs ls hP hS hl
end ZB
/-! cells by an index -/
theorem zs_j6 {j : Int} (h : 0 ≤ j ∧ j < 6) : j = 0 ∨ j = 1 ∨ j = 2 ∨ j = 3 ∨ j = 4 ∨ j = 5 := by omega
theorem hn_kind {j : Int} (h : 0 ≤ j ∧ j < 6) : 8 + 2 * j.toNat < zs_N := by show _ < 91; omega
theorem hn_kindP {j : Int} (h : 0 ≤ j ∧ j < 6) : 9 + 2 * j.toNat < zs_N := by show _ < 91; omega
theorem hn_size {j : Int} (h : 0 ≤ j ∧ j < 6) : 28 + 2 * j.toNat < zs_N := by show _ < 91; omega
theorem hn_sizeP {j : Int} (h : 0 ≤ j ∧ j < 6) : 29 + 2 * j.toNat < zs_N := by show _ < 91; omega
theorem hs_kind {n : Nat} {j : Int} (h : 0 ≤ j ∧ j < 6) : zs_sh n (8 + 2 * j.toNat) = .inr (.inr (5, [none, none, some (some (9 + 2 * j.toNat))])) := by
  rcases zs_j6 h with rfl | rfl | rfl | rfl | rfl | rfl <;> rfl
theorem hs_kindP {n : Nat} {j : Int} (h : 0 ≤ j ∧ j < 6) : zs_sh n (9 + 2 * j.toNat) = .inl (0, 57) := by
  rcases zs_j6 h with rfl | rfl | rfl | rfl | rfl | rfl <;> rfl
theorem hs_size {n : Nat} {j : Int} (h : 0 ≤ j ∧ j < 6) : zs_sh n (28 + 2 * j.toNat) = .inr (.inr (0, [none, none, some (some (29 + 2 * j.toNat))])) := by
  rcases zs_j6 h with rfl | rfl | rfl | rfl | rfl | rfl <;> rfl
theorem hs_sizeP {n : Nat} {j : Int} (h : 0 ≤ j ∧ j < 6) : zs_sh n (29 + 2 * j.toNat) = .inl (0, 3) := by
  rcases zs_j6 h with rfl | rfl | rfl | rfl | rfl | rfl <;> rfl
/-- a Cutting's cell -/
abbrev zs_q (q : Nat) : Prop := q = 22 ∨ q = 24
theorem hn_cut {q : Nat} (h : zs_q q) : q < zs_N := by show _ < 91; omega
theorem hn_cutF {q : Nat} (h : zs_q q) : q + 1 < zs_N := by show _ < 91; omega
theorem hs_cut {n q : Nat} (h : zs_q q) : zs_sh n q = .inr (.inr (3, [none, none, some (some (q + 1))])) := by
  rcases h with rfl | rfl <;> rfl
theorem hs_cutF {n q : Nat} (h : zs_q q) : zs_sh n (q + 1) = .inl (0, 240) := by
  rcases h with rfl | rfl <;> rfl
/-- a Pattern's cell -/
abbrev zs_p (q : Nat) : Prop := q = 51 ∨ q = 59
/-- a Line's cell -/
abbrev zs_l (q : Nat) : Prop := q = 52 ∨ q = 55 ∨ q = 60 ∨ q = 63
/-- how many boards a Line holds -/
def zs_n (q : Nat) : Nat := if q = 52 ∨ q = 60 then 180 else 90
theorem hn_line {q : Nat} (h : zs_l q) : q < zs_N := by show _ < 91; omega
theorem hn_line1 {q : Nat} (h : zs_l q) : q + 1 < zs_N := by show _ < 91; omega
theorem hn_line2 {q : Nat} (h : zs_l q) : q + 2 < zs_N := by show _ < 91; omega
theorem hs_line {n q : Nat} (h : zs_l q) : zs_sh n q = .inr (.inr (4, [none, some (some (q + 1)), some (some (q + 2))])) := by
  rcases h with rfl | rfl | rfl | rfl <;> rfl
theorem hs_line1 {n q : Nat} (h : zs_l q) : zs_sh n (q + 1) = .inl (0, zs_n q) := by
  rcases h with rfl | rfl | rfl | rfl <;> rfl
theorem hs_line2 {n q : Nat} (h : zs_l q) : zs_sh n (q + 2) = .inl (0, zs_n q) := by
  rcases h with rfl | rfl | rfl | rfl <;> rfl
theorem zs_n90 {q : Nat} : zs_n q = 180 ∨ zs_n q = 90 := by
  unfold zs_n
  by_cases h : q = 52 ∨ q = 60
  · exact Or.inl (if_pos h)
  · exact Or.inr (if_neg h)
theorem hn_pat {q : Nat} (h : zs_p q) : q < zs_N := by show _ < 91; omega
theorem hn_patP {q : Nat} (h : zs_p q) : q + 7 < zs_N := by show _ < 91; omega
theorem hs_pat {n q : Nat} (h : zs_p q) : zs_sh n q = .inr (.inr (7, [none, none, some (some (q + 1)), some (some (q + 4)), some (some (q + 7))])) := by
  rcases h with rfl | rfl <;> rfl
theorem hs_patP {n q : Nat} (h : zs_p q) : zs_sh n (q + 7) = .inl (0, 6) := by
  rcases h with rfl | rfl <;> rfl
theorem zl_1 {q : Nat} (h : zs_p q) : zs_l (q + 1) := by rcases h with rfl | rfl <;> decide
theorem zl_4 {q : Nat} (h : zs_p q) : zs_l (q + 4) := by rcases h with rfl | rfl <;> decide
