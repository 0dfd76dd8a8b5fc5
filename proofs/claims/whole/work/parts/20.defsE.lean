/-! THE MATHEMATICS OF THE CLASS, part E: a cutting by hand -/
/-- the byte of the word at a shift -/
def by_c (w : Int64) (s : Int) : Int := ((w.toUInt64 >>> ((zi_w s).toInt64.toUInt64 &&& Int64.toUInt64 63)).toInt64.toInt32 &&& zi_w 255).toInt
theorem by_b (w : Int64) (s : Int) : 0 ≤ by_c w s ∧ by_c w s ≤ 255 := by
  unfold by_c
  rw [pk_and _ 8 (by decide)]
  generalize ((w.toUInt64 >>> ((zi_w s).toInt64.toUInt64 &&& Int64.toUInt64 63)).toInt64.toInt32).toBitVec.toNat = x
  rw [nI_toInt (by omega)]
  omega
section ZBY
variable {g : zg_G} {M : zm_T} {k : zk_T} {pc : Nat} {L L' : List (Nat × Value)} {S : List Value} {σ : zs_S}
theorem zr_byte (C : zk_ok g M k) {w : Int64} {x : Int} (h1 : decode M.2.1 pc = .ok (.lushr, 1)) (h2 : decode M.2.1 (pc + 1) = .ok (.l2i, 1)) (h3 : decode M.2.1 (pc + 2) = .ok (.sipush 255, 3)) (h4 : decode M.2.1 (pc + 5) = .ok (.iand, 1))
    (K : zw_W g M k (pc + 6) L (zv_i (by_c w x) :: S) σ) : zw_W g M k pc L (zv_i x :: .long w :: S) σ := by
  obtain ⟨p, l, e, R, s, m, args, below, meth, c, cells, slots, Q, A⟩ := k
  obtain ⟨hx, hb, hml, hown, hts, hK, hA, hf1, hf2, hc1, hc2, hN⟩ := C
  intro H locs ls hP hS hl
  refine lv_lushr hx hb h1 rfl ?_
  refine lv_l2i hx hb h2 rfl ?_
  refine lv_sipush (v := zi_w 255) hx hb h3 (by decide) ?_
  refine lv_iand hx hb h4 ?_
  rw [zi_of ((w.toUInt64 >>> ((zi_w x).toInt64.toUInt64 &&& Int64.toUInt64 63)).toInt64.toInt32 &&& zi_w 255)]
  exact K H locs ls hP hS hl
theorem zr_byteM (C : zk_ok g M k) {w : Int64} {x : Int} {ix : Nat} (h1 : decode M.2.1 pc = .ok (.lushr, 1)) (h2 : decode M.2.1 (pc + 1) = .ok (.ldc2_w ix, 3)) (hw : Cond.constantLong M.1.cls ix 255 ∈ zt_W) (h3 : decode M.2.1 (pc + 4) = .ok (.land, 1)) (h4 : decode M.2.1 (pc + 5) = .ok (.l2i, 1))
    (K : zw_W g M k (pc + 6) L (zv_i (by_c w x) :: S) σ) : zw_W g M k pc L (zv_i x :: .long w :: S) σ := by
  obtain ⟨p, l, e, R, s, m, args, below, meth, c, cells, slots, Q, A⟩ := k
  obtain ⟨hx, hb, hml, hown, hts, hK, hA, hf1, hf2, hc1, hc2, hN⟩ := C
  intro H locs ls hP hS hl
  refine lv_lushr hx hb h1 rfl ?_
  refine lv_ldc2 hx hb hown (hts _ hw) h2 ?_
  refine lv_land hx hb h3 ?_
  refine lv_l2i (v := zi_w (by_c w x)) hx hb h4 ?_ (K H locs ls hP hS hl)
  rw [Int64.toInt32_and]
  exact zi_of _
end ZBY
/-- the logs that the first m bytes of the word tell, and where the next may begin; none where one isn't allowed -/
def by_f (σ : zs_S) (n : Int) (w : Int64) : Nat → Option (Int × List (Int × Int))
  | 0 => some (0, [])
  | m + 1 => match by_f σ n w m with
    | none => none
    | some (f, l) => if by_c w (8 * (m : Int)) = 0 then some (f, l) else if bk_a σ n (f + (by_c w (8 * (m : Int)) - 1) / 6) ((by_c w (8 * (m : Int)) - 1) % 6) then some (f + (by_c w (8 * (m : Int)) - 1) / 6 + bk_n σ ((by_c w (8 * (m : Int)) - 1) % 6) + 1, l ++ [(f + (by_c w (8 * (m : Int)) - 1) / 6, (by_c w (8 * (m : Int)) - 1) % 6)]) else none
theorem by_f0 {σ : zs_S} {n f : Int} {w : Int64} {l : List (Int × Int)} {m : Nat} (h : by_f σ n w m = some (f, l)) (hc : by_c w (8 * (m : Int)) = 0) : by_f σ n w (m + 1) = some (f, l) := by
  simp only [by_f, h, hc]
  rfl
theorem by_fy {σ : zs_S} {n f : Int} {w : Int64} {l : List (Int × Int)} {m : Nat} (h : by_f σ n w m = some (f, l)) (hc : ¬ by_c w (8 * (m : Int)) = 0) (ha : bk_a σ n (f + (by_c w (8 * (m : Int)) - 1) / 6) ((by_c w (8 * (m : Int)) - 1) % 6)) : by_f σ n w (m + 1) = some (f + (by_c w (8 * (m : Int)) - 1) / 6 + bk_n σ ((by_c w (8 * (m : Int)) - 1) % 6) + 1, l ++ [(f + (by_c w (8 * (m : Int)) - 1) / 6, (by_c w (8 * (m : Int)) - 1) % 6)]) := by
  rw [by_f, h]
  simp only []
  rw [if_neg hc, if_pos ha]
theorem by_fn {σ : zs_S} {n f : Int} {w : Int64} {l : List (Int × Int)} {m : Nat} (h : by_f σ n w m = some (f, l)) (hc : ¬ by_c w (8 * (m : Int)) = 0) (ha : ¬ bk_a σ n (f + (by_c w (8 * (m : Int)) - 1) / 6) ((by_c w (8 * (m : Int)) - 1) % 6)) : by_f σ n w (m + 1) = none := by
  rw [by_f, h]
  simp only []
  rw [if_neg hc, if_neg ha]
theorem by_fz {σ : zs_S} {n : Int} {w : Int64} {m : Nat} (h : by_f σ n w m = none) : ∀ k : Nat, by_f σ n w (m + k) = none
  | 0 => h
  | k + 1 => by
    rw [show m + (k + 1) = (m + k) + 1 by omega, by_f, by_fz h k]
theorem by_f8 {σ : zs_S} {n : Int} {w : Int64} {m : Nat} (h : by_f σ n w m = none) (hm : m ≤ 8) : by_f σ n w 8 = none := by
  have := by_fz h (8 - m)
  rwa [show m + (8 - m) = 8 by omega] at this
/-- the worth of logs -/
def bk_S (σ : zs_S) : List (Int × Int) → Int
  | [] => 0
  | q :: r => bk_v σ q.1 q.2 + bk_S σ r
theorem bk_Sa (σ : zs_S) (p j : Int) : ∀ l : List (Int × Int), bk_S σ (l ++ [(p, j)]) = bk_S σ l + bk_v σ p j
  | [] => by simp [bk_S]
  | q :: r => by
    rw [List.cons_append, bk_S, bk_S, bk_Sa σ p j r]
    omega
