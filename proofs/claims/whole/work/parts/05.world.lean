/-! NUMBERS: a word of the machine is kept as the whole number that it stands for -/
def zi_w (x : Int) : Int32 := Int32.ofInt x
def zi_l (x : Int) : Int64 := Int64.ofInt x
abbrev zi_r (x : Int) : Prop := -2147483648 ≤ x ∧ x ≤ 2147483647
abbrev zv_i (x : Int) : Value := .int (zi_w x)
abbrev zv_l (x : Int) : Value := .long (zi_l x)
/-- a truth as a number -/
def zi_b (c : Prop) [Decidable c] : Int := if c then 1 else 0
theorem zi_bt {c : Prop} [Decidable c] (h : c) : zi_b c = 1 := if_pos h
theorem zi_bf {c : Prop} [Decidable c] (h : ¬ c) : zi_b c = 0 := if_neg h
theorem zi_b01 (c : Prop) [Decidable c] : zi_b c = 0 ∨ zi_b c = 1 := by
  by_cases h : c
  · exact Or.inr (zi_bt h)
  · exact Or.inl (zi_bf h)
theorem zi_toInt {x : Int} (h : zi_r x) : (zi_w x).toInt = x := Int32.toInt_ofInt_of_le (by omega) (by omega)
theorem zi_of (x : Int32) : x = zi_w x.toInt := (Int32.ofInt_toInt x).symm
theorem zi_rg (x : Int32) : zi_r x.toInt := ⟨by have := Int32.le_toInt x; omega, by have := Int32.toInt_lt x; omega⟩
theorem zi_add (x y : Int) : zi_w x + zi_w y = zi_w (x + y) := (Int32.ofInt_add x y).symm
theorem zi_sub (x y : Int) : zi_w x - zi_w y = zi_w (x - y) := (Int32.ofInt_sub x y).symm
theorem zi_mul (x y : Int) : zi_w x * zi_w y = zi_w (x * y) := (Int32.ofInt_mul x y).symm
theorem zi_le {x y : Int} (hx : zi_r x) (hy : zi_r y) : zi_w x ≤ zi_w y ↔ x ≤ y := by
  rw [Int32.le_iff_toInt_le, zi_toInt hx, zi_toInt hy]
theorem zi_lt {x y : Int} (hx : zi_r x) (hy : zi_r y) : zi_w x < zi_w y ↔ x < y := by
  rw [Int32.lt_iff_toInt_lt, zi_toInt hx, zi_toInt hy]
theorem zi_eq {x y : Int} (hx : zi_r x) (hy : zi_r y) : zi_w x = zi_w y ↔ x = y := by
  rw [← Int32.toInt_inj, zi_toInt hx, zi_toInt hy]
theorem zi_0 : (0 : Int32) = zi_w 0 := rfl
theorem zi_r0 : zi_r 0 := ⟨by decide, by decide⟩
theorem zi_div {x y : Int} (hx : 0 ≤ x) (hx2 : x ≤ 2147483647) (hy : 0 < y) (hy2 : y ≤ 2147483647) : zi_w x / zi_w y = zi_w (x / y) := by
  have h1 : zi_r x := ⟨by omega, hx2⟩
  have h2 : zi_r y := ⟨by omega, hy2⟩
  have h0 : 0 ≤ x / y := Int.ediv_nonneg hx (by omega)
  have h9 : x / y ≤ x := Int.ediv_le_self y hx
  have h3 : zi_r (x / y) := ⟨by omega, by omega⟩
  apply Int32.toInt_inj.mp
  rw [Int32.toInt_div_of_ne_right _ _ (fun h => by
    have h4 := congrArg Int32.toInt h
    rw [zi_toInt h2] at h4
    have h5 : (-1 : Int32).toInt = -1 := by decide
    omega), zi_toInt h1, zi_toInt h2, zi_toInt h3, Int.tdiv_eq_ediv_of_nonneg hx]
theorem zi_rem {x y : Int} (hx : 0 ≤ x) (hx2 : x ≤ 2147483647) (hy : 0 < y) (hy2 : y ≤ 2147483647) : zi_w x - zi_w x / zi_w y * zi_w y = zi_w (x % y) := by
  rw [zi_div hx hx2 hy hy2, zi_mul, zi_sub, Int.emod_def, Int.mul_comm]
theorem zi_in {x : Int} {n : Nat} (h0 : 0 ≤ x) (h1 : x < n) (hn : (n : Int) ≤ 2147483647) : vp_in (zi_w x) n := by
  rw [vp_in_iff, zi_toInt ⟨by omega, by omega⟩]
  exact ⟨h0, h1⟩
theorem zi_cl {x : Int} (h0 : 0 ≤ x) (h1 : x ≤ 2147483647) : (zi_w x).toNatClampNeg = x.toNat := by
  unfold zi_w
  rw [Int32.toNatClampNeg_ofInt_of_le (by omega) (by omega)]
theorem zi_max {x y : Int} (hx : zi_r x) (hy : zi_r y) : (if zi_w x < zi_w y then zi_w y else zi_w x) = zi_w (max x y) := by
  by_cases h : x < y
  · rw [if_pos ((zi_lt hx hy).mpr h), show max x y = y by omega]
  · rw [if_neg (fun q => h ((zi_lt hx hy).mp q)), show max x y = x by omega]
theorem zi_min {x y : Int} (hx : zi_r x) (hy : zi_r y) : (if zi_w y < zi_w x then zi_w y else zi_w x) = zi_w (min x y) := by
  by_cases h : y < x
  · rw [if_pos ((zi_lt hy hx).mpr h), show min x y = y by omega]
  · rw [if_neg (fun q => h ((zi_lt hy hx).mp q)), show min x y = x by omega]
theorem zl_toInt {x : Int} (h : -9223372036854775808 ≤ x ∧ x ≤ 9223372036854775807) : (zi_l x).toInt = x := Int64.toInt_ofInt_of_le (by omega) (by omega)
theorem zl_add (x y : Int) : zi_l x + zi_l y = zi_l (x + y) := (Int64.ofInt_add x y).symm
theorem zl_sub (x y : Int) : zi_l x - zi_l y = zi_l (x - y) := (Int64.ofInt_sub x y).symm
theorem zl_mul (x y : Int) : zi_l x * zi_l y = zi_l (x * y) := (Int64.ofInt_mul x y).symm
theorem zl_of (x : Int64) : x = zi_l x.toInt := (Int64.ofInt_toInt x).symm
theorem zl_i2l {x : Int} (h : zi_r x) : (zi_w x).toInt64 = zi_l x := by
  apply Int64.toInt_inj.mp
  rw [Int32.toInt_toInt64, zi_toInt h, zl_toInt ⟨by omega, by omega⟩]
/-! THE WORLD: cells by numbers; g: the classes' numbers, the array classes, the address of each cell, the stem's last point -/
abbrev zg_G : Type := va_G × (Nat → ClassId) × (Nat → Nat) × Nat
abbrev zs_S : Type := Nat → Int → Int
/-- a cell's shape: an array of numbers (type, length); an array of cells (type, length, which); an object (class, its fields: none a number, some none a cell that may change, some (some q) the cell q) -/
abbrev zs_T : Type := (Nat × Nat) ⊕ ((Nat × Nat × (Nat → Nat)) ⊕ (Nat × List (Option (Option Nat))))
/-- how many cells the world has -/
abbrev zs_N : Nat := 91
/-- the cells: 0 the mill, 1 Bucking, 2 Stem (3 diameters, 4 grades, 5 tops, 6 worst), 7 kinds (8 + 2 j, its prices 9 + 2 j), 20 best, 21 chosen, 22 and 24 Cuttings (facts behind each), 26 Sawing, 27 sizes (28 + 2 j, prices 29 + 2 j), 40 Orders (41 needs, 42 shortages, 43 additions), 44 heights, 45 Chain (46 steps, 47 prices, 48 limits, 49 gains), 50 reaches, 51 and 59 Patterns (row + 1 .. 3, stack + 4 .. 6, prices + 7); 67 the reference and its arrays; the last: the law's own long[1] -/
def zs_L (n : Nat) : List zs_T := [
  .inr (.inr (10, [some (some 1), some (some 2), some (some 7), some (some 26), some (some 27), some (some 40)])),
  .inr (.inr (1, [some (some 2), some (some 7), some (some 20), some (some 21), some none, some none])),
  .inr (.inr (9, [none, some (some 3), some (some 4), none, some (some 5), some (some 6)])),
  .inl (0, n + 1),
  .inl (0, n + 1),
  .inl (0, n + 1),
  .inl (0, n + 1),
  .inr (.inl (3, 6, fun j => 8 + 2 * j)),
  .inr (.inr (5, [none, none, some (some 9)])),
  .inl (0, 57),
  .inr (.inr (5, [none, none, some (some 11)])),
  .inl (0, 57),
  .inr (.inr (5, [none, none, some (some 13)])),
  .inl (0, 57),
  .inr (.inr (5, [none, none, some (some 15)])),
  .inl (0, 57),
  .inr (.inr (5, [none, none, some (some 17)])),
  .inl (0, 57),
  .inr (.inr (5, [none, none, some (some 19)])),
  .inl (0, 57),
  .inl (0, n + 2),
  .inl (0, n + 1),
  .inr (.inr (3, [none, none, some (some 23)])),
  .inl (0, 240),
  .inr (.inr (3, [none, none, some (some 25)])),
  .inl (0, 240),
  .inr (.inr (8, [some (some 27), some (some 40), some (some 44), none, some (some 45), some (some 50), some none, some none])),
  .inr (.inl (4, 6, fun j => 28 + 2 * j)),
  .inr (.inr (0, [none, none, some (some 29)])),
  .inl (0, 3),
  .inr (.inr (0, [none, none, some (some 31)])),
  .inl (0, 3),
  .inr (.inr (0, [none, none, some (some 33)])),
  .inl (0, 3),
  .inr (.inr (0, [none, none, some (some 35)])),
  .inl (0, 3),
  .inr (.inr (0, [none, none, some (some 37)])),
  .inl (0, 3),
  .inr (.inr (0, [none, none, some (some 39)])),
  .inl (0, 3),
  .inr (.inr (6, [some (some 41), some (some 42), some (some 43)])),
  .inl (0, 6),
  .inl (0, 4),
  .inl (0, 4),
  .inl (0, 4),
  .inr (.inr (2, [some (some 46), some (some 47), some (some 48), some (some 49)])),
  .inl (0, 6),
  .inl (0, 6),
  .inl (0, 6),
  .inl (0, 9101),
  .inl (0, 6),
  .inr (.inr (7, [none, none, some (some 52), some (some 55), some (some 58)])),
  .inr (.inr (4, [none, some (some 53), some (some 54)])),
  .inl (0, 180),
  .inl (0, 180),
  .inr (.inr (4, [none, some (some 56), some (some 57)])),
  .inl (0, 90),
  .inl (0, 90),
  .inl (0, 6),
  .inr (.inr (7, [none, none, some (some 60), some (some 63), some (some 66)])),
  .inr (.inr (4, [none, some (some 61), some (some 62)])),
  .inl (0, 180),
  .inl (0, 180),
  .inr (.inr (4, [none, some (some 64), some (some 65)])),
  .inl (0, 90),
  .inl (0, 90),
  .inl (0, 6),
  .inr (.inr (11, [none, none, some (some 68), none, some (some 69), some (some 70), some (some 71), some (some 72), some (some 73), some (some 74), none, some (some 75), some (some 76), some (some 77), some (some 78), some (some 79), some (some 80), none, some (some 81), some (some 82), none, none, some (some 83), some (some 84), some (some 85), some (some 86), some (some 87), some (some 88), some (some 89)])),
  .inl (0, 81),
  .inl (0, 20),
  .inl (0, 20),
  .inl (0, 20),
  .inl (0, 6),
  .inl (0, 6),
  .inl (0, 456),
  .inl (0, 486),
  .inl (0, 6),
  .inl (0, 6),
  .inl (0, 24),
  .inl (0, 6),
  .inl (0, 4),
  .inl (0, 4),
  .inl (0, 4),
  .inl (0, 2400),
  .inl (0, 6),
  .inl (0, 300),
  .inl (0, 300),
  .inl (0, 600),
  .inl (0, 9400),
  .inl (1, 9400),
  .inl (2, 1)]
def zs_sh (n k : Nat) : zs_T := (zs_L n).getD k (.inl (0, 0))
theorem hs_0 (n : Nat) : zs_sh n 0 = .inr (.inr (10, [some (some 1), some (some 2), some (some 7), some (some 26), some (some 27), some (some 40)])) := rfl
theorem hs_1 (n : Nat) : zs_sh n 1 = .inr (.inr (1, [some (some 2), some (some 7), some (some 20), some (some 21), some none, some none])) := rfl
theorem hs_2 (n : Nat) : zs_sh n 2 = .inr (.inr (9, [none, some (some 3), some (some 4), none, some (some 5), some (some 6)])) := rfl
theorem hs_3 (n : Nat) : zs_sh n 3 = .inl (0, n + 1) := rfl
theorem hs_4 (n : Nat) : zs_sh n 4 = .inl (0, n + 1) := rfl
theorem hs_5 (n : Nat) : zs_sh n 5 = .inl (0, n + 1) := rfl
theorem hs_6 (n : Nat) : zs_sh n 6 = .inl (0, n + 1) := rfl
theorem hs_7 (n : Nat) : zs_sh n 7 = .inr (.inl (3, 6, fun j => 8 + 2 * j)) := rfl
theorem hs_8 (n : Nat) : zs_sh n 8 = .inr (.inr (5, [none, none, some (some 9)])) := rfl
theorem hs_9 (n : Nat) : zs_sh n 9 = .inl (0, 57) := rfl
theorem hs_10 (n : Nat) : zs_sh n 10 = .inr (.inr (5, [none, none, some (some 11)])) := rfl
theorem hs_11 (n : Nat) : zs_sh n 11 = .inl (0, 57) := rfl
theorem hs_12 (n : Nat) : zs_sh n 12 = .inr (.inr (5, [none, none, some (some 13)])) := rfl
theorem hs_13 (n : Nat) : zs_sh n 13 = .inl (0, 57) := rfl
theorem hs_14 (n : Nat) : zs_sh n 14 = .inr (.inr (5, [none, none, some (some 15)])) := rfl
theorem hs_15 (n : Nat) : zs_sh n 15 = .inl (0, 57) := rfl
theorem hs_16 (n : Nat) : zs_sh n 16 = .inr (.inr (5, [none, none, some (some 17)])) := rfl
theorem hs_17 (n : Nat) : zs_sh n 17 = .inl (0, 57) := rfl
theorem hs_18 (n : Nat) : zs_sh n 18 = .inr (.inr (5, [none, none, some (some 19)])) := rfl
theorem hs_19 (n : Nat) : zs_sh n 19 = .inl (0, 57) := rfl
theorem hs_20 (n : Nat) : zs_sh n 20 = .inl (0, n + 2) := rfl
theorem hs_21 (n : Nat) : zs_sh n 21 = .inl (0, n + 1) := rfl
theorem hs_22 (n : Nat) : zs_sh n 22 = .inr (.inr (3, [none, none, some (some 23)])) := rfl
theorem hs_23 (n : Nat) : zs_sh n 23 = .inl (0, 240) := rfl
theorem hs_24 (n : Nat) : zs_sh n 24 = .inr (.inr (3, [none, none, some (some 25)])) := rfl
theorem hs_25 (n : Nat) : zs_sh n 25 = .inl (0, 240) := rfl
theorem hs_26 (n : Nat) : zs_sh n 26 = .inr (.inr (8, [some (some 27), some (some 40), some (some 44), none, some (some 45), some (some 50), some none, some none])) := rfl
theorem hs_27 (n : Nat) : zs_sh n 27 = .inr (.inl (4, 6, fun j => 28 + 2 * j)) := rfl
theorem hs_28 (n : Nat) : zs_sh n 28 = .inr (.inr (0, [none, none, some (some 29)])) := rfl
theorem hs_29 (n : Nat) : zs_sh n 29 = .inl (0, 3) := rfl
theorem hs_30 (n : Nat) : zs_sh n 30 = .inr (.inr (0, [none, none, some (some 31)])) := rfl
theorem hs_31 (n : Nat) : zs_sh n 31 = .inl (0, 3) := rfl
theorem hs_32 (n : Nat) : zs_sh n 32 = .inr (.inr (0, [none, none, some (some 33)])) := rfl
theorem hs_33 (n : Nat) : zs_sh n 33 = .inl (0, 3) := rfl
theorem hs_34 (n : Nat) : zs_sh n 34 = .inr (.inr (0, [none, none, some (some 35)])) := rfl
theorem hs_35 (n : Nat) : zs_sh n 35 = .inl (0, 3) := rfl
theorem hs_36 (n : Nat) : zs_sh n 36 = .inr (.inr (0, [none, none, some (some 37)])) := rfl
theorem hs_37 (n : Nat) : zs_sh n 37 = .inl (0, 3) := rfl
theorem hs_38 (n : Nat) : zs_sh n 38 = .inr (.inr (0, [none, none, some (some 39)])) := rfl
theorem hs_39 (n : Nat) : zs_sh n 39 = .inl (0, 3) := rfl
theorem hs_40 (n : Nat) : zs_sh n 40 = .inr (.inr (6, [some (some 41), some (some 42), some (some 43)])) := rfl
theorem hs_41 (n : Nat) : zs_sh n 41 = .inl (0, 6) := rfl
theorem hs_42 (n : Nat) : zs_sh n 42 = .inl (0, 4) := rfl
theorem hs_43 (n : Nat) : zs_sh n 43 = .inl (0, 4) := rfl
theorem hs_44 (n : Nat) : zs_sh n 44 = .inl (0, 4) := rfl
theorem hs_45 (n : Nat) : zs_sh n 45 = .inr (.inr (2, [some (some 46), some (some 47), some (some 48), some (some 49)])) := rfl
theorem hs_46 (n : Nat) : zs_sh n 46 = .inl (0, 6) := rfl
theorem hs_47 (n : Nat) : zs_sh n 47 = .inl (0, 6) := rfl
theorem hs_48 (n : Nat) : zs_sh n 48 = .inl (0, 6) := rfl
theorem hs_49 (n : Nat) : zs_sh n 49 = .inl (0, 9101) := rfl
theorem hs_50 (n : Nat) : zs_sh n 50 = .inl (0, 6) := rfl
theorem hs_51 (n : Nat) : zs_sh n 51 = .inr (.inr (7, [none, none, some (some 52), some (some 55), some (some 58)])) := rfl
theorem hs_52 (n : Nat) : zs_sh n 52 = .inr (.inr (4, [none, some (some 53), some (some 54)])) := rfl
theorem hs_53 (n : Nat) : zs_sh n 53 = .inl (0, 180) := rfl
theorem hs_54 (n : Nat) : zs_sh n 54 = .inl (0, 180) := rfl
theorem hs_55 (n : Nat) : zs_sh n 55 = .inr (.inr (4, [none, some (some 56), some (some 57)])) := rfl
theorem hs_56 (n : Nat) : zs_sh n 56 = .inl (0, 90) := rfl
theorem hs_57 (n : Nat) : zs_sh n 57 = .inl (0, 90) := rfl
theorem hs_58 (n : Nat) : zs_sh n 58 = .inl (0, 6) := rfl
theorem hs_59 (n : Nat) : zs_sh n 59 = .inr (.inr (7, [none, none, some (some 60), some (some 63), some (some 66)])) := rfl
theorem hs_60 (n : Nat) : zs_sh n 60 = .inr (.inr (4, [none, some (some 61), some (some 62)])) := rfl
theorem hs_61 (n : Nat) : zs_sh n 61 = .inl (0, 180) := rfl
theorem hs_62 (n : Nat) : zs_sh n 62 = .inl (0, 180) := rfl
theorem hs_63 (n : Nat) : zs_sh n 63 = .inr (.inr (4, [none, some (some 64), some (some 65)])) := rfl
theorem hs_64 (n : Nat) : zs_sh n 64 = .inl (0, 90) := rfl
theorem hs_65 (n : Nat) : zs_sh n 65 = .inl (0, 90) := rfl
theorem hs_66 (n : Nat) : zs_sh n 66 = .inl (0, 6) := rfl
theorem hs_67 (n : Nat) : zs_sh n 67 = .inr (.inr (11, [none, none, some (some 68), none, some (some 69), some (some 70), some (some 71), some (some 72), some (some 73), some (some 74), none, some (some 75), some (some 76), some (some 77), some (some 78), some (some 79), some (some 80), none, some (some 81), some (some 82), none, none, some (some 83), some (some 84), some (some 85), some (some 86), some (some 87), some (some 88), some (some 89)])) := rfl
theorem hs_68 (n : Nat) : zs_sh n 68 = .inl (0, 81) := rfl
theorem hs_69 (n : Nat) : zs_sh n 69 = .inl (0, 20) := rfl
theorem hs_70 (n : Nat) : zs_sh n 70 = .inl (0, 20) := rfl
theorem hs_71 (n : Nat) : zs_sh n 71 = .inl (0, 20) := rfl
theorem hs_72 (n : Nat) : zs_sh n 72 = .inl (0, 6) := rfl
theorem hs_73 (n : Nat) : zs_sh n 73 = .inl (0, 6) := rfl
theorem hs_74 (n : Nat) : zs_sh n 74 = .inl (0, 456) := rfl
theorem hs_75 (n : Nat) : zs_sh n 75 = .inl (0, 486) := rfl
theorem hs_76 (n : Nat) : zs_sh n 76 = .inl (0, 6) := rfl
theorem hs_77 (n : Nat) : zs_sh n 77 = .inl (0, 6) := rfl
theorem hs_78 (n : Nat) : zs_sh n 78 = .inl (0, 24) := rfl
theorem hs_79 (n : Nat) : zs_sh n 79 = .inl (0, 6) := rfl
theorem hs_80 (n : Nat) : zs_sh n 80 = .inl (0, 4) := rfl
theorem hs_81 (n : Nat) : zs_sh n 81 = .inl (0, 4) := rfl
theorem hs_82 (n : Nat) : zs_sh n 82 = .inl (0, 4) := rfl
theorem hs_83 (n : Nat) : zs_sh n 83 = .inl (0, 2400) := rfl
theorem hs_84 (n : Nat) : zs_sh n 84 = .inl (0, 6) := rfl
theorem hs_85 (n : Nat) : zs_sh n 85 = .inl (0, 300) := rfl
theorem hs_86 (n : Nat) : zs_sh n 86 = .inl (0, 300) := rfl
theorem hs_87 (n : Nat) : zs_sh n 87 = .inl (0, 600) := rfl
theorem hs_88 (n : Nat) : zs_sh n 88 = .inl (0, 9400) := rfl
theorem hs_89 (n : Nat) : zs_sh n 89 = .inl (1, 9400) := rfl
theorem hs_90 (n : Nat) : zs_sh n 90 = .inl (2, 1) := rfl
def zs_v (g : zg_G) (σ : zs_S) (k : Nat) (j : Nat) : Option (Option Nat) → Value
  | none => .int (zi_w (σ k j))
  | some none => .ref (g.2.2.1 (σ k j).toNat)
  | some (some q) => .ref (g.2.2.1 q)
def zs_fl (g : zg_G) (σ : zs_S) (k : Nat) : Nat → List (Option (Option Nat)) → List Value
  | _, [] => []
  | j, f :: r => zs_v g σ k j f :: zs_fl g σ k (j + 1) r
theorem zs_fl_at (g : zg_G) (σ : zs_S) (k : Nat) : ∀ (fk : List (Option (Option Nat))) (j0 j : Nat), (zs_fl g σ k j0 fk)[j]? = (fk[j]?).map (zs_v g σ k (j0 + j))
  | [], j0, j => by simp [zs_fl]
  | f :: r, j0, 0 => by simp [zs_fl]
  | f :: r, j0, j + 1 => by
    rw [zs_fl, List.getElem?_cons_succ, List.getElem?_cons_succ, zs_fl_at g σ k r (j0 + 1) j, show j0 + 1 + j = j0 + (j + 1) by omega]
theorem zs_fl_len (g : zg_G) (σ : zs_S) (k : Nat) : ∀ (fk : List (Option (Option Nat))) (j0 : Nat), (zs_fl g σ k j0 fk).length = fk.length
  | [], j0 => by simp [zs_fl]
  | f :: r, j0 => by simp [zs_fl, zs_fl_len g σ k r (j0 + 1)]
def zs_c (g : zg_G) (σ : zs_S) (k : Nat) : zs_T → va_E
  | .inl (t, len) => if t = 2 then .inl (g.2.1 t, len, .inr (.inl (fun j => zi_l (σ k j)))) else .inl (g.2.1 t, len, .inl (fun j => zi_w (σ k j)))
  | .inr (.inl (t, len, f)) => .inl (g.2.1 t, len, .inr (.inr (.inr (.inr (fun j => some (g.2.2.1 (f j)))))))
  | .inr (.inr (ci, fk)) => .inr (ci, zs_fl g σ k 0 fk)
theorem zs_fl_congr {g : zg_G} {σ τ : zs_S} {k : Nat} (h : ∀ j, σ k j = τ k j) : ∀ (fk : List (Option (Option Nat))) (j0 : Nat), zs_fl g σ k j0 fk = zs_fl g τ k j0 fk
  | [], _ => rfl
  | f :: r, j0 => by
    rw [zs_fl, zs_fl, zs_fl_congr h r (j0 + 1)]
    congr 1
    cases f with
    | none => simp [zs_v, h]
    | some f => cases f with
      | none => simp [zs_v, h]
      | some q => rfl
theorem zs_c_congr {g : zg_G} {σ τ : zs_S} {k : Nat} (h : ∀ j, σ k j = τ k j) (T : zs_T) : zs_c g σ k T = zs_c g τ k T := by
  rcases T with ⟨t, len⟩ | ⟨t, len, f⟩ | ⟨ci, fk⟩
  · simp [zs_c, h]
  · rfl
  · simp only [zs_c, zs_fl_congr h fk 0]
def zs_W (g : zg_G) (σ : zs_S) : va_W := (List.range zs_N).map (fun k => (g.2.2.1 k, zs_c g σ k (zs_sh g.2.2.2 k)))
theorem zs_at (g : zg_G) (σ : zs_S) {k : Nat} (hk : k < zs_N) : (zs_W g σ)[k]? = some (g.2.2.1 k, zs_c g σ k (zs_sh g.2.2.2 k)) := by
  unfold zs_W
  rw [List.getElem?_map, List.getElem?_range hk]
  rfl
def zs_put (σ : zs_S) (k : Nat) (j v : Int) : zs_S := fun c i => if c = k ∧ i = j then v else σ c i
theorem zs_put_ne {σ : zs_S} {k c : Nat} {j v : Int} (h : c ≠ k) (i : Int) : zs_put σ k j v c i = σ c i := by simp [zs_put, h]
theorem zs_put_self {σ : zs_S} {k : Nat} {j v : Int} : zs_put σ k j v k j = v := by simp [zs_put]
theorem zs_put_at {σ : zs_S} {k : Nat} {j v i : Int} : zs_put σ k j v k i = if i = j then v else σ k i := by simp [zs_put]
theorem zs_put_off {σ : zs_S} {k : Nat} {j v i : Int} (h : i ≠ j) : zs_put σ k j v k i = σ k i := by simp [zs_put, h]
theorem zs_set {g : zg_G} {σ τ : zs_S} {k : Nat} (h : ∀ c, c ≠ k → ∀ i, τ c i = σ c i) : (zs_W g σ).set k (g.2.2.1 k, zs_c g τ k (zs_sh g.2.2.2 k)) = zs_W g τ := by
  have hlen : (zs_W g σ).length = zs_N := by simp [zs_W]
  apply List.ext_getElem?
  intro i
  by_cases hi : i < zs_N
  · rw [zs_at g τ hi]
    by_cases e : k = i
    · subst e
      rw [List.getElem?_set_self (by rw [hlen]; exact hi)]
    · rw [List.getElem?_set_ne e, zs_at g σ hi, zs_c_congr (fun j => (h i (Ne.symm e) j).symm)]
  · rw [List.getElem?_eq_none (by rw [List.length_set, hlen]; omega), List.getElem?_eq_none (by simp [zs_W]; omega)]
def zg_A (g : zg_G) : Nat → Prop := fun q => ∃ k, k < zs_N ∧ q = g.2.2.1 k
def zg_ad (g : zg_G) (A : Nat → Prop) : Prop := (∀ i j, i < zs_N → j < zs_N → g.2.2.1 i = g.2.2.1 j → i = j) ∧ ∀ k, k < zs_N → A (g.2.2.1 k)
theorem zg_D {g : zg_G} {A : Nat → Prop} (h : zg_ad g A) (σ : zs_S) : va_D A (zs_W g σ) := by
  have key : ∀ (i : Nat) (p : Nat × va_E), (zs_W g σ)[i]? = some p → i < zs_N ∧ p.1 = g.2.2.1 i := by
    intro i p hp
    have hi : i < zs_N := by
      have := (List.getElem?_eq_some_iff.mp hp).1
      simpa [zs_W] using this
    rw [zs_at g σ hi] at hp
    cases hp
    exact ⟨hi, rfl⟩
  refine ⟨fun i j p q hp hq he => ?_, fun k q hq => ?_⟩
  · obtain ⟨h1, e1⟩ := key i p hp
    obtain ⟨h2, e2⟩ := key j q hq
    exact h.1 i j h1 h2 (by rw [← e1, ← e2]; exact he)
  · obtain ⟨h1, e1⟩ := key k q hq
    rw [e1]
    exact h.2 k h1
/-- the array classes' types by their number -/
def zg_ty : Nat → FieldType
  | 0 => .int
  | 1 => .boolean
  | 2 => .long
  | 3 => .object zt_C3
  | _ => .object zt_C4
def zg_tys (g : zg_G) : List (ClassId × FieldType) := (List.range 5).map (fun t => (g.2.1 t, zg_ty t))
theorem zg_ty_at (g : zg_G) {t : Nat} (ht : t < 5) : (zg_tys g)[t]? = some (g.2.1 t, zg_ty t) := by
  unfold zg_tys
  rw [List.getElem?_map, List.getElem?_range ht]
  rfl
/-! A METHOD: name, bytes, locals, what it returns, how deep its calls go -/
abbrev zm_T : Type := MethodName × ByteArray × Nat × Option FieldType × Nat × Nat
def zm_room (d : Nat × Nat) : Room := { frames := d.1, cells := 0, slots := 0, locals := d.2 }
/-- the one link between nest mates that is used outside of constructors -/
def zt_N : Cond := .methodLinkNest RX8 102 yX10_room "StemMill"
/-- where the machine stands: all that doesn't change while a method runs -/
abbrev zk_T : Type := Program × Launch × Env × Room × State × MethodId × Array Value × List Frame × Method × Code × Nat × Nat × (State → Prop) × (Nat → Prop)
def zk_ok (g : zg_G) (M : zm_T) : zk_T → Prop
  | (p, _, _, R, s, m, args, _, _, c, cells, slots, _, A) => p.tables.exec = Jvm.exec ∧ c.code = M.2.1 ∧ c.maxLocals = M.2.2.1 ∧ s.vm.findClass M.1.cls = some m.cls ∧ (∀ w ∈ zt_W, w.before args s = true) ∧ va_K g.1 zt_cl (zg_tys g) s ∧ zg_ad g A ∧ M.2.2.2.2.1 ≤ R.frames ∧ M.2.2.2.2.2 ≤ R.locals ∧ cells ≤ R.cells ∧ slots ≤ R.slots ∧ va_Nw zt_N s
def zw_W (g : zg_G) (M : zm_T) : zk_T → Nat → List (Nat × Value) → List Value → zs_S → Prop
  | (p, l, e, R, s, m, args, below, meth, c, cells, slots, Q, A), pc, L, S, σ => ∀ (H : Heap) (locs : List Loc) (ls : Array Slot), va_P g.1 zt_cl (zs_W g σ) H → va_S A s.heap H locs → lv_has ls M.2.2.1 L → W p l e R s m args below meth c H locs cells slots Q (F0 m pc ls S)
/-- what a method's end owes -/
def zq_Q (g : zg_G) (Q : Option Value → zs_S → Prop) : Array Value → State → Outcome → State → Prop := fun _ st oc t => (∃ (v : Option Value) (σ : zs_S), oc = .returned v ∧ Q v σ ∧ va_P g.1 zt_cl (zs_W g σ) t.heap) ∧ va_F (zg_A g) st t
def zk_ret (g : zg_G) (M : zm_T) (Q : Option Value → zs_S → Prop) : zk_T → Prop
  | (_, _, _, _, s, _, args, below, meth, _, cells, slots, Qf, A) => Qf = MQ below (zq_Q g Q) args s 0 0 (zg_A g) ∧ A = zg_A g ∧ cells = 0 ∧ slots = 0 ∧ meth.sig.returnType = M.2.2.2.1 ∧ meth.locks = false
/-- a method's contract over the world: from the picture σ, with these arguments, it returns with Q -/
def zm_Met (g : zg_G) (M : zm_T) (σ : zs_S) (av : List Value) (Q : Option Value → zs_S → Prop) : Prop :=
  ∀ l : Launch, Met l M.1 (Cond.code M.1 M.2.1 M.2.2.1 M.2.2.2.1 :: zt_W) (zm_room M.2.2.2.2) (va_Pc av (fun U => va_P g.1 zt_cl (zs_W g σ) U.heap ∧ va_K g.1 zt_cl (zg_tys g) U ∧ zg_ad g (fun _ => True) ∧ va_Nw zt_N U)) (zq_Q g Q) 0 0 (zg_A g)
theorem zm_of {g : zg_G} {M : zm_T} {σ : zs_S} {av : List Value} {Q : Option Value → zs_S → Prop} (hy : plainName M.1.cls = true) (hlen : (lg_sl av).length ≤ M.2.2.1)
    (body : ∀ k : zk_T, zk_ok g M k → zk_ret g M Q k → zw_W g M k 0 (lv_args 0 av) [] σ) : zm_Met g M σ av Q := by
  intro l
  refine Met.ofW (cc := M.2.1) (maxL := M.2.2.1) (ret := M.2.2.2.1) hy rfl ?_
  intro p e s m args below meth c s₁ B hml hv
  obtain ⟨rfl, hP, hK, hA, hN⟩ := hv
  have hts := atoms_spec (ws := Cond.code M.1 M.2.1 M.2.2.1 M.2.2.2.1 :: zt_W) B.pre
  have hl := lv_entry av (n := M.2.2.1) hlen
  rw [lg_entry_eq]
  exact body (p, l, e, _, s, m, av.toArray, below, meth, c, 0, 0, MQ below (zq_Q g Q) av.toArray s 0 0 (zg_A g), zg_A g)
    ⟨B.exec, B.bytes, hml, findClass_of_methodNamed B.named, fun w hw => hts w (List.mem_cons_of_mem _ hw), hK, ⟨hA.1, fun k hk => ⟨k, hk, rfl⟩⟩, Nat.le_refl _, Nat.le_refl _, Nat.zero_le _, Nat.zero_le _, hN⟩
    ⟨rfl, rfl, rfl, rfl, B.returns, B.notSynchronized⟩ s.heap [] _ hP va_S.rf hl
