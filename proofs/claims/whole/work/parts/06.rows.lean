section ZR
variable {g : zg_G} {M : zm_T} {k : zk_T} {pc : Nat} {L L' : List (Nat × Value)} {S : List Value} {σ : zs_S}
theorem zr_iconst (C : zk_ok g M k) {n : Int} (hd : decode M.2.1 pc = .ok (.iconst n, 1)) (K : zw_W g M k (pc + 1) L (zv_i n :: S) σ) : zw_W g M k pc L S σ := by
  obtain ⟨p, l, e, R, s, m, args, below, meth, c, cells, slots, Q, A⟩ := k
  obtain ⟨hx, hb, hml, hown, hts, hK, hA, hf1, hf2, hc1, hc2, hN⟩ := C
  intro H locs ls hP hS hl
  exact lv_iconst hx hb hd rfl (K H locs ls hP hS hl)
theorem zr_bipush (C : zk_ok g M k) {n : Int} (hd : decode M.2.1 pc = .ok (.bipush n, 2)) (hn : (Int8.ofInt n).toInt32 = zi_w n) (K : zw_W g M k (pc + 2) L (zv_i n :: S) σ) : zw_W g M k pc L S σ := by
  obtain ⟨p, l, e, R, s, m, args, below, meth, c, cells, slots, Q, A⟩ := k
  obtain ⟨hx, hb, hml, hown, hts, hK, hA, hf1, hf2, hc1, hc2, hN⟩ := C
  intro H locs ls hP hS hl
  exact lv_bipush hx hb hd hn (K H locs ls hP hS hl)
theorem zr_sipush (C : zk_ok g M k) {n : Int} (hd : decode M.2.1 pc = .ok (.sipush n, 3)) (hn : (Int16.ofInt n).toInt32 = zi_w n) (K : zw_W g M k (pc + 3) L (zv_i n :: S) σ) : zw_W g M k pc L S σ := by
  obtain ⟨p, l, e, R, s, m, args, below, meth, c, cells, slots, Q, A⟩ := k
  obtain ⟨hx, hb, hml, hown, hts, hK, hA, hf1, hf2, hc1, hc2, hN⟩ := C
  intro H locs ls hP hS hl
  exact lv_sipush hx hb hd hn (K H locs ls hP hS hl)
theorem zr_ldc (C : zk_ok g M k) {i : Nat} {v : Int32} (n : Int) (hd : decode M.2.1 pc = .ok (.ldc i, 2)) (hw : Cond.constant M.1.cls i v ∈ zt_W) (hn : v = zi_w n) (K : zw_W g M k (pc + 2) L (zv_i n :: S) σ) : zw_W g M k pc L S σ := by
  obtain ⟨p, l, e, R, s, m, args, below, meth, c, cells, slots, Q, A⟩ := k
  obtain ⟨hx, hb, hml, hown, hts, hK, hA, hf1, hf2, hc1, hc2, hN⟩ := C
  intro H locs ls hP hS hl
  subst hn
  exact lv_ldc hx hb hown (hts _ hw) hd (K H locs ls hP hS hl)
theorem zr_ldc2 (C : zk_ok g M k) {i : Nat} {v : Int64} (n : Int) (hd : decode M.2.1 pc = .ok (.ldc2_w i, 3)) (hw : Cond.constantLong M.1.cls i v ∈ zt_W) (hn : v = zi_l n) (K : zw_W g M k (pc + 3) L (zv_l n :: S) σ) : zw_W g M k pc L S σ := by
  obtain ⟨p, l, e, R, s, m, args, below, meth, c, cells, slots, Q, A⟩ := k
  obtain ⟨hx, hb, hml, hown, hts, hK, hA, hf1, hf2, hc1, hc2, hN⟩ := C
  intro H locs ls hP hS hl
  subst hn
  exact lv_ldc2 hx hb hown (hts _ hw) hd (K H locs ls hP hS hl)
theorem zr_lconst (C : zk_ok g M k) {n : Fin 2} (x : Int) (hd : decode M.2.1 pc = .ok (.lconst n, 1)) (hn : Int64.ofNat (n : Nat) = zi_l x) (K : zw_W g M k (pc + 1) L (zv_l x :: S) σ) : zw_W g M k pc L S σ := by
  obtain ⟨p, l, e, R, s, m, args, below, meth, c, cells, slots, Q, A⟩ := k
  obtain ⟨hx, hb, hml, hown, hts, hK, hA, hf1, hf2, hc1, hc2, hN⟩ := C
  intro H locs ls hP hS hl
  exact lv_lconst hx hb hd hn (K H locs ls hP hS hl)
theorem zr_iload (C : zk_ok g M k) {i : Nat} {x : Int32} (hd : decode M.2.1 pc = .ok (.iload i, 2)) (q : Nat) (hq : L[q]? = some (i, .int x)) (K : zw_W g M k (pc + 2) L (.int x :: S) σ) : zw_W g M k pc L S σ := by
  obtain ⟨p, l, e, R, s, m, args, below, meth, c, cells, slots, Q, A⟩ := k
  obtain ⟨hx, hb, hml, hown, hts, hK, hA, hf1, hf2, hc1, hc2, hN⟩ := C
  intro H locs ls hP hS hl
  exact lv_iload hx hb hd (lv_at hl q hq) (K H locs ls hP hS hl)
theorem zr_iload_n (C : zk_ok g M k) {i : Fin 4} {x : Int32} (hd : decode M.2.1 pc = .ok (.iload_n i, 1)) (q : Nat) (hq : L[q]? = some ((i : Nat), .int x)) (K : zw_W g M k (pc + 1) L (.int x :: S) σ) : zw_W g M k pc L S σ := by
  obtain ⟨p, l, e, R, s, m, args, below, meth, c, cells, slots, Q, A⟩ := k
  obtain ⟨hx, hb, hml, hown, hts, hK, hA, hf1, hf2, hc1, hc2, hN⟩ := C
  intro H locs ls hP hS hl
  exact lv_iload_n hx hb hd rfl (lv_at hl q hq) (K H locs ls hP hS hl)
theorem zr_lload (C : zk_ok g M k) {i : Nat} {x : Int64} (hd : decode M.2.1 pc = .ok (.lload i, 2)) (q : Nat) (hq : L[q]? = some (i, .long x)) (K : zw_W g M k (pc + 2) L (.long x :: S) σ) : zw_W g M k pc L S σ := by
  obtain ⟨p, l, e, R, s, m, args, below, meth, c, cells, slots, Q, A⟩ := k
  obtain ⟨hx, hb, hml, hown, hts, hK, hA, hf1, hf2, hc1, hc2, hN⟩ := C
  intro H locs ls hP hS hl
  exact lv_lload hx hb hd (lv_at hl q hq) (K H locs ls hP hS hl)
theorem zr_lload_n (C : zk_ok g M k) {i : Fin 4} {x : Int64} (hd : decode M.2.1 pc = .ok (.lload_n i, 1)) (q : Nat) (hq : L[q]? = some ((i : Nat), .long x)) (K : zw_W g M k (pc + 1) L (.long x :: S) σ) : zw_W g M k pc L S σ := by
  obtain ⟨p, l, e, R, s, m, args, below, meth, c, cells, slots, Q, A⟩ := k
  obtain ⟨hx, hb, hml, hown, hts, hK, hA, hf1, hf2, hc1, hc2, hN⟩ := C
  intro H locs ls hP hS hl
  exact lv_lload_n hx hb hd rfl (lv_at hl q hq) (K H locs ls hP hS hl)
theorem zr_aload (C : zk_ok g M k) {i : Nat} {x : Nat} (hd : decode M.2.1 pc = .ok (.aload i, 2)) (q : Nat) (hq : L[q]? = some (i, .ref x)) (K : zw_W g M k (pc + 2) L (.ref x :: S) σ) : zw_W g M k pc L S σ := by
  obtain ⟨p, l, e, R, s, m, args, below, meth, c, cells, slots, Q, A⟩ := k
  obtain ⟨hx, hb, hml, hown, hts, hK, hA, hf1, hf2, hc1, hc2, hN⟩ := C
  intro H locs ls hP hS hl
  exact lv_aload hx hb hd (lv_at hl q hq) (K H locs ls hP hS hl)
theorem zr_aload_n (C : zk_ok g M k) {i : Fin 4} {x : Nat} (hd : decode M.2.1 pc = .ok (.aload_n i, 1)) (q : Nat) (hq : L[q]? = some ((i : Nat), .ref x)) (K : zw_W g M k (pc + 1) L (.ref x :: S) σ) : zw_W g M k pc L S σ := by
  obtain ⟨p, l, e, R, s, m, args, below, meth, c, cells, slots, Q, A⟩ := k
  obtain ⟨hx, hb, hml, hown, hts, hK, hA, hf1, hf2, hc1, hc2, hN⟩ := C
  intro H locs ls hP hS hl
  exact lv_aload_n hx hb hd rfl (lv_at hl q hq) (K H locs ls hP hS hl)
theorem zr_istore (C : zk_ok g M k) {i : Nat} {x : Int32} (hd : decode M.2.1 pc = .ok (.istore i, 2)) (hi : i < M.2.2.1) (hL : (i, Value.int x) :: L.filter (fun q => !(q.1 == i) && !(q.1 + 1 == i && q.2.category == 2)) = L') (K : zw_W g M k (pc + 2) L' S σ) : zw_W g M k pc L (.int x :: S) σ := by
  obtain ⟨p, l, e, R, s, m, args, below, meth, c, cells, slots, Q, A⟩ := k
  obtain ⟨hx, hb, hml, hown, hts, hK, hA, hf1, hf2, hc1, hc2, hN⟩ := C
  intro H locs ls hP hS hl
  exact lv_istore hx hb hd hl hi hL (fun ls hl => K H locs ls hP hS hl)
theorem zr_istore_n (C : zk_ok g M k) {i : Fin 4} {x : Int32} (hd : decode M.2.1 pc = .ok (.istore_n i, 1)) (hi : (i : Nat) < M.2.2.1) (hL : ((i : Nat), Value.int x) :: L.filter (fun q => !(q.1 == (i : Nat)) && !(q.1 + 1 == (i : Nat) && q.2.category == 2)) = L') (K : zw_W g M k (pc + 1) L' S σ) : zw_W g M k pc L (.int x :: S) σ := by
  obtain ⟨p, l, e, R, s, m, args, below, meth, c, cells, slots, Q, A⟩ := k
  obtain ⟨hx, hb, hml, hown, hts, hK, hA, hf1, hf2, hc1, hc2, hN⟩ := C
  intro H locs ls hP hS hl
  exact lv_istore_n hx hb hd rfl hl hi hL (fun ls hl => K H locs ls hP hS hl)
theorem zr_astore (C : zk_ok g M k) {i : Nat} {x : Nat} (hd : decode M.2.1 pc = .ok (.astore i, 2)) (hi : i < M.2.2.1) (hL : (i, Value.ref x) :: L.filter (fun q => !(q.1 == i) && !(q.1 + 1 == i && q.2.category == 2)) = L') (K : zw_W g M k (pc + 2) L' S σ) : zw_W g M k pc L (.ref x :: S) σ := by
  obtain ⟨p, l, e, R, s, m, args, below, meth, c, cells, slots, Q, A⟩ := k
  obtain ⟨hx, hb, hml, hown, hts, hK, hA, hf1, hf2, hc1, hc2, hN⟩ := C
  intro H locs ls hP hS hl
  exact lv_astore hx hb hd hl hi hL (fun ls hl => K H locs ls hP hS hl)
theorem zr_astore_n (C : zk_ok g M k) {i : Fin 4} {x : Nat} (hd : decode M.2.1 pc = .ok (.astore_n i, 1)) (hi : (i : Nat) < M.2.2.1) (hL : ((i : Nat), Value.ref x) :: L.filter (fun q => !(q.1 == (i : Nat)) && !(q.1 + 1 == (i : Nat) && q.2.category == 2)) = L') (K : zw_W g M k (pc + 1) L' S σ) : zw_W g M k pc L (.ref x :: S) σ := by
  obtain ⟨p, l, e, R, s, m, args, below, meth, c, cells, slots, Q, A⟩ := k
  obtain ⟨hx, hb, hml, hown, hts, hK, hA, hf1, hf2, hc1, hc2, hN⟩ := C
  intro H locs ls hP hS hl
  exact lv_astore_n hx hb hd rfl hl hi hL (fun ls hl => K H locs ls hP hS hl)
theorem zr_lstore (C : zk_ok g M k) {i : Nat} {x : Int64} (hd : decode M.2.1 pc = .ok (.lstore i, 2)) (hi : i + 1 < M.2.2.1) (hL : (i, Value.long x) :: L.filter (fun q => !(q.1 == i) && (!(q.1 == i + 1) && !(q.1 + 1 == i && q.2.category == 2))) = L') (K : zw_W g M k (pc + 2) L' S σ) : zw_W g M k pc L (.long x :: S) σ := by
  obtain ⟨p, l, e, R, s, m, args, below, meth, c, cells, slots, Q, A⟩ := k
  obtain ⟨hx, hb, hml, hown, hts, hK, hA, hf1, hf2, hc1, hc2, hN⟩ := C
  intro H locs ls hP hS hl
  exact lv_lstore hx hb hd hl hi hL (fun ls hl => K H locs ls hP hS hl)
theorem zr_lstore_n (C : zk_ok g M k) {i : Fin 4} {x : Int64} (hd : decode M.2.1 pc = .ok (.lstore_n i, 1)) (hi : (i : Nat) + 1 < M.2.2.1) (hL : ((i : Nat), Value.long x) :: L.filter (fun q => !(q.1 == (i : Nat)) && (!(q.1 == (i : Nat) + 1) && !(q.1 + 1 == (i : Nat) && q.2.category == 2))) = L') (K : zw_W g M k (pc + 1) L' S σ) : zw_W g M k pc L (.long x :: S) σ := by
  obtain ⟨p, l, e, R, s, m, args, below, meth, c, cells, slots, Q, A⟩ := k
  obtain ⟨hx, hb, hml, hown, hts, hK, hA, hf1, hf2, hc1, hc2, hN⟩ := C
  intro H locs ls hP hS hl
  exact lv_lstore_n hx hb hd rfl hl hi hL (fun ls hl => K H locs ls hP hS hl)
theorem zr_iinc (C : zk_ok g M k) {i : Nat} {n x : Int} (hd : decode M.2.1 pc = .ok (.iinc i n, 3)) (q : Nat) (hq : L[q]? = some (i, zv_i x)) (hi : i < M.2.2.1) (hL : (i, zv_i (x + n)) :: L.filter (fun q => !(q.1 == i) && !(q.1 + 1 == i && q.2.category == 2)) = L') (K : zw_W g M k (pc + 3) L' S σ) : zw_W g M k pc L S σ := by
  obtain ⟨p, l, e, R, s, m, args, below, meth, c, cells, slots, Q, A⟩ := k
  obtain ⟨hx, hb, hml, hown, hts, hK, hA, hf1, hf2, hc1, hc2, hN⟩ := C
  intro H locs ls hP hS hl
  exact lv_iinc hx hb hd hl hq (zi_add x n) hi hL (fun ls hl => K H locs ls hP hS hl)
theorem zr_iadd (C : zk_ok g M k) {x y : Int} (hd : decode M.2.1 pc = .ok (.iadd, 1)) (K : zw_W g M k (pc + 1) L (zv_i (x + y) :: S) σ) : zw_W g M k pc L (zv_i y :: zv_i x :: S) σ := by
  obtain ⟨p, l, e, R, s, m, args, below, meth, c, cells, slots, Q, A⟩ := k
  obtain ⟨hx, hb, hml, hown, hts, hK, hA, hf1, hf2, hc1, hc2, hN⟩ := C
  intro H locs ls hP hS hl
  refine lv_iadd hx hb hd ?_
  rw [zi_add]
  exact K H locs ls hP hS hl
theorem zr_isub (C : zk_ok g M k) {x y : Int} (hd : decode M.2.1 pc = .ok (.isub, 1)) (K : zw_W g M k (pc + 1) L (zv_i (x - y) :: S) σ) : zw_W g M k pc L (zv_i y :: zv_i x :: S) σ := by
  obtain ⟨p, l, e, R, s, m, args, below, meth, c, cells, slots, Q, A⟩ := k
  obtain ⟨hx, hb, hml, hown, hts, hK, hA, hf1, hf2, hc1, hc2, hN⟩ := C
  intro H locs ls hP hS hl
  refine lv_isub hx hb hd ?_
  rw [zi_sub]
  exact K H locs ls hP hS hl
theorem zr_imul (C : zk_ok g M k) {x y : Int} (hd : decode M.2.1 pc = .ok (.imul, 1)) (K : zw_W g M k (pc + 1) L (zv_i (x * y) :: S) σ) : zw_W g M k pc L (zv_i y :: zv_i x :: S) σ := by
  obtain ⟨p, l, e, R, s, m, args, below, meth, c, cells, slots, Q, A⟩ := k
  obtain ⟨hx, hb, hml, hown, hts, hK, hA, hf1, hf2, hc1, hc2, hN⟩ := C
  intro H locs ls hP hS hl
  refine lv_imul hx hb hd ?_
  rw [zi_mul]
  exact K H locs ls hP hS hl
theorem zr_ladd (C : zk_ok g M k) {x y : Int} (hd : decode M.2.1 pc = .ok (.ladd, 1)) (K : zw_W g M k (pc + 1) L (zv_l (x + y) :: S) σ) : zw_W g M k pc L (zv_l y :: zv_l x :: S) σ := by
  obtain ⟨p, l, e, R, s, m, args, below, meth, c, cells, slots, Q, A⟩ := k
  obtain ⟨hx, hb, hml, hown, hts, hK, hA, hf1, hf2, hc1, hc2, hN⟩ := C
  intro H locs ls hP hS hl
  refine lv_ladd hx hb hd ?_
  rw [zl_add]
  exact K H locs ls hP hS hl
theorem zr_lsub (C : zk_ok g M k) {x y : Int} (hd : decode M.2.1 pc = .ok (.lsub, 1)) (K : zw_W g M k (pc + 1) L (zv_l (x - y) :: S) σ) : zw_W g M k pc L (zv_l y :: zv_l x :: S) σ := by
  obtain ⟨p, l, e, R, s, m, args, below, meth, c, cells, slots, Q, A⟩ := k
  obtain ⟨hx, hb, hml, hown, hts, hK, hA, hf1, hf2, hc1, hc2, hN⟩ := C
  intro H locs ls hP hS hl
  refine lv_lsub hx hb hd ?_
  rw [zl_sub]
  exact K H locs ls hP hS hl
theorem zr_lmul (C : zk_ok g M k) {x y : Int} (hd : decode M.2.1 pc = .ok (.lmul, 1)) (K : zw_W g M k (pc + 1) L (zv_l (x * y) :: S) σ) : zw_W g M k pc L (zv_l y :: zv_l x :: S) σ := by
  obtain ⟨p, l, e, R, s, m, args, below, meth, c, cells, slots, Q, A⟩ := k
  obtain ⟨hx, hb, hml, hown, hts, hK, hA, hf1, hf2, hc1, hc2, hN⟩ := C
  intro H locs ls hP hS hl
  refine lv_lmul hx hb hd ?_
  rw [zl_mul]
  exact K H locs ls hP hS hl
theorem zr_idiv (C : zk_ok g M k) {x y : Int} (hd : decode M.2.1 pc = .ok (.idiv, 1)) (h1 : 0 ≤ x) (h2 : x ≤ 2147483647) (h3 : 0 < y) (h4 : y ≤ 2147483647) (K : zw_W g M k (pc + 1) L (zv_i (x / y) :: S) σ) : zw_W g M k pc L (zv_i y :: zv_i x :: S) σ := by
  obtain ⟨p, l, e, R, s, m, args, below, meth, c, cells, slots, Q, A⟩ := k
  obtain ⟨hx, hb, hml, hown, hts, hK, hA, hf1, hf2, hc1, hc2, hN⟩ := C
  intro H locs ls hP hS hl
  refine lv_idiv hx hb hd (fun h => by rw [zi_0, zi_eq ⟨by omega, by omega⟩ zi_r0] at h; omega) ?_
  rw [zi_div h1 h2 h3 h4]
  exact K H locs ls hP hS hl
theorem zr_irem (C : zk_ok g M k) {x y : Int} (hd : decode M.2.1 pc = .ok (.irem, 1)) (h1 : 0 ≤ x) (h2 : x ≤ 2147483647) (h3 : 0 < y) (h4 : y ≤ 2147483647) (K : zw_W g M k (pc + 1) L (zv_i (x % y) :: S) σ) : zw_W g M k pc L (zv_i y :: zv_i x :: S) σ := by
  obtain ⟨p, l, e, R, s, m, args, below, meth, c, cells, slots, Q, A⟩ := k
  obtain ⟨hx, hb, hml, hown, hts, hK, hA, hf1, hf2, hc1, hc2, hN⟩ := C
  intro H locs ls hP hS hl
  refine lv_irem hx hb hd (fun h => by rw [zi_0, zi_eq ⟨by omega, by omega⟩ zi_r0] at h; omega) ?_
  rw [zi_rem h1 h2 h3 h4]
  exact K H locs ls hP hS hl
theorem zr_i2l (C : zk_ok g M k) {x : Int} (hd : decode M.2.1 pc = .ok (.i2l, 1)) (h : zi_r x) (K : zw_W g M k (pc + 1) L (zv_l x :: S) σ) : zw_W g M k pc L (zv_i x :: S) σ := by
  obtain ⟨p, l, e, R, s, m, args, below, meth, c, cells, slots, Q, A⟩ := k
  obtain ⟨hx, hb, hml, hown, hts, hK, hA, hf1, hf2, hc1, hc2, hN⟩ := C
  intro H locs ls hP hS hl
  exact lv_i2l hx hb hd (zl_i2l h) (K H locs ls hP hS hl)
theorem zr_dup (C : zk_ok g M k) {a : Value} (hd : decode M.2.1 pc = .ok (.dup, 1)) (ha : a.category = 1) (K : zw_W g M k (pc + 1) L (a :: a :: S) σ) : zw_W g M k pc L (a :: S) σ := by
  obtain ⟨p, l, e, R, s, m, args, below, meth, c, cells, slots, Q, A⟩ := k
  obtain ⟨hx, hb, hml, hown, hts, hK, hA, hf1, hf2, hc1, hc2, hN⟩ := C
  intro H locs ls hP hS hl
  exact lv_dup hx hb hd ha (K H locs ls hP hS hl)
theorem zr_pop (C : zk_ok g M k) {a : Value} (hd : decode M.2.1 pc = .ok (.pop, 1)) (ha : a.category = 1) (K : zw_W g M k (pc + 1) L S σ) : zw_W g M k pc L (a :: S) σ := by
  obtain ⟨p, l, e, R, s, m, args, below, meth, c, cells, slots, Q, A⟩ := k
  obtain ⟨hx, hb, hml, hown, hts, hK, hA, hf1, hf2, hc1, hc2, hN⟩ := C
  intro H locs ls hP hS hl
  exact lv_pop hx hb hd ha (K H locs ls hP hS hl)
theorem zr_dup_x1 (C : zk_ok g M k) {a b : Value} (hd : decode M.2.1 pc = .ok (.dup_x1, 1)) (ha : a.category = 1) (hb2 : b.category = 1) (K : zw_W g M k (pc + 1) L (a :: b :: a :: S) σ) : zw_W g M k pc L (a :: b :: S) σ := by
  obtain ⟨p, l, e, R, s, m, args, below, meth, c, cells, slots, Q, A⟩ := k
  obtain ⟨hx, hb, hml, hown, hts, hK, hA, hf1, hf2, hc1, hc2, hN⟩ := C
  intro H locs ls hP hS hl
  exact lv_dup_x1 hx hb hd ha hb2 (K H locs ls hP hS hl)
theorem zr_dup2_11 (C : zk_ok g M k) {a b : Value} (hd : decode M.2.1 pc = .ok (.dup2, 1)) (ha : a.category = 1) (hb2 : b.category = 1) (K : zw_W g M k (pc + 1) L (a :: b :: a :: b :: S) σ) : zw_W g M k pc L (a :: b :: S) σ := by
  obtain ⟨p, l, e, R, s, m, args, below, meth, c, cells, slots, Q, A⟩ := k
  obtain ⟨hx, hb, hml, hown, hts, hK, hA, hf1, hf2, hc1, hc2, hN⟩ := C
  intro H locs ls hP hS hl
  exact lv_dup2_11 hx hb hd ha hb2 (K H locs ls hP hS hl)
theorem zr_dup_x2 (C : zk_ok g M k) {a b d : Value} (hd : decode M.2.1 pc = .ok (.dup_x2, 1)) (ha : a.category = 1) (hb2 : b.category = 1) (hd2 : d.category = 1) (K : zw_W g M k (pc + 1) L (a :: b :: d :: a :: S) σ) : zw_W g M k pc L (a :: b :: d :: S) σ := by
  obtain ⟨p, l, e, R, s, m, args, below, meth, c, cells, slots, Q, A⟩ := k
  obtain ⟨hx, hb, hml, hown, hts, hK, hA, hf1, hf2, hc1, hc2, hN⟩ := C
  intro H locs ls hP hS hl
  exact lv_dup_x2 hx hb hd ha hb2 hd2 (K H locs ls hP hS hl)
theorem zr_icmp_eq (C : zk_ok g M k) {x y : Int} {off : Int} (tgt : Nat) (hd : decode M.2.1 pc = .ok (.if_icmp .eq off, 3)) (ht : (pc : Int) + off = (tgt : Int)) (hx0 : zi_r x) (hy0 : zi_r y) (K1 : x = y → zw_W g M k tgt L S σ) (K2 : ¬ x = y → zw_W g M k (pc + 3) L S σ) : zw_W g M k pc L (zv_i y :: zv_i x :: S) σ := by
  obtain ⟨p, l, e, R, s, m, args, below, meth, c, cells, slots, Q, A⟩ := k
  obtain ⟨hx, hb, hml, hown, hts, hK, hA, hf1, hf2, hc1, hc2, hN⟩ := C
  intro H locs ls hP hS hl
  exact lv_icmp_eq hx hb hd ht (fun h => K1 ((zi_eq hx0 hy0).mp h) H locs ls hP hS hl) (fun h => K2 (fun q => h ((zi_eq hx0 hy0).mpr q)) H locs ls hP hS hl)
theorem zr_if_eq (C : zk_ok g M k) {x : Int} {off : Int} (tgt : Nat) (hd : decode M.2.1 pc = .ok (.ifCond .eq off, 3)) (ht : (pc : Int) + off = (tgt : Int)) (hx0 : zi_r x) (K1 : x = 0 → zw_W g M k tgt L S σ) (K2 : ¬ x = 0 → zw_W g M k (pc + 3) L S σ) : zw_W g M k pc L (zv_i x :: S) σ := by
  obtain ⟨p, l, e, R, s, m, args, below, meth, c, cells, slots, Q, A⟩ := k
  obtain ⟨hx, hb, hml, hown, hts, hK, hA, hf1, hf2, hc1, hc2, hN⟩ := C
  intro H locs ls hP hS hl
  exact lv_if_eq hx hb hd ht (fun h => K1 ((zi_eq hx0 zi_r0).mp h) H locs ls hP hS hl) (fun h => K2 (fun q => h ((zi_eq hx0 zi_r0).mpr q)) H locs ls hP hS hl)
theorem zr_icmp_ne (C : zk_ok g M k) {x y : Int} {off : Int} (tgt : Nat) (hd : decode M.2.1 pc = .ok (.if_icmp .ne off, 3)) (ht : (pc : Int) + off = (tgt : Int)) (hx0 : zi_r x) (hy0 : zi_r y) (K1 : ¬ x = y → zw_W g M k tgt L S σ) (K2 : x = y → zw_W g M k (pc + 3) L S σ) : zw_W g M k pc L (zv_i y :: zv_i x :: S) σ := by
  obtain ⟨p, l, e, R, s, m, args, below, meth, c, cells, slots, Q, A⟩ := k
  obtain ⟨hx, hb, hml, hown, hts, hK, hA, hf1, hf2, hc1, hc2, hN⟩ := C
  intro H locs ls hP hS hl
  exact lv_icmp_ne hx hb hd ht (fun h => K1 (fun q => h ((zi_eq hx0 hy0).mpr q)) H locs ls hP hS hl) (fun h => K2 ((zi_eq hx0 hy0).mp h) H locs ls hP hS hl)
theorem zr_if_ne (C : zk_ok g M k) {x : Int} {off : Int} (tgt : Nat) (hd : decode M.2.1 pc = .ok (.ifCond .ne off, 3)) (ht : (pc : Int) + off = (tgt : Int)) (hx0 : zi_r x) (K1 : ¬ x = 0 → zw_W g M k tgt L S σ) (K2 : x = 0 → zw_W g M k (pc + 3) L S σ) : zw_W g M k pc L (zv_i x :: S) σ := by
  obtain ⟨p, l, e, R, s, m, args, below, meth, c, cells, slots, Q, A⟩ := k
  obtain ⟨hx, hb, hml, hown, hts, hK, hA, hf1, hf2, hc1, hc2, hN⟩ := C
  intro H locs ls hP hS hl
  exact lv_if_ne hx hb hd ht (fun h => K1 (fun q => h ((zi_eq hx0 zi_r0).mpr q)) H locs ls hP hS hl) (fun h => K2 ((zi_eq hx0 zi_r0).mp h) H locs ls hP hS hl)
theorem zr_icmp_lt (C : zk_ok g M k) {x y : Int} {off : Int} (tgt : Nat) (hd : decode M.2.1 pc = .ok (.if_icmp .lt off, 3)) (ht : (pc : Int) + off = (tgt : Int)) (hx0 : zi_r x) (hy0 : zi_r y) (K1 : x < y → zw_W g M k tgt L S σ) (K2 : ¬ x < y → zw_W g M k (pc + 3) L S σ) : zw_W g M k pc L (zv_i y :: zv_i x :: S) σ := by
  obtain ⟨p, l, e, R, s, m, args, below, meth, c, cells, slots, Q, A⟩ := k
  obtain ⟨hx, hb, hml, hown, hts, hK, hA, hf1, hf2, hc1, hc2, hN⟩ := C
  intro H locs ls hP hS hl
  exact lv_icmp_lt hx hb hd ht (fun h => K1 ((zi_lt hx0 hy0).mp h) H locs ls hP hS hl) (fun h => K2 (fun q => h ((zi_lt hx0 hy0).mpr q)) H locs ls hP hS hl)
theorem zr_if_lt (C : zk_ok g M k) {x : Int} {off : Int} (tgt : Nat) (hd : decode M.2.1 pc = .ok (.ifCond .lt off, 3)) (ht : (pc : Int) + off = (tgt : Int)) (hx0 : zi_r x) (K1 : x < 0 → zw_W g M k tgt L S σ) (K2 : ¬ x < 0 → zw_W g M k (pc + 3) L S σ) : zw_W g M k pc L (zv_i x :: S) σ := by
  obtain ⟨p, l, e, R, s, m, args, below, meth, c, cells, slots, Q, A⟩ := k
  obtain ⟨hx, hb, hml, hown, hts, hK, hA, hf1, hf2, hc1, hc2, hN⟩ := C
  intro H locs ls hP hS hl
  exact lv_if_lt hx hb hd ht (fun h => K1 ((zi_lt hx0 zi_r0).mp h) H locs ls hP hS hl) (fun h => K2 (fun q => h ((zi_lt hx0 zi_r0).mpr q)) H locs ls hP hS hl)
theorem zr_icmp_ge (C : zk_ok g M k) {x y : Int} {off : Int} (tgt : Nat) (hd : decode M.2.1 pc = .ok (.if_icmp .ge off, 3)) (ht : (pc : Int) + off = (tgt : Int)) (hx0 : zi_r x) (hy0 : zi_r y) (K1 : y ≤ x → zw_W g M k tgt L S σ) (K2 : ¬ y ≤ x → zw_W g M k (pc + 3) L S σ) : zw_W g M k pc L (zv_i y :: zv_i x :: S) σ := by
  obtain ⟨p, l, e, R, s, m, args, below, meth, c, cells, slots, Q, A⟩ := k
  obtain ⟨hx, hb, hml, hown, hts, hK, hA, hf1, hf2, hc1, hc2, hN⟩ := C
  intro H locs ls hP hS hl
  exact lv_icmp_ge hx hb hd ht (fun h => K1 ((zi_le hy0 hx0).mp h) H locs ls hP hS hl) (fun h => K2 (fun q => h ((zi_le hy0 hx0).mpr q)) H locs ls hP hS hl)
theorem zr_if_ge (C : zk_ok g M k) {x : Int} {off : Int} (tgt : Nat) (hd : decode M.2.1 pc = .ok (.ifCond .ge off, 3)) (ht : (pc : Int) + off = (tgt : Int)) (hx0 : zi_r x) (K1 : 0 ≤ x → zw_W g M k tgt L S σ) (K2 : ¬ 0 ≤ x → zw_W g M k (pc + 3) L S σ) : zw_W g M k pc L (zv_i x :: S) σ := by
  obtain ⟨p, l, e, R, s, m, args, below, meth, c, cells, slots, Q, A⟩ := k
  obtain ⟨hx, hb, hml, hown, hts, hK, hA, hf1, hf2, hc1, hc2, hN⟩ := C
  intro H locs ls hP hS hl
  exact lv_if_ge hx hb hd ht (fun h => K1 ((zi_le zi_r0 hx0).mp h) H locs ls hP hS hl) (fun h => K2 (fun q => h ((zi_le zi_r0 hx0).mpr q)) H locs ls hP hS hl)
theorem zr_icmp_gt (C : zk_ok g M k) {x y : Int} {off : Int} (tgt : Nat) (hd : decode M.2.1 pc = .ok (.if_icmp .gt off, 3)) (ht : (pc : Int) + off = (tgt : Int)) (hx0 : zi_r x) (hy0 : zi_r y) (K1 : y < x → zw_W g M k tgt L S σ) (K2 : ¬ y < x → zw_W g M k (pc + 3) L S σ) : zw_W g M k pc L (zv_i y :: zv_i x :: S) σ := by
  obtain ⟨p, l, e, R, s, m, args, below, meth, c, cells, slots, Q, A⟩ := k
  obtain ⟨hx, hb, hml, hown, hts, hK, hA, hf1, hf2, hc1, hc2, hN⟩ := C
  intro H locs ls hP hS hl
  exact lv_icmp_gt hx hb hd ht (fun h => K1 ((zi_lt hy0 hx0).mp h) H locs ls hP hS hl) (fun h => K2 (fun q => h ((zi_lt hy0 hx0).mpr q)) H locs ls hP hS hl)
theorem zr_if_gt (C : zk_ok g M k) {x : Int} {off : Int} (tgt : Nat) (hd : decode M.2.1 pc = .ok (.ifCond .gt off, 3)) (ht : (pc : Int) + off = (tgt : Int)) (hx0 : zi_r x) (K1 : 0 < x → zw_W g M k tgt L S σ) (K2 : ¬ 0 < x → zw_W g M k (pc + 3) L S σ) : zw_W g M k pc L (zv_i x :: S) σ := by
  obtain ⟨p, l, e, R, s, m, args, below, meth, c, cells, slots, Q, A⟩ := k
  obtain ⟨hx, hb, hml, hown, hts, hK, hA, hf1, hf2, hc1, hc2, hN⟩ := C
  intro H locs ls hP hS hl
  exact lv_if_gt hx hb hd ht (fun h => K1 ((zi_lt zi_r0 hx0).mp h) H locs ls hP hS hl) (fun h => K2 (fun q => h ((zi_lt zi_r0 hx0).mpr q)) H locs ls hP hS hl)
theorem zr_icmp_le (C : zk_ok g M k) {x y : Int} {off : Int} (tgt : Nat) (hd : decode M.2.1 pc = .ok (.if_icmp .le off, 3)) (ht : (pc : Int) + off = (tgt : Int)) (hx0 : zi_r x) (hy0 : zi_r y) (K1 : x ≤ y → zw_W g M k tgt L S σ) (K2 : ¬ x ≤ y → zw_W g M k (pc + 3) L S σ) : zw_W g M k pc L (zv_i y :: zv_i x :: S) σ := by
  obtain ⟨p, l, e, R, s, m, args, below, meth, c, cells, slots, Q, A⟩ := k
  obtain ⟨hx, hb, hml, hown, hts, hK, hA, hf1, hf2, hc1, hc2, hN⟩ := C
  intro H locs ls hP hS hl
  exact lv_icmp_le hx hb hd ht (fun h => K1 ((zi_le hx0 hy0).mp h) H locs ls hP hS hl) (fun h => K2 (fun q => h ((zi_le hx0 hy0).mpr q)) H locs ls hP hS hl)
theorem zr_if_le (C : zk_ok g M k) {x : Int} {off : Int} (tgt : Nat) (hd : decode M.2.1 pc = .ok (.ifCond .le off, 3)) (ht : (pc : Int) + off = (tgt : Int)) (hx0 : zi_r x) (K1 : x ≤ 0 → zw_W g M k tgt L S σ) (K2 : ¬ x ≤ 0 → zw_W g M k (pc + 3) L S σ) : zw_W g M k pc L (zv_i x :: S) σ := by
  obtain ⟨p, l, e, R, s, m, args, below, meth, c, cells, slots, Q, A⟩ := k
  obtain ⟨hx, hb, hml, hown, hts, hK, hA, hf1, hf2, hc1, hc2, hN⟩ := C
  intro H locs ls hP hS hl
  exact lv_if_le hx hb hd ht (fun h => K1 ((zi_le hx0 zi_r0).mp h) H locs ls hP hS hl) (fun h => K2 (fun q => h ((zi_le hx0 zi_r0).mpr q)) H locs ls hP hS hl)
theorem zr_if_eq_b (C : zk_ok g M k) {b : Prop} [Decidable b] {off : Int} (tgt : Nat) (hd : decode M.2.1 pc = .ok (.ifCond .eq off, 3)) (ht : (pc : Int) + off = (tgt : Int)) (K1 : ¬ b → zw_W g M k tgt L S σ) (K2 : b → zw_W g M k (pc + 3) L S σ) : zw_W g M k pc L (zv_i (zi_b b) :: S) σ := by
  obtain ⟨p, l, e, R, s, m, args, below, meth, c, cells, slots, Q, A⟩ := k
  obtain ⟨hx, hb, hml, hown, hts, hK, hA, hf1, hf2, hc1, hc2, hN⟩ := C
  intro H locs ls hP hS hl
  refine zr_if_eq (k := (p, l, e, R, s, m, args, below, meth, c, cells, slots, Q, A)) ⟨hx, hb, hml, hown, hts, hK, hA, hf1, hf2, hc1, hc2, hN⟩ tgt hd ht (by rcases zi_b01 b with h | h <;> rw [h] <;> exact ⟨by decide, by decide⟩) (fun h => K1 ?_) (fun h => K2 ?_) H locs ls hP hS hl
  · exact fun q => by rw [zi_bt q] at h; exact absurd h (by decide)
  · exact Classical.byContradiction fun q => h (zi_bf q)
theorem zr_if_ne_b (C : zk_ok g M k) {b : Prop} [Decidable b] {off : Int} (tgt : Nat) (hd : decode M.2.1 pc = .ok (.ifCond .ne off, 3)) (ht : (pc : Int) + off = (tgt : Int)) (K1 : b → zw_W g M k tgt L S σ) (K2 : ¬ b → zw_W g M k (pc + 3) L S σ) : zw_W g M k pc L (zv_i (zi_b b) :: S) σ := by
  obtain ⟨p, l, e, R, s, m, args, below, meth, c, cells, slots, Q, A⟩ := k
  obtain ⟨hx, hb, hml, hown, hts, hK, hA, hf1, hf2, hc1, hc2, hN⟩ := C
  intro H locs ls hP hS hl
  refine zr_if_ne (k := (p, l, e, R, s, m, args, below, meth, c, cells, slots, Q, A)) ⟨hx, hb, hml, hown, hts, hK, hA, hf1, hf2, hc1, hc2, hN⟩ tgt hd ht (by rcases zi_b01 b with h | h <;> rw [h] <;> exact ⟨by decide, by decide⟩) (fun h => K1 ?_) (fun h => K2 ?_) H locs ls hP hS hl
  · exact Classical.byContradiction fun q => h (zi_bf q)
  · exact fun q => by rw [zi_bt q] at h; exact absurd h (by decide)
theorem zr_goto (C : zk_ok g M k) {off : Int} (tgt : Nat) (hd : decode M.2.1 pc = .ok (.goto off, 3)) (ht : (pc : Int) + off = (tgt : Int)) (K : zw_W g M k tgt L S σ) : zw_W g M k pc L S σ := by
  obtain ⟨p, l, e, R, s, m, args, below, meth, c, cells, slots, Q, A⟩ := k
  obtain ⟨hx, hb, hml, hown, hts, hK, hA, hf1, hf2, hc1, hc2, hN⟩ := C
  intro H locs ls hP hS hl
  exact lv_goto hx hb hd ht (K H locs ls hP hS hl)
theorem zr_sub (ks : List Nat) (hL : lv_pick L ks = L') (K : zw_W g M k pc L' S σ) : zw_W g M k pc L S σ := by
  obtain ⟨p, l, e, R, s, m, args, below, meth, c, cells, slots, Q, A⟩ := k
  intro H locs ls hP hS hl
  exact K H locs ls hP hS (lv_sub hl ks hL)
end ZR
