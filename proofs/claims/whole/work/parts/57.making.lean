/-! MAKING: the judgement of constructors: a world that grows -/
def zn_n0 : Cond := .methodLinkNest RX1 19 yX3_init "StemMill"
def zn_n1 : Cond := .methodLinkNest RX1 43 yX5_init "StemMill"
def zn_n2 : Cond := .methodLinkNest RX8 19 yX6_init "StemMill"
def zn_n3 : Cond := .methodLinkNest RX8 30 yX2_init "StemMill"
def zn_n4 : Cond := .methodLinkNest RX8 40 yX7_init "StemMill"
def zn_n5 : Cond := .methodLinkNest RX8 48 yX0_init "StemMill"
def zn_N (s : State) : Prop := va_Nw zt_N s ∧ va_Nw zn_n0 s ∧ va_Nw zn_n1 s ∧ va_Nw zn_n2 s ∧ va_Nw zn_n3 s ∧ va_Nw zn_n4 s ∧ va_Nw zn_n5 s ∧ va_AO RX5 s ∧ va_AO RX0 s
theorem zn_Nw {s U : State} (hW : s.WarmedH U.vm) (h : zn_N s) : zn_N U := by
  obtain ⟨a0, a1, a2, a3, a4, a5, a6, b1, b2⟩ := h
  exact ⟨va_Nw.warmM hW a0, va_Nw.warmM hW a1, va_Nw.warmM hW a2, va_Nw.warmM hW a3, va_Nw.warmM hW a4, va_Nw.warmM hW a5, va_Nw.warmM hW a6, va_AO.moved hW.alike b1, va_AO.moved hW.alike b2⟩
theorem zn_Ns {s U : State} (h0 : s.vm = U.vm) (h : zn_N s) : zn_N U := by
  obtain ⟨a0, a1, a2, a3, a4, a5, a6, b1, b2⟩ := h
  have hv : s.vm.Alike U.vm := by rw [h0]; exact Vm.Alike.refl _
  exact ⟨va_Nw.same rfl h0 a0, va_Nw.same rfl h0 a1, va_Nw.same rfl h0 a2, va_Nw.same rfl h0 a3, va_Nw.same rfl h0 a4, va_Nw.same rfl h0 a5, va_Nw.same rfl h0 a6, va_AO.moved hv b1, va_AO.moved hv b2⟩
def zn_tys (ar : Nat → ClassId) : List (ClassId × FieldType) := (List.range 5).map (fun t => (ar t, zg_ty t))
theorem zn_ty_at (ar : Nat → ClassId) {t : Nat} (ht : t < 5) : (zn_tys ar)[t]? = some (ar t, zg_ty t) := by
  unfold zn_tys
  rw [List.getElem?_map, List.getElem?_range ht]
  rfl
abbrev zn_T : Type := Program × Launch × Env × Room × State × MethodId × Array Value × List Frame × Method × Code × (State → Prop) × (Nat → Prop)
def zn_ok (D : va_G) (ar : Nat → ClassId) (M : zm_T) (mc ms : Nat) : zn_T → Prop
  | (p, _, _, R, s, m, args, _, meth, c, _, A) => p.tables.exec = Jvm.exec ∧ c.code = M.2.1 ∧ c.maxLocals = M.2.2.1 ∧ s.vm.findClass M.1.cls = some m.cls ∧ (∀ w ∈ zt_W, w.before args s = true) ∧ va_K D zt_cl (zn_tys ar) s ∧ (∀ q, s.heap.size ≤ q → A q) ∧ M.2.2.2.2.1 ≤ R.frames ∧ M.2.2.2.2.2 ≤ R.locals ∧ mc ≤ R.cells ∧ ms ≤ R.slots ∧ zn_N s ∧ meth.name = M.1.name
def zn_W (D : va_G) (M : zm_T) : zn_T → Nat → List (Nat × Value) → List Value → va_W → Nat → Nat → Prop
  | (p, l, e, R, s, m, args, below, meth, c, Q, A), pc, L, S, ws, cs, sl => ∀ (H : Heap) (locs : List Loc) (ls : Array Slot), va_P D zt_cl ws H → va_D A ws → va_S A s.heap H locs → lv_has ls M.2.2.1 L → W p l e R s m args below meth c H locs cs sl Q (F0 m pc ls S)
/-- what a constructor's end owes -/
def zn_Q (D : va_G) (w0 : va_W) (sz : Nat) (Pw : Option Value → va_W → Prop) : Array Value → State → Outcome → State → Prop := fun _ st oc t => (∃ (v : Option Value) (w : va_W), oc = .returned v ∧ Pw v w ∧ va_P D zt_cl w t.heap ∧ va_D (va_A w0 sz) w) ∧ va_F (va_A w0 sz) st t
def zn_room (M : zm_T) (mc ms : Nat) : Room := { frames := M.2.2.2.2.1, cells := mc, slots := ms, locals := M.2.2.2.2.2 }
def zn_Met (D : va_G) (ar : Nat → ClassId) (M : zm_T) (mc ms : Nat) (w0 : va_W) (av : List Value) (Pw : Option Value → va_W → Prop) : Prop :=
  ∀ (l : Launch) (sz : Nat), Met l M.1 (Cond.code M.1 M.2.1 M.2.2.1 M.2.2.2.1 :: zt_W) (zn_room M mc ms) (va_Pc av (fun U => U.heap.size = sz ∧ va_P D zt_cl w0 U.heap ∧ va_K D zt_cl (zn_tys ar) U ∧ va_D (fun _ => True) w0 ∧ zn_N U)) (zn_Q D w0 sz Pw) mc ms (va_A w0 sz)
def zn_ret (D : va_G) (M : zm_T) (mc ms : Nat) (w0 : va_W) (Pw : Option Value → va_W → Prop) : zn_T → Prop
  | (_, _, _, _, s, _, args, below, meth, _, Qf, A) => Qf = MQ below (zn_Q D w0 s.heap.size Pw) args s mc ms (va_A w0 s.heap.size) ∧ A = va_A w0 s.heap.size ∧ meth.sig.returnType = M.2.2.2.1 ∧ meth.locks = false
theorem zn_of {D : va_G} {ar : Nat → ClassId} {M : zm_T} {mc ms : Nat} {w0 : va_W} {av : List Value} {Pw : Option Value → va_W → Prop} (hy : plainName M.1.cls = true) (hlen : (lg_sl av).length ≤ M.2.2.1)
    (body : ∀ x : zn_T, zn_ok D ar M mc ms x → zn_ret D M mc ms w0 Pw x → zn_W D M x 0 (lv_args 0 av) [] w0 0 0) : zn_Met D ar M mc ms w0 av Pw := by
  intro l sz
  refine Met.ofW (cc := M.2.1) (maxL := M.2.2.1) (ret := M.2.2.2.1) hy rfl ?_
  intro p e s m args below meth c s₁ B hml hv
  obtain ⟨rfl, hsz, hP, hK, hD0, hN⟩ := hv
  subst hsz
  have hts := atoms_spec (ws := Cond.code M.1 M.2.1 M.2.2.1 M.2.2.2.1 :: zt_W) B.pre
  have hl := lv_entry av (n := M.2.2.1) hlen
  rw [lg_entry_eq]
  exact body (p, l, e, _, s, m, av.toArray, below, meth, c, MQ below (zn_Q D w0 s.heap.size Pw) av.toArray s mc ms (va_A w0 s.heap.size), va_A w0 s.heap.size)
    ⟨B.exec, B.bytes, hml, findClass_of_methodNamed B.named, fun w hw => hts w (List.mem_cons_of_mem _ hw), hK, fun q h => Or.inr h, Nat.le_refl _, Nat.le_refl _, Nat.le_refl _, Nat.le_refl _, hN, (name_of_methodNamed B.named B.method).1⟩
    ⟨rfl, rfl, B.returns, B.notSynchronized⟩ s.heap [] _ hP (hD0.self (sz := s.heap.size)) va_S.rf hl
section ZN
variable {D : va_G} {ar : Nat → ClassId} {M : zm_T} {mc ms : Nat} {x : zn_T} {pc : Nat} {L L' : List (Nat × Value)} {S : List Value} {ws ws' : va_W} {cs sl : Nat}
theorem zn_iconst (C : zn_ok D ar M mc ms x) {n : Int} (hd : decode M.2.1 pc = .ok (.iconst n, 1)) (K : zn_W D M x (pc + 1) L (zv_i n :: S) ws cs sl) : zn_W D M x pc L S ws cs sl := by
  obtain ⟨p, l, e, R, s, m, args, below, meth, c, Q, A⟩ := x
  obtain ⟨hx, hb, hml, hown, hts, hK, hA, hf1, hf2, hc1, hc2, hN, hin⟩ := C
  intro H locs ls hP hD hS hl
  exact lv_iconst hx hb hd rfl (K H locs ls hP hD hS hl)
theorem zn_bipush (C : zn_ok D ar M mc ms x) {n : Int} (hd : decode M.2.1 pc = .ok (.bipush n, 2)) (hn : (Int8.ofInt n).toInt32 = zi_w n) (K : zn_W D M x (pc + 2) L (zv_i n :: S) ws cs sl) : zn_W D M x pc L S ws cs sl := by
  obtain ⟨p, l, e, R, s, m, args, below, meth, c, Q, A⟩ := x
  obtain ⟨hx, hb, hml, hown, hts, hK, hA, hf1, hf2, hc1, hc2, hN, hin⟩ := C
  intro H locs ls hP hD hS hl
  exact lv_bipush hx hb hd hn (K H locs ls hP hD hS hl)
theorem zn_sipush (C : zn_ok D ar M mc ms x) {n : Int} (hd : decode M.2.1 pc = .ok (.sipush n, 3)) (hn : (Int16.ofInt n).toInt32 = zi_w n) (K : zn_W D M x (pc + 3) L (zv_i n :: S) ws cs sl) : zn_W D M x pc L S ws cs sl := by
  obtain ⟨p, l, e, R, s, m, args, below, meth, c, Q, A⟩ := x
  obtain ⟨hx, hb, hml, hown, hts, hK, hA, hf1, hf2, hc1, hc2, hN, hin⟩ := C
  intro H locs ls hP hD hS hl
  exact lv_sipush hx hb hd hn (K H locs ls hP hD hS hl)
theorem zn_iload_n (C : zn_ok D ar M mc ms x) {i : Fin 4} {z : Int32} (hd : decode M.2.1 pc = .ok (.iload_n i, 1)) (q : Nat) (hq : L[q]? = some ((i : Nat), .int z)) (K : zn_W D M x (pc + 1) L (.int z :: S) ws cs sl) : zn_W D M x pc L S ws cs sl := by
  obtain ⟨p, l, e, R, s, m, args, below, meth, c, Q, A⟩ := x
  obtain ⟨hx, hb, hml, hown, hts, hK, hA, hf1, hf2, hc1, hc2, hN, hin⟩ := C
  intro H locs ls hP hD hS hl
  exact lv_iload_n hx hb hd rfl (lv_at hl q hq) (K H locs ls hP hD hS hl)
theorem zn_aload_n (C : zn_ok D ar M mc ms x) {i : Fin 4} {z : Nat} (hd : decode M.2.1 pc = .ok (.aload_n i, 1)) (q : Nat) (hq : L[q]? = some ((i : Nat), .ref z)) (K : zn_W D M x (pc + 1) L (.ref z :: S) ws cs sl) : zn_W D M x pc L S ws cs sl := by
  obtain ⟨p, l, e, R, s, m, args, below, meth, c, Q, A⟩ := x
  obtain ⟨hx, hb, hml, hown, hts, hK, hA, hf1, hf2, hc1, hc2, hN, hin⟩ := C
  intro H locs ls hP hD hS hl
  exact lv_aload_n hx hb hd rfl (lv_at hl q hq) (K H locs ls hP hD hS hl)
theorem zn_istore_n (C : zn_ok D ar M mc ms x) {i : Fin 4} {z : Int32} (hd : decode M.2.1 pc = .ok (.istore_n i, 1)) (hi : (i : Nat) < M.2.2.1) (hL : ((i : Nat), Value.int z) :: L.filter (fun q => !(q.1 == (i : Nat)) && !(q.1 + 1 == (i : Nat) && q.2.category == 2)) = L') (K : zn_W D M x (pc + 1) L' S ws cs sl) : zn_W D M x pc L (.int z :: S) ws cs sl := by
  obtain ⟨p, l, e, R, s, m, args, below, meth, c, Q, A⟩ := x
  obtain ⟨hx, hb, hml, hown, hts, hK, hA, hf1, hf2, hc1, hc2, hN, hin⟩ := C
  intro H locs ls hP hD hS hl
  exact lv_istore_n hx hb hd rfl hl hi hL (fun ls hl => K H locs ls hP hD hS hl)
theorem zn_astore_n (C : zn_ok D ar M mc ms x) {i : Fin 4} {z : Nat} (hd : decode M.2.1 pc = .ok (.astore_n i, 1)) (hi : (i : Nat) < M.2.2.1) (hL : ((i : Nat), Value.ref z) :: L.filter (fun q => !(q.1 == (i : Nat)) && !(q.1 + 1 == (i : Nat) && q.2.category == 2)) = L') (K : zn_W D M x (pc + 1) L' S ws cs sl) : zn_W D M x pc L (.ref z :: S) ws cs sl := by
  obtain ⟨p, l, e, R, s, m, args, below, meth, c, Q, A⟩ := x
  obtain ⟨hx, hb, hml, hown, hts, hK, hA, hf1, hf2, hc1, hc2, hN, hin⟩ := C
  intro H locs ls hP hD hS hl
  exact lv_astore_n hx hb hd rfl hl hi hL (fun ls hl => K H locs ls hP hD hS hl)
theorem zn_iinc (C : zn_ok D ar M mc ms x) {i : Nat} {n z : Int} (hd : decode M.2.1 pc = .ok (.iinc i n, 3)) (q : Nat) (hq : L[q]? = some (i, zv_i z)) (hi : i < M.2.2.1) (hL : (i, zv_i (z + n)) :: L.filter (fun q => !(q.1 == i) && !(q.1 + 1 == i && q.2.category == 2)) = L') (K : zn_W D M x (pc + 3) L' S ws cs sl) : zn_W D M x pc L S ws cs sl := by
  obtain ⟨p, l, e, R, s, m, args, below, meth, c, Q, A⟩ := x
  obtain ⟨hx, hb, hml, hown, hts, hK, hA, hf1, hf2, hc1, hc2, hN, hin⟩ := C
  intro H locs ls hP hD hS hl
  exact lv_iinc hx hb hd hl hq (zi_add z n) hi hL (fun ls hl => K H locs ls hP hD hS hl)
theorem zn_iadd (C : zn_ok D ar M mc ms x) {z y : Int} (hd : decode M.2.1 pc = .ok (.iadd, 1)) (K : zn_W D M x (pc + 1) L (zv_i (z + y) :: S) ws cs sl) : zn_W D M x pc L (zv_i y :: zv_i z :: S) ws cs sl := by
  obtain ⟨p, l, e, R, s, m, args, below, meth, c, Q, A⟩ := x
  obtain ⟨hx, hb, hml, hown, hts, hK, hA, hf1, hf2, hc1, hc2, hN, hin⟩ := C
  intro H locs ls hP hD hS hl
  refine lv_iadd hx hb hd ?_
  rw [zi_add]
  exact K H locs ls hP hD hS hl
theorem zn_dup (C : zn_ok D ar M mc ms x) {a : Value} (hd : decode M.2.1 pc = .ok (.dup, 1)) (ha : a.category = 1) (K : zn_W D M x (pc + 1) L (a :: a :: S) ws cs sl) : zn_W D M x pc L (a :: S) ws cs sl := by
  obtain ⟨p, l, e, R, s, m, args, below, meth, c, Q, A⟩ := x
  obtain ⟨hx, hb, hml, hown, hts, hK, hA, hf1, hf2, hc1, hc2, hN, hin⟩ := C
  intro H locs ls hP hD hS hl
  exact lv_dup hx hb hd ha (K H locs ls hP hD hS hl)
theorem zn_icmp_ge (C : zn_ok D ar M mc ms x) {z y : Int} {off : Int} (tgt : Nat) (hd : decode M.2.1 pc = .ok (.if_icmp .ge off, 3)) (ht : (pc : Int) + off = (tgt : Int)) (hx0 : zi_r z) (hy0 : zi_r y) (K1 : y ≤ z → zn_W D M x tgt L S ws cs sl) (K2 : ¬ y ≤ z → zn_W D M x (pc + 3) L S ws cs sl) : zn_W D M x pc L (zv_i y :: zv_i z :: S) ws cs sl := by
  obtain ⟨p, l, e, R, s, m, args, below, meth, c, Q, A⟩ := x
  obtain ⟨hx, hb, hml, hown, hts, hK, hA, hf1, hf2, hc1, hc2, hN, hin⟩ := C
  intro H locs ls hP hD hS hl
  exact lv_icmp_ge hx hb hd ht (fun h => K1 ((zi_le hy0 hx0).mp h) H locs ls hP hD hS hl) (fun h => K2 (fun q => h ((zi_le hy0 hx0).mpr q)) H locs ls hP hD hS hl)
theorem zn_icmp_gt (C : zn_ok D ar M mc ms x) {z y : Int} {off : Int} (tgt : Nat) (hd : decode M.2.1 pc = .ok (.if_icmp .gt off, 3)) (ht : (pc : Int) + off = (tgt : Int)) (hx0 : zi_r z) (hy0 : zi_r y) (K1 : y < z → zn_W D M x tgt L S ws cs sl) (K2 : ¬ y < z → zn_W D M x (pc + 3) L S ws cs sl) : zn_W D M x pc L (zv_i y :: zv_i z :: S) ws cs sl := by
  obtain ⟨p, l, e, R, s, m, args, below, meth, c, Q, A⟩ := x
  obtain ⟨hx, hb, hml, hown, hts, hK, hA, hf1, hf2, hc1, hc2, hN, hin⟩ := C
  intro H locs ls hP hD hS hl
  exact lv_icmp_gt hx hb hd ht (fun h => K1 ((zi_lt hy0 hx0).mp h) H locs ls hP hD hS hl) (fun h => K2 (fun q => h ((zi_lt hy0 hx0).mpr q)) H locs ls hP hD hS hl)
theorem zn_icmp_lt (C : zn_ok D ar M mc ms x) {z y : Int} {off : Int} (tgt : Nat) (hd : decode M.2.1 pc = .ok (.if_icmp .lt off, 3)) (ht : (pc : Int) + off = (tgt : Int)) (hx0 : zi_r z) (hy0 : zi_r y) (K1 : z < y → zn_W D M x tgt L S ws cs sl) (K2 : ¬ z < y → zn_W D M x (pc + 3) L S ws cs sl) : zn_W D M x pc L (zv_i y :: zv_i z :: S) ws cs sl := by
  obtain ⟨p, l, e, R, s, m, args, below, meth, c, Q, A⟩ := x
  obtain ⟨hx, hb, hml, hown, hts, hK, hA, hf1, hf2, hc1, hc2, hN, hin⟩ := C
  intro H locs ls hP hD hS hl
  exact lv_icmp_lt hx hb hd ht (fun h => K1 ((zi_lt hx0 hy0).mp h) H locs ls hP hD hS hl) (fun h => K2 (fun q => h ((zi_lt hx0 hy0).mpr q)) H locs ls hP hD hS hl)
theorem zn_if_eq (C : zn_ok D ar M mc ms x) {z : Int} {off : Int} (tgt : Nat) (hd : decode M.2.1 pc = .ok (.ifCond .eq off, 3)) (ht : (pc : Int) + off = (tgt : Int)) (hx0 : zi_r z) (K1 : z = 0 → zn_W D M x tgt L S ws cs sl) (K2 : ¬ z = 0 → zn_W D M x (pc + 3) L S ws cs sl) : zn_W D M x pc L (zv_i z :: S) ws cs sl := by
  obtain ⟨p, l, e, R, s, m, args, below, meth, c, Q, A⟩ := x
  obtain ⟨hx, hb, hml, hown, hts, hK, hA, hf1, hf2, hc1, hc2, hN, hin⟩ := C
  intro H locs ls hP hD hS hl
  exact lv_if_eq hx hb hd ht (fun h => K1 ((zi_eq hx0 zi_r0).mp h) H locs ls hP hD hS hl) (fun h => K2 (fun q => h ((zi_eq hx0 zi_r0).mpr q)) H locs ls hP hD hS hl)
theorem zn_if_ne (C : zn_ok D ar M mc ms x) {z : Int} {off : Int} (tgt : Nat) (hd : decode M.2.1 pc = .ok (.ifCond .ne off, 3)) (ht : (pc : Int) + off = (tgt : Int)) (hx0 : zi_r z) (K1 : ¬ z = 0 → zn_W D M x tgt L S ws cs sl) (K2 : z = 0 → zn_W D M x (pc + 3) L S ws cs sl) : zn_W D M x pc L (zv_i z :: S) ws cs sl := by
  obtain ⟨p, l, e, R, s, m, args, below, meth, c, Q, A⟩ := x
  obtain ⟨hx, hb, hml, hown, hts, hK, hA, hf1, hf2, hc1, hc2, hN, hin⟩ := C
  intro H locs ls hP hD hS hl
  exact lv_if_ne hx hb hd ht (fun h => K1 (fun q => h ((zi_eq hx0 zi_r0).mpr q)) H locs ls hP hD hS hl) (fun h => K2 ((zi_eq hx0 zi_r0).mp h) H locs ls hP hD hS hl)
theorem zn_if_eq_b (C : zn_ok D ar M mc ms x) {b : Prop} [Decidable b] {off : Int} (tgt : Nat) (hd : decode M.2.1 pc = .ok (.ifCond .eq off, 3)) (ht : (pc : Int) + off = (tgt : Int)) (K1 : ¬ b → zn_W D M x tgt L S ws cs sl) (K2 : b → zn_W D M x (pc + 3) L S ws cs sl) : zn_W D M x pc L (zv_i (zi_b b) :: S) ws cs sl := by
  obtain ⟨p, l, e, R, s, m, args, below, meth, c, Q, A⟩ := x
  obtain ⟨hx, hb, hml, hown, hts, hK, hA, hf1, hf2, hc1, hc2, hN, hin⟩ := C
  intro H locs ls hP hD hS hl
  refine zn_if_eq (x := (p, l, e, R, s, m, args, below, meth, c, Q, A)) ⟨hx, hb, hml, hown, hts, hK, hA, hf1, hf2, hc1, hc2, hN, hin⟩ tgt hd ht (by rcases zi_b01 b with h | h <;> rw [h] <;> exact ⟨by decide, by decide⟩) (fun h => K1 ?_) (fun h => K2 ?_) H locs ls hP hD hS hl
  · exact fun q => by rw [zi_bt q] at h; exact absurd h (by decide)
  · exact Classical.byContradiction fun q => h (zi_bf q)
theorem zn_goto (C : zn_ok D ar M mc ms x) {off : Int} (tgt : Nat) (hd : decode M.2.1 pc = .ok (.goto off, 3)) (ht : (pc : Int) + off = (tgt : Int)) (K : zn_W D M x tgt L S ws cs sl) : zn_W D M x pc L S ws cs sl := by
  obtain ⟨p, l, e, R, s, m, args, below, meth, c, Q, A⟩ := x
  obtain ⟨hx, hb, hml, hown, hts, hK, hA, hf1, hf2, hc1, hc2, hN, hin⟩ := C
  intro H locs ls hP hD hS hl
  exact lv_goto hx hb hd ht (K H locs ls hP hD hS hl)
theorem zn_sub (ks : List Nat) (hL : lv_pick L ks = L') (K : zn_W D M x pc L' S ws cs sl) : zn_W D M x pc L S ws cs sl := by
  obtain ⟨p, l, e, R, s, m, args, below, meth, c, Q, A⟩ := x
  intro H locs ls hP hD hS hl
  exact K H locs ls hP hD hS (lv_sub hl ks hL)
theorem zn_cast (h : ws = ws') (K : zn_W D M x pc L S ws' cs sl) : zn_W D M x pc L S ws cs sl := by rw [h]; exact K
/-- what new rests on -/
def zl_N (own : String) (idx ci N : Nat) (fs : List Value) : Prop := ∃ (Cn : String) (T : u_T) (ty : Nat → FieldType), zt_cl[ci]? = some (Cn, T, N) ∧ (∀ w ∈ u_ws Cn T N, w ∈ zt_W) ∧ (∀ k, k < N → parseFieldDescriptor (T k).2.2.1 = some (ty k)) ∧ Cond.classLink own idx Cn ∈ zt_W ∧ Cond.instantiable Cn N ∈ zt_W ∧ Cond.initialized Cn ∈ zt_W ∧ ∀ j, j < N → defaultValue (ty j) = vp_V fs j
theorem zn_new (C : zn_ok D ar M mc ms x) {idx ci N : Nat} {fs : List Value} (hd : decode M.2.1 pc = .ok (.new idx, 3)) (hF : zl_N M.1.cls idx ci N fs) (hcs : cs + 1 ≤ mc) (hsl : sl + N ≤ ms)
    (K : ∀ q : Nat, zn_W D M x (pc + 3) L (.ref q :: S) (ws ++ [(q, .inr (ci, fs))]) (cs + 1) (sl + N)) : zn_W D M x pc L S ws cs sl := by
  obtain ⟨p, l, e, R, s, m, args, below, meth, c, Q, A⟩ := x
  obtain ⟨hx, hb, hml, hown, hts, hK, hA, hf1, hf2, hc1, hc2, hN, hin⟩ := C
  obtain ⟨Cn, T, ty, h1, h2, h3, h4, h5, h6, h7⟩ := hF
  intro H locs ls hP hD hS hl
  exact va_new hx hb hts h2 ty h3 hown (hts _ h4) (hts _ h5) (hts _ h6) hK hP hD hS hA h1 h7 (Nat.le_trans hcs hc1) (Nat.le_trans hsl hc2) hd (fun q H1 hP1 hD1 hS1 => K q H1 locs ls hP1 hD1 hS1 hl)
theorem zn_one {s : State} {a b : ClassId} {ty : FieldType} (h1 : va_RA s a ty) (h2 : va_RA s b ty) : a = b := by
  cases ty with
  | object C =>
    obtain ⟨k1, c1, -, -, -, e1⟩ := h1
    obtain ⟨k2, c2, -, -, -, e2⟩ := h2
    exact Option.some.inj (e1.symm.trans e2)
  | _ =>
    unfold va_RA at h1 h2
    exact Option.some.inj (h1.symm.trans h2)
theorem zn_newa (C : zn_ok D ar M mc ms x) {atype : ArrayType} {z : Int} {N Nm : Nat} {a0 : vp_A} (t : Nat) (ht : t < 5) (hty : newarray.typeOf atype = zg_ty t) (hw : Cond.arrayClass (newarray.typeOf atype) ∈ zt_W) (hd : decode M.2.1 pc = .ok (.newarray atype, 2)) (hz : (N : Int) = z) (hNm : N ≤ Nm) (hb9 : Nm * componentBytes (zg_ty t) ≤ 536870912) (h31 : Nm ≤ 2147483647) (ha : ∀ cA : ClassId, vp_cell cA a0 = arrV cA N (fun _ => defaultValue (zg_ty t))) (hcs : cs + 1 ≤ mc) (hsl : sl + Nm ≤ ms)
    (K : ∀ q : Nat, zn_W D M x (pc + 2) L (.ref q :: S) (ws ++ [(q, .inl (ar t, a0))]) (cs + 1) (sl + Nm)) : zn_W D M x pc L (zv_i z :: S) ws cs sl := by
  obtain ⟨p, l, e, R, s, m, args, below, meth, c, Q, A⟩ := x
  obtain ⟨hx, hb, hml, hown, hts, hK, hA, hf1, hf2, hc1, hc2, hN, hin⟩ := C
  intro H locs ls hP hD hS hl
  subst hz
  have hr : zi_r (N : Int) := ⟨by omega, by omega⟩
  refine va_newa (N' := N) (a0 := a0) hx hb (hts _ hw) hty hK hP hD hS hA ha (fun h => by rw [zi_0, zi_lt hr zi_r0] at h; omega) (by rw [zi_cl (by omega) (by omega)]; omega) (Nat.le_trans (Nat.mul_le_mul_right _ hNm) hb9) (Nat.le_trans hcs hc1) (Nat.le_trans (Nat.le_trans (Nat.add_le_add_left hNm _) hsl) hc2) hd (fun q cA H1 hK1 hP1 hD1 hS1 => ?_)
  have e1 := (hK1.2 (zn_tys ar).length (cA, zg_ty t) (by rw [List.getElem?_append_right (Nat.le_refl _), Nat.sub_self]; rfl)).2
  have e2 := (hK.2 t (ar t, zg_ty t) (zn_ty_at ar ht)).2
  have e3 : cA = ar t := zn_one e1 e2
  subst e3
  exact W.widen (Nat.le_refl _) (Nat.add_le_add_left hNm _) (K q H1 locs ls hP1 hD1 hS1 hl)
theorem zn_newq (C : zn_ok D ar M mc ms x) {idx N : Nat} {z : Int} {Cn : String} (t : Nat) (ht : t < 5) (hty : zg_ty t = .object Cn) (hao : ∀ s, zn_N s → va_AO Cn s) (hw : Cond.classLink M.1.cls idx Cn ∈ zt_W) (hd : decode M.2.1 pc = .ok (.anewarray idx, 3)) (hz : (N : Int) = z) (h31 : N ≤ 1000) (hcs : cs + 1 ≤ mc) (hsl : sl + N ≤ ms)
    (K : ∀ q : Nat, zn_W D M x (pc + 3) L (.ref q :: S) (ws ++ [(q, .inl (ar t, N, .inr (.inr (.inr (.inr (fun _ => none))))))]) (cs + 1) (sl + N)) : zn_W D M x pc L (zv_i z :: S) ws cs sl := by
  obtain ⟨p, l, e, R, s, m, args, below, meth, c, Q, A⟩ := x
  obtain ⟨hx, hb, hml, hown, hts, hK, hA, hf1, hf2, hc1, hc2, hN, hin⟩ := C
  intro H locs ls hP hD hS hl
  subst hz
  have hr : zi_r (N : Int) := ⟨by omega, by omega⟩
  refine va_newq (N' := N) hx hb hown (hts _ hw) (hao s hN) hK hP hD hS hA (fun h => by rw [zi_0, zi_lt hr zi_r0] at h; omega) (by rw [zi_cl (by omega) (by omega)]; omega) (by omega) (Nat.le_trans hcs hc1) (Nat.le_trans hsl hc2) hd (fun q cA H1 hK1 hP1 hD1 hS1 => ?_)
  have e1 := (hK1.2 (zn_tys ar).length (cA, .object Cn) (by rw [List.getElem?_append_right (Nat.le_refl _), Nat.sub_self]; rfl)).2
  have e2 := (hK.2 t (ar t, zg_ty t) (zn_ty_at ar ht)).2
  rw [hty] at e2
  have e3 : cA = ar t := zn_one e1 e2
  subst e3
  exact K q H1 locs ls hP1 hD1 hS1 hl
def zl_PF (own : String) (idx ci j : Nat) (ty : FieldType) : Prop := ∃ (C : String) (T : u_T) (N : Nat) (ty0 : Nat → FieldType), zt_cl[ci]? = some (C, T, N) ∧ j < N ∧ (∀ w ∈ u_ws C T N, w ∈ zt_W) ∧ Cond.fieldLink own idx (T j).1 (T j).2.1 (T j).2.2.1 ∈ zt_W ∧ (∀ k, k < N → parseFieldDescriptor (T k).2.2.1 = some (ty0 k)) ∧ (∀ a, a < N → ∀ b, b < N → a ≠ b → (T a).2.1 ≠ (T b).2.1) ∧ (T j).2.2.2 = true ∧ (T j).1 = own ∧ parseFieldDescriptor (T j).2.2.1 = some ty
theorem zn_putF (C : zn_ok D ar M mc ms x) {i idx ci a : Nat} {fs : List Value} {v : Value} {ty : FieldType} (j : Nat) (hd : decode M.2.1 pc = .ok (.putfield idx, 3)) (hF : zl_PF M.1.cls idx ci j ty) (hnm : M.1.name = "<init>") (he : ws[i]? = some (a, .inr (ci, fs))) (hn : narrow ty v = v) (hfit : fits ty v = true) (hl9 : j < fs.length) (hw : ws.set i (a, .inr (ci, fs.set j v)) = ws')
    (K : zn_W D M x (pc + 3) L S ws' cs sl) : zn_W D M x pc L (v :: .ref a :: S) ws cs sl := by
  subst hw
  obtain ⟨p, l, e, R, s, m, args, below, meth, c, Q, A⟩ := x
  obtain ⟨hx, hb, hml, hown, hts, hK, hA, hf1, hf2, hc1, hc2, hN, hin⟩ := C
  obtain ⟨Cn, T, N, ty0, h1, h2, h3, h4, h5, h6, h7, h8, h9⟩ := hF
  intro H locs ls hP hD hS hl
  exact va_putF hx hb hts h3 ty0 h5 h6 hown hK hP hD hS i he h1 j h2 (hts _ h4) (fun _ h => h) h7 (hin.trans hnm) h8 h9 hn hfit hl9 hd (fun H1 locs1 hP1 hD1 hS1 => K H1 locs1 ls hP1 hD1 hS1 hl)
theorem zn_put (C : zn_ok D ar M mc ms x) {i idx ci a : Nat} {fs : List Value} {v : Value} {ty : FieldType} (j : Nat) (hd : decode M.2.1 pc = .ok (.putfield idx, 3)) (hF : zl_P M.1.cls idx ci j ty) (he : ws[i]? = some (a, .inr (ci, fs))) (hn : narrow ty v = v) (hfit : fits ty v = true) (hl9 : j < fs.length) (hw : ws.set i (a, .inr (ci, fs.set j v)) = ws')
    (K : zn_W D M x (pc + 3) L S ws' cs sl) : zn_W D M x pc L (v :: .ref a :: S) ws cs sl := by
  subst hw
  obtain ⟨p, l, e, R, s, m, args, below, meth, c, Q, A⟩ := x
  obtain ⟨hx, hb, hml, hown, hts, hK, hA, hf1, hf2, hc1, hc2, hN, hin⟩ := C
  obtain ⟨Cn, T, N, ty0, h1, h2, h3, h4, h5, h6, h7, h8⟩ := hF
  intro H locs ls hP hD hS hl
  exact va_put hx hb hts h3 ty0 h5 h6 hown hK hP hD hS i he h1 j h2 (hts _ h4) (fun _ h => h) h7 h8 hn hfit hl9 hd (fun H1 locs1 hP1 hD1 hS1 => K H1 locs1 ls hP1 hD1 hS1 hl)
theorem zn_get (C : zn_ok D ar M mc ms x) {i idx ci a : Nat} {fs : List Value} {v : Value} (j : Nat) (hd : decode M.2.1 pc = .ok (.getfield idx, 3)) (hF : zl_F M.1.cls idx ci j) (he : ws[i]? = some (a, .inr (ci, fs))) (hv : fs[j]? = some v)
    (K : zn_W D M x (pc + 3) L (v :: S) ws cs sl) : zn_W D M x pc L (.ref a :: S) ws cs sl := by
  obtain ⟨p, l, e, R, s, m, args, below, meth, c, Q, A⟩ := x
  obtain ⟨hx, hb, hml, hown, hts, hK, hA, hf1, hf2, hc1, hc2, hN, hin⟩ := C
  obtain ⟨Cn, T, N, h1, h2, h3, h4⟩ := hF
  intro H locs ls hP hD hS hl
  exact va_get hx hb hts h3 hown hK hP i he h1 j h2 (hts _ h4) (fun _ h => h) hv hd (K H locs ls hP hD hS hl)
theorem zn_iast (C : zn_ok D ar M mc ms x) {i a N : Nat} {f : Nat → Int32} {z y : Int} (hd : decode M.2.1 pc = .ok (.iastore, 1)) (he : ws[i]? = some (a, .inl (ar 0, N, .inl f))) (hz : 0 ≤ z ∧ z < N) (hN9 : (N : Int) ≤ 2147483647) (hw : ws.set i (a, .inl (ar 0, N, .inl (upd f z.toNat (zi_w y)))) = ws')
    (K : zn_W D M x (pc + 1) L S ws' cs sl) : zn_W D M x pc L (zv_i y :: zv_i z :: .ref a :: S) ws cs sl := by
  subst hw
  obtain ⟨p, l, e, R, s, m, args, below, meth, c, Q, A⟩ := x
  obtain ⟨hx, hb, hml, hown, hts, hK, hA, hf1, hf2, hc1, hc2, hN, hin⟩ := C
  intro H locs ls hP hD hS hl
  refine va_iast hx hb hK hP hD hS i 0 he (zn_ty_at ar (by decide)) (zi_in hz.1 hz.2 hN9) hd (fun H1 locs1 hP1 hD1 hS1 => ?_)
  rw [zi_cl hz.1 (by omega)] at hP1 hD1
  exact K H1 locs1 ls hP1 hD1 hS1 hl
theorem zn_aast (C : zn_ok D ar M mc ms x) {i a N qk ci v : Nat} {f : Nat → Option Nat} {vs : List Value} {r : vw_C} {z : Int} (t : Nat) (ht : t < 5) (hr : zg_ty t = .object r.1) (hd : decode M.2.1 pc = .ok (.aastore, 1)) (he : ws[i]? = some (a, .inl (ar t, N, .inr (.inr (.inr (.inr f)))))) (hv : ws[qk]? = some (v, .inr (ci, vs))) (hc : zt_cl[ci]? = some r) (hz : 0 ≤ z ∧ z < N) (hN9 : (N : Int) ≤ 2147483647) (hw : ws.set i (a, .inl (ar t, N, .inr (.inr (.inr (.inr (va_up f z.toNat (some v))))))) = ws')
    (K : zn_W D M x (pc + 1) L S ws' cs sl) : zn_W D M x pc L (.ref v :: zv_i z :: .ref a :: S) ws cs sl := by
  subst hw
  obtain ⟨p, l, e, R, s, m, args, below, meth, c, Q, A⟩ := x
  obtain ⟨hx, hb, hml, hown, hts, hK, hA, hf1, hf2, hc1, hc2, hN, hin⟩ := C
  intro H locs ls hP hD hS hl
  refine va_astq hx hb hK hP hD hS i t qk ci he (by rw [zn_ty_at ar ht, hr]) hv hc (zi_in hz.1 hz.2 hN9) hd (fun H1 locs1 hP1 hD1 hS1 => ?_)
  rw [zi_cl hz.1 (by omega)] at hP1 hD1
  exact K H1 locs1 ls hP1 hD1 hS1 hl
theorem zn_obj (C : zn_ok D ar M mc ms x) {idx a : Nat} (hd : decode M.2.1 pc = .ok (.invokespecial idx, 3)) (h1 : Cond.methodLink M.1.cls idx Lib.objectInit ∈ zt_W) (h2 : Cond.instanceMethod Lib.objectInit ∈ zt_W) (h3 : Cond.code Lib.objectInit ⟨#[0xb1]⟩ 1 none ∈ zt_W) (hS0 : S = []) (hfr : 1 ≤ M.2.2.2.2.1 ∧ 12 ≤ M.2.2.2.2.2)
    (K : zn_W D M x (pc + 3) L S ws cs sl) : zn_W D M x pc L (.ref a :: S) ws cs sl := by
  subst hS0
  obtain ⟨p, l, e, R, s, m, args, below, meth, c, Q, A⟩ := x
  obtain ⟨hx, hb, hml, hown, hts, hK, hA, hf1, hf2, hc1, hc2, hN, hin⟩ := C
  intro H locs ls hP hD hS hl
  refine W.objInit (a := a) hx hb hown (hts _ h1) (hts _ h2) (hts _ h3) rfl (by rw [hml]; exact hl.1) rfl hd (Nat.le_trans hfr.1 hf1) (Nat.le_trans hfr.2 hf2) ?_
  exact W.eq (g2 := F0 m (pc + 3) ls []) rfl (K H locs ls hP hD hS hl)
theorem zn_blind {w0 : va_W} {av : List Value} {sz : Nat} : FrameBlind (va_Pc av (fun U => U.heap.size = sz ∧ va_P D zt_cl w0 U.heap ∧ va_K D zt_cl (zn_tys ar) U ∧ va_D (fun _ => True) w0 ∧ zn_N U)) := by
  intro a U g1 mk q
  obtain ⟨q0, q1, qP, qK, qD, qN⟩ := q
  exact ⟨q0, q1, qP, va_K.moved (u := U) (U := U.calling g1 mk a) (Vm.Alike.refl U.vm) qK, qD, zn_Ns (s := U) (U := U.calling g1 mk a) rfl qN⟩
/-- behind a call: the callee's cells w0 stood last -/
theorem zn_go {p : Program} {l : Launch} {e : Env} {R : Room} {s : State} {m : MethodId} {args : Array Value} {below : List Frame} {meth : Method} {c : Code} {H : Heap} {locs : List Loc} {Q : State → Prop} {A : Nat → Prop} {ls : Array Slot} {st0 rest : List Value} {a : Array Value} {Pw : Option Value → va_W → Prop} {wr w0 : va_W} {mc' ms' : Nat}
    (hA : ∀ q, s.heap.size ≤ q → A q) (hP : va_P D zt_cl (wr ++ w0) H) (hD : va_D A (wr ++ w0)) (hr : va_Run p l e R s m args below meth c H locs cs sl mc' ms' (F0 m pc ls st0) rest (zn_Q D w0 H.size Pw a) (va_A w0 H.size)) (hS : va_S A s.heap H locs) (hl : lv_has ls M.2.2.1 L)
    (K : ∀ (v : Option Value) (w : va_W), Pw v w → zn_W D M (p, l, e, R, s, m, args, below, meth, c, Q, A) (pc + 3) L (v.toList ++ rest) (wr ++ w) (cs + mc') (sl + ms')) : W p l e R s m args below meth c H locs cs sl Q (F0 m pc ls st0) := by
  intro T hT X
  obtain ⟨v, st₀, t, T', L1, h0, X', hL, e1, e2, ⟨⟨v2, w, hv, hq, hP1, hD1⟩, hz, hk⟩, st⟩ := hr T hT X
  cases hv
  rw [h0] at hz hk
  have inR : ∀ (k : Nat) (q : Nat × va_E), wr[k]? = some q → (wr ++ w0)[k]? = some q := fun k q h => by
    rw [List.getElem?_append_left (List.getElem?_eq_some_iff.mp h).1]; exact h
  have inC : ∀ (k : Nat) (q : Nat × va_E), w0[k]? = some q → (wr ++ w0)[wr.length + k]? = some q := fun k q h => by
    rw [List.getElem?_append_right (by omega), Nat.add_sub_cancel_left]; exact h
  have hAA : ∀ q, va_A w0 H.size q → A q := fun q h => by
    rcases h with ⟨k, e, h⟩ | h
    · exact hD.2 _ _ (inC k _ h)
    · exact hA q (Nat.le_trans hS.1 h)
  have apart : ∀ (k : Nat) (q : Nat × va_E), wr[k]? = some q → ¬ va_A w0 H.size q.1 := fun k q h z => by
    have hlt := (hP k q (inR k q h)).lt
    rcases z with ⟨j, e, hj⟩ | z
    · have := hD.1 k (wr.length + j) q _ (inR k q h) (inC j _ hj) rfl
      have := (List.getElem?_eq_some_iff.mp h).1
      omega
    · omega
  have hPr : va_P D zt_cl wr T'.heap := fun k q h => (hP k q (inR k q h)).kept (by rw [e1]; exact hk q.1 (hP k q (inR k q h)).lt (apart k q h))
  have hDr : va_D A wr := ⟨fun i j p q hi hj he => hD.1 i j p q (inR i p hi) (inR j q hj) he, fun k q h => hD.2 k q (inR k q h)⟩
  obtain ⟨t2, a1, b1⟩ := K v w hq T'.heap (locs ++ L1) ls (hPr.app (by rw [e1]; exact hP1)) (va_D.app hDr (hD1.weaken (fun k q _ h => hAA _ h)) (fun i j p q hi hj he => apart i p hi (by rw [he]; exact hD1.2 j q hj))) ⟨Nat.le_trans hS.1 (by rw [e1]; exact hz), fun q h1 h2 => by rw [e1, hk q (Nat.lt_of_lt_of_le h1 hS.1) (fun z => h2 (hAA q z))]; exact hS.2.1 q h1 h2, fun q hq => by
      rcases List.mem_append.mp hq with h | h
      · exact hS.2.2 q h
      · exact hAA _ (hL q h)⟩ hl T' rfl X'
  exact ⟨t2, st t2 a1, b1⟩
theorem zn_P2 {wr w0 : va_W} {H : Heap} (h : va_P D zt_cl (wr ++ w0) H) : va_P D zt_cl w0 H := fun k q hk => h (wr.length + k) q (by rw [List.getElem?_append_right (by omega), Nat.add_sub_cancel_left]; exact hk)
theorem zn_D2 {wr w0 : va_W} {A : Nat → Prop} (h : va_D A (wr ++ w0)) : va_D (fun _ => True) w0 := ⟨fun i j p q hi hj he => by
  have := h.1 (wr.length + i) (wr.length + j) p q (by rw [List.getElem?_append_right (by omega), Nat.add_sub_cancel_left]; exact hi) (by rw [List.getElem?_append_right (by omega), Nat.add_sub_cancel_left]; exact hj) he
  omega, fun _ _ _ => trivial⟩
def zl_I (own : String) (idx : Nat) (Mc : zm_T) : Prop := Cond.methodLink own idx Mc.1 ∈ zt_W ∧ Cond.instanceMethod Mc.1 ∈ zt_W ∧ Mc.1.name = "<init>" ∧ Mc.2.2.2.1 = none
def zl_IN (own : String) (idx : Nat) (Mc : zm_T) : Prop := (∀ s, zn_N s → va_Nw (.methodLinkNest own idx Mc.1 "StemMill") s) ∧ Cond.instanceMethod Mc.1 ∈ zt_W ∧ Mc.1.name = "<init>" ∧ Mc.2.2.2.1 = none
theorem zn_callI (C : zn_ok D ar M mc ms x) {idx n b mc' ms' : Nat} {Mc : zm_T} {wr : va_W} {e0 : va_E} {As rest : List Value} {Pw : Option Value → va_W → Prop} (hd : decode M.2.1 pc = .ok (.invokespecial idx, 3)) (hM : zl_M Mc n) (hL : zl_I M.1.cls idx Mc) (hn : As.length = n) (hdep : Mc.2.2.2.2.1 + 1 ≤ M.2.2.2.2.1 ∧ 8 + (Mc.2.2.1 + 11) + Mc.2.2.2.2.2 ≤ M.2.2.2.2.2) (hst : S = As.reverse ++ .ref b :: rest) (hcat : (rest.map fun v => v.category).sum ≤ 8) (hcs : cs + mc' ≤ mc) (hsl : sl + ms' ≤ ms) (hws : ws = wr ++ [(b, e0)])
    (hc : zn_Met D ar Mc mc' ms' [(b, e0)] (.ref b :: As) Pw) (K : ∀ (v : Option Value) (w : va_W), Pw v w → zn_W D M x (pc + 3) L (v.toList ++ rest) (wr ++ w) (cs + mc') (sl + ms')) : zn_W D M x pc L S ws cs sl := by
  subst hws
  obtain ⟨p, l, e, R, s, m, args, below, meth, c, Q, A⟩ := x
  obtain ⟨hx, hb, hml, hown, hts, hK, hA, hf1, hf2, hc1, hc2, hN, hin⟩ := C
  obtain ⟨m1, m2, m3, m4, m5⟩ := hM
  intro H locs ls hP hD hS hl
  have hr := va_runI (R := R) (locs := locs) (cells := cs) (slots := sl) (below := below) (meth := meth) (e := e) (p := p) (b := b) (As := As) (rest := rest) (g := F0 m pc ls S) (own := M.1.cls) (nL := M.2.2.1) (cc := M.2.1) (c := c) (H := H) ⟨hx, hb, hml, hown, hts⟩ (hc l H.size)
    ⟨callB_of n hts (zl_good m1) (show Cond.code Mc.1 Mc.2.1 Mc.2.2.1 Mc.2.2.2.1 :: zt_W = Cond.code Mc.1 Mc.2.1 Mc.2.2.1 none :: zt_W by rw [hL.2.2.2]) rfl rfl (hts _ m2) (hts _ hL.1) ⟨m3, m4, m5⟩ ⟨Nat.le_trans hdep.1 hf1, Nat.le_trans hdep.2 hf2⟩, hL.2.2.1, hts _ hL.2.1⟩
    ⟨zn_blind, fun U hU hW => ⟨rfl, by rw [hU], by rw [hU]; exact zn_P2 hP, va_K.moved hW.alike hK, zn_D2 hD, zn_Nw hW hN⟩⟩ rfl hn hl.1 hst (lv_room hcat) hd ⟨Nat.le_trans hcs hc1, Nat.le_trans hsl hc2⟩
  exact zn_go hA hP hD hr hS hl K
theorem zn_callIN (C : zn_ok D ar M mc ms x) {idx n b mc' ms' : Nat} {Mc : zm_T} {wr : va_W} {e0 : va_E} {As rest : List Value} {Pw : Option Value → va_W → Prop} (hd : decode M.2.1 pc = .ok (.invokespecial idx, 3)) (hM : zl_M Mc n) (hL : zl_IN M.1.cls idx Mc) (hn : As.length = n) (hdep : Mc.2.2.2.2.1 + 1 ≤ M.2.2.2.2.1 ∧ 8 + (Mc.2.2.1 + 11) + Mc.2.2.2.2.2 ≤ M.2.2.2.2.2) (hst : S = As.reverse ++ .ref b :: rest) (hcat : (rest.map fun v => v.category).sum ≤ 8) (hcs : cs + mc' ≤ mc) (hsl : sl + ms' ≤ ms) (hws : ws = wr ++ [(b, e0)])
    (hc : zn_Met D ar Mc mc' ms' [(b, e0)] (.ref b :: As) Pw) (K : ∀ (v : Option Value) (w : va_W), Pw v w → zn_W D M x (pc + 3) L (v.toList ++ rest) (wr ++ w) (cs + mc') (sl + ms')) : zn_W D M x pc L S ws cs sl := by
  subst hws
  obtain ⟨p, l, e, R, s, m, args, below, meth, c, Q, A⟩ := x
  obtain ⟨hx, hb, hml, hown, hts, hK, hA, hf1, hf2, hc1, hc2, hN, hin⟩ := C
  obtain ⟨m1, m2, m3, m4, m5⟩ := hM
  intro H locs ls hP hD hS hl
  have hr := va_runIN (R := R) (locs := locs) (cells := cs) (slots := sl) (below := below) (meth := meth) (e := e) (p := p) (b := b) (As := As) (rest := rest) (g := F0 m pc ls S) (own := M.1.cls) (nL := M.2.2.1) (cc := M.2.1) (c := c) (H := H) ⟨hx, hb, hml, hown, hts⟩ (hc l H.size)
    ⟨va_cnB n hts (zl_good m1) (show Cond.code Mc.1 Mc.2.1 Mc.2.2.1 Mc.2.2.2.1 :: zt_W = Cond.code Mc.1 Mc.2.1 Mc.2.2.1 none :: zt_W by rw [hL.2.2.2]) rfl rfl (hL.1 s hN) (hts _ m2) ⟨m3, m4, m5⟩ ⟨Nat.le_trans hdep.1 hf1, Nat.le_trans hdep.2 hf2⟩, hL.2.2.1, hts _ hL.2.1⟩
    ⟨zn_blind, fun U hU hW => ⟨rfl, by rw [hU], by rw [hU]; exact zn_P2 hP, va_K.moved hW.alike hK, zn_D2 hD, zn_Nw hW hN⟩⟩ rfl hn hl.1 hst (lv_room hcat) hd ⟨Nat.le_trans hcs hc1, Nat.le_trans hsl hc2⟩
  exact zn_go hA hP hD hr hS hl K
theorem zn_callS (C : zn_ok D ar M mc ms x) {idx n mc' ms' : Nat} {Mc : zm_T} {As rest : List Value} {Pw : Option Value → va_W → Prop} (hd : decode M.2.1 pc = .ok (.invokestatic idx, 3)) (hM : zl_M Mc n) (hL : zl_S M.1.cls idx Mc) (hn : As.length = n) (hdep : Mc.2.2.2.2.1 + 1 ≤ M.2.2.2.2.1 ∧ 8 + (Mc.2.2.1 + 11) + Mc.2.2.2.2.2 ≤ M.2.2.2.2.2) (hst : S = As.reverse ++ rest) (hcat : (rest.map fun v => v.category).sum ≤ 8) (hcs : cs + mc' ≤ mc) (hsl : sl + ms' ≤ ms)
    (hc : zn_Met D ar Mc mc' ms' [] As Pw) (K : ∀ (v : Option Value) (w : va_W), Pw v w → zn_W D M x (pc + 3) L (v.toList ++ rest) (ws ++ w) (cs + mc') (sl + ms')) : zn_W D M x pc L S ws cs sl := by
  obtain ⟨p, l, e, R, s, m, args, below, meth, c, Q, A⟩ := x
  obtain ⟨hx, hb, hml, hown, hts, hK, hA, hf1, hf2, hc1, hc2, hN, hin⟩ := C
  obtain ⟨m1, m2, m3, m4, m5⟩ := hM
  intro H locs ls hP hD hS hl
  have hP0 : va_P D zt_cl (ws ++ []) H := by rw [List.append_nil]; exact hP
  have hD0 : va_D A (ws ++ []) := by rw [List.append_nil]; exact hD
  have hr := va_runS (R := R) (locs := locs) (cells := cs) (slots := sl) (below := below) (meth := meth) (e := e) (p := p) (As := As) (rest := rest) (g := F0 m pc ls S) (own := M.1.cls) (nL := M.2.2.1) (cc := M.2.1) (c := c) (H := H) ⟨hx, hb, hml, hown, hts⟩ (hc l H.size)
    ⟨callB_of n hts (zl_good m1) rfl rfl rfl (hts _ m2) (hts _ hL.1) ⟨m3, m4, m5⟩ ⟨Nat.le_trans hdep.1 hf1, Nat.le_trans hdep.2 hf2⟩, hts _ hL.2⟩
    ⟨zn_blind, fun U hU hW => ⟨rfl, by rw [hU], by rw [hU]; exact zn_P2 hP0, va_K.moved hW.alike hK, zn_D2 hD0, zn_Nw hW hN⟩⟩ rfl hn hl.1 hst (lv_room hcat) hd ⟨Nat.le_trans hcs hc1, Nat.le_trans hsl hc2⟩
  exact zn_go hA hP0 hD0 hr hS hl K
theorem zn_vret (C : zn_ok D ar M mc ms x) {w0 : va_W} {Pw : Option Value → va_W → Prop} (hr : zn_ret D M mc ms w0 Pw x) (hd : decode M.2.1 pc = .ok (.return_, 1)) (ht : M.2.2.2.1 = none) (hcs : cs ≤ mc) (hsl : sl ≤ ms) (hq : Pw none ws) : zn_W D M x pc L [] ws cs sl := by
  obtain ⟨p, l, e, R, s, m, args, below, meth, c, Q, A⟩ := x
  obtain ⟨hx, hb, hml, hown, hts, hK, hA, hf1, hf2, hc1, hc2, hN, hin⟩ := C
  obtain ⟨rfl, rfl, r1, r2⟩ := hr
  intro H locs ls hP hD hS hl
  exact W.widen hcs hsl (W.vret hx hb (by rw [r1, ht]) (fun t ht hW => ⟨⟨_, ws, rfl, hq, by rw [ht]; exact hP, hD⟩, hS.F ht⟩) hS.2.2 hd)
theorem zn_zret (C : zn_ok D ar M mc ms x) {w0 : va_W} {Pw : Option Value → va_W → Prop} (hr : zn_ret D M mc ms w0 Pw x) {z : Int} (hd : decode M.2.1 pc = .ok (.ireturn, 1)) (ht : M.2.2.2.1 = some .boolean) (h01 : z = 0 ∨ z = 1) (hcs : cs ≤ mc) (hsl : sl ≤ ms) (hq : Pw (some (zv_i z)) ws) : zn_W D M x pc L [zv_i z] ws cs sl := by
  obtain ⟨p, l, e, R, s, m, args, below, meth, c, Q, A⟩ := x
  obtain ⟨hx, hb, hml, hown, hts, hK, hA, hf1, hf2, hc1, hc2, hN, hin⟩ := C
  obtain ⟨rfl, rfl, r1, r2⟩ := hr
  intro H locs ls hP hD hS hl
  exact W.widen hcs hsl (W.zret hx hb (by rw [r1, ht]) (by rcases h01 with rfl | rfl <;> rfl) (fun t ht hW => ⟨⟨_, ws, rfl, hq, by rw [ht]; exact hP, hD⟩, hS.F ht⟩) hS.2.2 hd)
end ZN
