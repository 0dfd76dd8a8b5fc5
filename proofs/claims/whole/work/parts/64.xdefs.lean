/-! throwing: NoSuchElementException -/
def zx_E : String := "java/util/NoSuchElementException"
def zx_A : List Cond := vx_at0 RX10 99 zx_E ["java/lang/RuntimeException", "java/lang/Exception"]
theorem zx_g : ∀ w ∈ zx_A.filter goodWord, w ∈ lw_tbl := by decide +kernel
def zx_d1 : MethodName := ⟨"java/lang/RuntimeException", "<init>", "()V"⟩
def zx_d2 : MethodName := ⟨"java/lang/Exception", "<init>", "()V"⟩
def zx_d3 : MethodName := ⟨"java/lang/Throwable", "<init>", "()V"⟩
theorem zx_b : ∀ w ∈ zx_A.filter (fun w => !goodWord w), w ∈ [Cond.castable zx_E zx_E, Cond.declares zx_d1, Cond.declares zx_d2, Cond.declares zx_d3] := by decide +kernel
theorem zx_o : ∀ w ∈ Cond.classLink RX10 97 zx_E :: Cond.initialized zx_E :: zx_A, vx_ot w = true := by decide +kernel
/-- what throwing rests on beside the good words -/
def zx_N (U : State) : Prop := va_Nw (.castable zx_E zx_E) U ∧ va_Nw (.declares zx_d1) U ∧ va_Nw (.declares zx_d2) U ∧ va_Nw (.declares zx_d3) U
theorem zx_Nw {s U : State} (hW : s.WarmedH U.vm) (h : zx_N s) : zx_N U := ⟨va_Nw.warmC hW h.1, va_Nw.warmD hW h.2.1, va_Nw.warmD hW h.2.2.1, va_Nw.warmD hW h.2.2.2⟩
theorem zx_Ns {s U : State} (h0 : s.vm = U.vm) (h : zx_N s) : zx_N U := ⟨va_Nw.same rfl h0 h.1, va_Nw.same rfl h0 h.2.1, va_Nw.same rfl h0 h.2.2.1, va_Nw.same rfl h0 h.2.2.2⟩
/-- the two statics that a new Throwable reads -/
def zx_Z (A : Nat → Prop) (U : State) (H : Heap) : Prop := vx_Zq Bundle.tN "UNASSIGNED_STACK" Bundle.steD A U H ∧ vx_Zq Bundle.tN "SUPPRESSED_SENTINEL" Bundle.listD A U H
theorem zx_Zm {A : Nat → Prop} {u U : State} {H : Heap} (hvm : u.vm.Alike U.vm) (h : zx_Z A u H) : zx_Z A U H := ⟨vx_Zq.moved hvm h.1, vx_Zq.moved hvm h.2⟩
theorem zx_Zk {A : Nat → Prop} {U : State} {H H1 : Heap} (h : zx_Z A U H) (hq : ∀ a : Nat, a < H.size → ¬ A a → H1[a]? = H[a]?) : zx_Z A U H1 := ⟨vx_Zq.kept h.1 hq, vx_Zq.kept h.2 hq⟩
theorem zx_Zn {A B : Nat → Prop} {U : State} {H : Heap} (h : zx_Z A U H) (hAB : ∀ q, B q → A q) : zx_Z B U H := ⟨vx_Zq.narrow h.1 hAB, vx_Zq.narrow h.2 hAB⟩
theorem zx_at {args : Array Value} {s : State} (hts : ∀ w ∈ zt_W, w.before args s = true) (hN : zx_N s) : ∀ w ∈ zx_A, w.before args s = true :=
  vx_hat (fun w hw => hts w (List.mem_filter.mpr ⟨zx_g w hw, (List.mem_filter.mp hw).2⟩)) zx_b (vx_c (va_Nw.use rfl hN.1) (vx_c (va_Nw.use rfl hN.2.1) (vx_c (va_Nw.use rfl hN.2.2.1) (vx_c (va_Nw.use rfl hN.2.2.2) vx_n))))
/-- a method that may throw: its precondition, what it owes where it throws -/
def zx_P (g : zg_G) (σ : zs_S) (av : List Value) : Array Value → State → Prop := va_Pc av (fun U => va_P g.1 zt_cl (zs_W g σ) U.heap ∧ va_K g.1 zt_cl (zg_tys g) U ∧ zg_ad g (fun _ => True) ∧ va_Nw zt_N U ∧ zx_N U ∧ zx_Z (zg_A g) U U.heap)
def zx_X (g : zg_G) (σ : zs_S) (X : Prop) : String → State → State → Prop := fun E st t => (E = zx_E ∧ X ∧ va_P g.1 zt_cl (zs_W g σ) t.heap) ∧ va_F (zg_A g) st t
def zx_room (M : zm_T) : Room := { frames := M.2.2.2.2.1, cells := 1, slots := 6, locals := M.2.2.2.2.2 }
def zx_Met (g : zg_G) (M : zm_T) (σ : zs_S) (av : List Value) (Q : Option Value → zs_S → Prop) (X : Prop) : Prop :=
  ∀ l : Launch, l.stackTraces = false → vx_Met l M.1 (Cond.code M.1 M.2.1 M.2.2.1 M.2.2.2.1 :: zt_W) (zx_room M) (zx_P g σ av) (zq_Q g Q) (zx_X g σ X) 1 6 (zg_A g)
/-- where a body that may throw stands -/
def zx_k (g : zg_G) (Q : Option Value → zs_S → Prop) (M : zm_T) (σ0 : zs_S) (X : Prop) : zk_T → Prop
  | (_, l, _, R, s, _, args, below, meth, c, cells, slots, Qf, A) => Qf = vx_MQ below (zq_Q g Q) (zx_X g σ0 X) args s 1 6 (zg_A g) ∧ A = zg_A g ∧ cells = 0 ∧ slots = 0 ∧ meth.sig.returnType = M.2.2.2.1 ∧ meth.locks = false ∧ l.stackTraces = false ∧ zx_N s ∧ zx_Z (zg_A g) s s.heap ∧ (∀ x ∈ c.exceptionTable.toList, False) ∧ 1 ≤ R.cells ∧ 6 ≤ R.slots
theorem zx_of {g : zg_G} {M : zm_T} {σ : zs_S} {av : List Value} {Q : Option Value → zs_S → Prop} {X : Prop} (hy : plainName M.1.cls = true) (hlen : (lg_sl av).length ≤ M.2.2.1)
    (body : ∀ k : zk_T, zk_ok g M k → zx_k g Q M σ X k → zw_W g M k 0 (lv_args 0 av) [] σ) : zx_Met g M σ av Q X := by
  intro l hst
  refine vx_ofW (cc := M.2.1) (maxL := M.2.2.1) (ret := M.2.2.2.1) hy rfl ?_
  intro p e s m args below meth c s₁ B hml htab hv
  obtain ⟨rfl, hP, hK, hA, hN, hN2, hZ⟩ := hv
  have hts := atoms_spec (ws := Cond.code M.1 M.2.1 M.2.2.1 M.2.2.2.1 :: zt_W) B.pre
  have hl := lv_entry av (n := M.2.2.1) hlen
  rw [lg_entry_eq]
  exact body (p, l, e, _, s, m, av.toArray, below, meth, c, 0, 0, vx_MQ below (zq_Q g Q) (zx_X g σ X) av.toArray s 1 6 (zg_A g), zg_A g)
    ⟨B.exec, B.bytes, hml, findClass_of_methodNamed B.named, fun w hw => hts w (List.mem_cons_of_mem _ hw), hK, ⟨hA.1, fun k hk => ⟨k, hk, rfl⟩⟩, Nat.le_refl _, Nat.le_refl _, Nat.zero_le _, Nat.zero_le _, hN⟩
    ⟨rfl, rfl, rfl, rfl, B.returns, B.notSynchronized, hst, hN2, hZ, htab, Nat.le_refl _, Nat.le_refl _⟩ s.heap [] _ hP va_S.rf hl
section ZX
variable {g : zg_G} {M : zm_T} {k : zk_T} {pc : Nat} {L L' : List (Nat × Value)} {S : List Value} {σ σ0 : zs_S}
theorem zx_iret (C : zk_ok g M k) {Q : Option Value → zs_S → Prop} {X : Prop} (hr : zx_k g Q M σ0 X k) {x : Int32} (hd : decode M.2.1 pc = .ok (.ireturn, 1)) (ht : M.2.2.2.1 = some .int) (hq : Q (some (.int x)) σ) : zw_W g M k pc L [.int x] σ := by
  obtain ⟨p, l, e, R, s, m, args, below, meth, cd, cells, slots, Qf, A⟩ := k
  obtain ⟨hx, hb, hml, hown, hts, hK, hA, hf1, hf2, hc1, hc2, hN⟩ := C
  obtain ⟨rfl, rfl, rfl, rfl, r1, r2, -, -, -, -, -, -⟩ := hr
  intro H locs ls hP hS hl
  exact W.widen (Nat.zero_le 1) (Nat.zero_le 6) (vx_ret (W.iret hx hb (by rw [r1, ht]) (fun t ht hW => ⟨⟨_, σ, rfl, hq, by rw [ht]; exact hP⟩, hS.F ht⟩) hS.2.2 hd))
theorem zx_throw (C : zk_ok g M k) {Q : Option Value → zs_S → Prop} {X : Prop} (hr : zx_k g Q M σ0 X k) (hcls : M.1.cls = RX10) (hσ : σ = σ0) (hX : X) (hfr : 6 ≤ M.2.2.2.2.1 ∧ 81 ≤ M.2.2.2.2.2) (d0 : decode M.2.1 pc = .ok (.new 97, 3)) (d3 : decode M.2.1 (pc + 3) = .ok (.dup, 1)) (d4 : decode M.2.1 (pc + 4) = .ok (.invokespecial 99, 3)) (d7 : decode M.2.1 (pc + 7) = .ok (.athrow, 1)) (hk1 : Cond.classLink RX10 97 zx_E ∈ zt_W) (hk2 : Cond.initialized zx_E ∈ zt_W) : zw_W g M k pc L [] σ := by
  subst hσ
  obtain ⟨p, l, e, R, s, m, args, below, meth, cd, cells, slots, Qf, A⟩ := k
  obtain ⟨hx, hb, hml, hown, hts, hK, hA, hf1, hf2, hc1, hc2, hN⟩ := C
  obtain ⟨rfl, rfl, rfl, rfl, r1, r2, r3, r4, r5, r6, r7, r8⟩ := hr
  rw [hcls] at hown
  intro H locs ls hP hS hl
  refine vx_throw0 (cls := zx_E) (names := ["java/lang/RuntimeException", "java/lang/Exception"]) (A := zg_A g) hx hb r3 hown (by decide +kernel) (by decide +kernel) (hts _ hk1) (hts _ hk2) (zx_at hts r4) zx_o r5.1 r5.2 hS (by rw [hml]; exact hl.1) d0 d3 d4 d7 (fun x hx => (r6 x hx).elim) ?_ ?_ (by omega) (by omega) r2 ?_ hS.2.2 (by omega) (by omega)
  · show 2 + 3 < R.frames
    omega
  · show 0 + (13 * (2 + 1) + 42) ≤ R.locals
    omega
  · intro t hvm hz hk
    refine ⟨⟨rfl, hX, fun i q hi => (hP i q hi).kept (hk q.1 (hP i q hi).lt)⟩, Nat.le_trans hS.1 hz, fun q h1 h2 => ?_⟩
    rw [hk q (Nat.lt_of_lt_of_le h1 hS.1)]
    exact hS.2.1 q h1 h2
end ZX
