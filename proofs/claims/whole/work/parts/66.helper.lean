/-! the law's helpers: methods with a handler -/
def zh_Met (g : zg_G) (M : zm_T) (hh : List (Nat × Nat × Nat × Nat)) (σ : zs_S) (av : List Value) (Q : Option Value → zs_S → Prop) : Prop :=
  ∀ l : Launch, l.stackTraces = false → Met l M.1 (Cond.codeWith M.1 M.2.1 M.2.2.1 M.2.2.2.1 hh :: zt_W) (zx_room M) (zx_P g σ av) (zq_Q g Q) 1 6 (zg_A g)
def zh_k (g : zg_G) (Q : Option Value → zs_S → Prop) (M : zm_T) (hh : List (Nat × Nat × Nat × Nat)) (n : Nat) : zk_T → Prop
  | (_, l, _, R, s, _, args, below, meth, c, cells, slots, Qf, A) => Qf = MQ below (zq_Q g Q) args s 1 6 (zg_A g) ∧ A = zg_A g ∧ cells = n ∧ slots = 6 * n ∧ meth.sig.returnType = M.2.2.2.1 ∧ meth.locks = false ∧ l.stackTraces = false ∧ zx_N s ∧ zx_Z (zg_A g) s s.heap ∧ c.exceptionTable.toList = tableOf hh ∧ 1 ≤ R.cells ∧ 6 ≤ R.slots
def zk_up : zk_T → zk_T
  | (p, l, e, R, s, m, args, below, meth, c, cells, slots, Q, A) => (p, l, e, R, s, m, args, below, meth, c, cells + 1, slots + 6, Q, A)
theorem zh_of {g : zg_G} {M : zm_T} {hh : List (Nat × Nat × Nat × Nat)} {σ : zs_S} {av : List Value} {Q : Option Value → zs_S → Prop} (hy : plainName M.1.cls = true) (hlen : (lg_sl av).length ≤ M.2.2.1)
    (body : ∀ k : zk_T, zk_ok g M k → zh_k g Q M hh 0 k → zw_W g M k 0 (lv_args 0 av) [] σ) : zh_Met g M hh σ av Q := by
  intro l hst
  refine va_MetW (cc := M.2.1) (maxL := M.2.2.1) (ret := M.2.2.2.1) (hh := hh) hy rfl ?_
  intro p e s m args below meth c s₁ B hml hv
  obtain ⟨rfl, hP, hK, hA, hN, hN2, hZ⟩ := hv
  have hts := atoms_spec (ws := Cond.codeWith M.1 M.2.1 M.2.2.1 M.2.2.2.1 hh :: zt_W) B.pre
  have hl := lv_entry av (n := M.2.2.1) hlen
  rw [lg_entry_eq]
  exact body (p, l, e, _, s, m, av.toArray, below, meth, c, 0, 0, MQ below (zq_Q g Q) av.toArray s 1 6 (zg_A g), zg_A g)
    ⟨B.exec, B.bytes, hml, findClass_of_methodNamed B.named, fun w hw => hts w (List.mem_cons_of_mem _ hw), hK, ⟨hA.1, fun k hk => ⟨k, hk, rfl⟩⟩, Nat.le_refl _, Nat.le_refl _, Nat.zero_le _, Nat.zero_le _, hN⟩
    ⟨rfl, rfl, rfl, rfl, B.returns, B.notSynchronized, hst, hN2, hZ, vx_table (x := M.1) B (hts _ List.mem_cons_self), Nat.le_refl _, Nat.le_refl _⟩ s.heap [] _ hP va_S.rf hl
theorem zx_blind {g : zg_G} {σ : zs_S} {av : List Value} : FrameBlind (zx_P g σ av) := by
  intro a U g1 mk q
  obtain ⟨q0, qP, qK, qD, qN, qN2, qZ⟩ := q
  exact ⟨q0, qP, va_K.moved (u := U) (U := U.calling g1 mk a) (Vm.Alike.refl U.vm) qK, qD, va_Nw.same rfl (u := U) (U := U.calling g1 mk a) rfl qN, zx_Ns (s := U) (U := U.calling g1 mk a) rfl qN2, zx_Zm (u := U) (U := U.calling g1 mk a) (Vm.Alike.refl U.vm) qZ⟩
section ZHH
variable {g : zg_G} {M : zm_T} {k : zk_T} {pc : Nat} {L L' : List (Nat × Value)} {S : List Value} {σ : zs_S} {Q : Option Value → zs_S → Prop} {hh : List (Nat × Nat × Nat × Nat)}
theorem zh_oku (C : zk_ok g M k) (hr : zh_k g Q M hh 0 k) : zk_ok g M (zk_up k) := by
  obtain ⟨p, l, e, R, s, m, args, below, meth, cd, cells, slots, Qf, A⟩ := k
  obtain ⟨hx, hb, hml, hown, hts, hK, hA, hf1, hf2, hc1, hc2, hN⟩ := C
  obtain ⟨r1, r2, rfl, rfl, -, -, -, -, -, -, r7, r8⟩ := hr
  exact ⟨hx, hb, hml, hown, hts, hK, hA, hf1, hf2, r7, r8, hN⟩
theorem zh_ku (hr : zh_k g Q M hh 0 k) : zh_k g Q M hh 1 (zk_up k) := by
  obtain ⟨p, l, e, R, s, m, args, below, meth, cd, cells, slots, Qf, A⟩ := k
  obtain ⟨r1, r2, rfl, rfl, r3⟩ := hr
  exact ⟨r1, r2, rfl, rfl, r3⟩
theorem zh_iret (C : zk_ok g M k) {n : Nat} (hn9 : n ≤ 1) (hr : zh_k g Q M hh n k) {x : Int32} (hd : decode M.2.1 pc = .ok (.ireturn, 1)) (ht : M.2.2.2.1 = some .int) (hq : Q (some (.int x)) σ) : zw_W g M k pc L [.int x] σ := by
  obtain ⟨p, l, e, R, s, m, args, below, meth, cd, cells, slots, Qf, A⟩ := k
  obtain ⟨hx, hb, hml, hown, hts, hK, hA, hf1, hf2, hc1, hc2, hN⟩ := C
  obtain ⟨rfl, rfl, rfl, rfl, r1, r2, -, -, -, -, -, -⟩ := hr
  intro H locs ls hP hS hl
  exact W.widen hn9 (by omega) (W.iret hx hb (by rw [r1, ht]) (fun t ht hW => ⟨⟨_, σ, rfl, hq, by rw [ht]; exact hP⟩, hS.F ht⟩) hS.2.2 hd)
theorem zh_callV (C : zk_ok g M k) (hr : zh_k g Q M hh 0 k) {idx n ci b : Nat} {Mc : zm_T} {fk : List (Option (Option Nat))} {As rest : List Value} {Qc : Option Value → zs_S → Prop} {X : Prop} (hd : decode M.2.1 pc = .ok (.invokevirtual idx, 3)) (hM : zl_M Mc n) (hL : zl_V M.1.cls idx ci Mc) (hn : As.length = n) (hdep : Mc.2.2.2.2.1 + 1 ≤ M.2.2.2.2.1 ∧ 8 + (Mc.2.2.1 + 11) + Mc.2.2.2.2.2 ≤ M.2.2.2.2.2) (hbN : b < zs_N) (hs : zs_sh g.2.2.2 b = .inr (.inr (ci, fk))) (hst : S = As.reverse ++ .ref (g.2.2.1 b) :: rest) (hcat : (rest.map fun v => v.category).sum ≤ 8)
    (hc : zx_Met g Mc σ (.ref (g.2.2.1 b) :: As) Qc X) (x : ExceptionTableEntry) (htb : tableOf hh = [x]) (hcov : covers x pc = true) (h0 : x.catchType ≠ 0) (hlk : Cond.classLink M.1.cls x.catchType zx_E ∈ zt_W)
    (K1 : ∀ (v : Option Value) (τ : zs_S), Qc v τ → zw_W g M (zk_up k) (pc + 3) L (v.toList ++ rest) τ) (K2 : ∀ q : Nat, X → zw_W g M (zk_up k) x.handlerPc L [.ref q] σ) : zw_W g M k pc L S σ := by
  obtain ⟨p, l, e, R, s, m, args, below, meth, cd, cells, slots, Qf, A⟩ := k
  obtain ⟨hx, hb, hml, hown, hts, hK, hA, hf1, hf2, hc1, hc2, hN⟩ := C
  obtain ⟨r1, rfl, rfl, rfl, -, -, r3, r4, r5, r6, r7, r8⟩ := hr
  obtain ⟨m1, m2, m3, m4, m5⟩ := hM
  obtain ⟨q, l1, l2, l3, l4, l5⟩ := hL
  intro H locs ls hP hS hl
  have hrecv := va_recv hK hP l1 (zs_obj hbN hs)
  rw [l2] at hrecv
  have hr := vx_runV (C := Mc.1.cls) (R := R) (locs := locs) (cells := 0) (slots := 0) (below := below) (meth := meth) (e := e) (p := p) (As := As) (rest := rest) (g := F0 m pc ls S) (own := M.1.cls) (nL := M.2.2.1) (cc := M.2.1) (c := cd) (H := H) ⟨hx, hb, hml, hown, hts⟩ (hc l r3)
    ⟨callB_of n hts (zl_good m1) rfl rfl rfl (hts _ m2) (hts _ l3) ⟨m3, m4, m5⟩ ⟨Nat.le_trans hdep.1 hf1, Nat.le_trans hdep.2 hf2⟩, hts _ l4, hts _ l5⟩
    ⟨zx_blind, hrecv, fun U hU hW => ⟨rfl, by rw [hU]; exact hP, va_K.moved hW.alike hK, ⟨hA.1, fun _ _ => trivial⟩, va_Nw.warmM hW hN, zx_Nw hW r4, zx_Zm hW.alike (by rw [hU]; exact zx_Zk r5 hS.2.1)⟩⟩ rfl hn hl.1 hst (lv_room hcat) hd ⟨by omega, by omega⟩
  have hAA : ∀ q, zg_A g q → zg_A g q := fun q h => h
  intro T hT X0
  rcases hr T hT X0 with ⟨v, st₀, t, T', L1, h00, X', hL9, e1, e2, ⟨⟨v2, τ, hv, hq, hP1⟩, hz, hk⟩, st⟩ | ⟨q9, st₀, t, T', L1, E, ce, h00, X', hL9, e1, e2, ⟨⟨hE, hX, hP1⟩, hz, hk⟩, hce, hcv, hcl, st⟩
  · cases hv
    rw [h00] at hz hk
    obtain ⟨t2, a1, b1⟩ := K1 v τ hq T'.heap (locs ++ L1) ls (by rw [e1]; exact hP1) ⟨Nat.le_trans hS.1 (by rw [e1]; exact hz), fun q h1 h2 => by rw [e1, hk q (Nat.lt_of_lt_of_le h1 hS.1) h2]; exact hS.2.1 q h1 h2, fun q hq => by
      rcases List.mem_append.mp hq with h | h
      · exact hS.2.2 q h
      · exact hL9 q h⟩ hl T' rfl X'
    exact ⟨t2, st t2 a1, b1⟩
  · rw [h00] at hz hk
    subst hE
    have kk := K2 q9 hX T'.heap (locs ++ L1) ls (by rw [e1]; exact hP1) ⟨Nat.le_trans hS.1 (by rw [e1]; exact hz), fun q h1 h2 => by rw [e1, hk q (Nat.lt_of_lt_of_le h1 hS.1) h2]; exact hS.2.1 q h1 h2, fun q hq => by
      rcases List.mem_append.mp hq with h | h
      · exact hS.2.2 q h
      · exact hL9 q h⟩ hl
    obtain ⟨t2, a1, b1⟩ := xq_catch (rest := rest) (pc := pc) (E := zx_E) (name := zx_E) (ce := ce) hown x (by rw [r6]; exact htb) hcov h0 (hts _ hlk) (va_Nw.use rfl r4.1) (by rw [e1]; exact hce) hcv hcl kk T' rfl X'
    exact ⟨t2, st.trans a1, b1⟩
end ZHH
