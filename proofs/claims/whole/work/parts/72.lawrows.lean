/-! THE LAW: rows of its loop -/
/-- the script's int at an index, as a number -/
def sx (xs : Nat → Int32) (j : Int) : Int := (xs j.toNat).toInt
theorem sx_r (xs : Nat → Int32) (j : Int) : zi_r (sx xs j) := zi_rg _
theorem zi_bR (c : Prop) [Decidable c] : zi_r (zi_b c) := by
  rcases zi_b01 c with h | h <;> rw [h] <;> exact ⟨by decide, by decide⟩
theorem zi_bb {c d : Prop} [Decidable c] [Decidable d] (h : c ↔ d) : zi_b c = zi_b d := by
  by_cases z : c
  · rw [zi_bt z, zi_bt (h.mp z)]
  · rw [zi_bf z, zi_bf (fun q => z (h.mpr q))]
def lw_o (x : Int) : Int := (zi_w x &&& zi_w 31).toInt
theorem lw_ob (x : Int) : 0 ≤ lw_o x ∧ lw_o x ≤ 31 := by
  unfold lw_o
  rw [show zi_w 31 = 31 by decide, pk_and _ 5 (by decide)]
  generalize (zi_w x).toBitVec.toNat = y
  rw [nI_toInt (by omega)]
  omega
abbrev mL_law : zm_T := (yL_law, cL_law, 7, some .boolean, 10, 370)
/-- what holds of the place where the law's loop runs -/
def lw_k (bb Ls : Nat) (xs : Nat → Int32) (i : Int) : zk_T → Prop
  | (_, l, _, R, s, _, args, below, meth, _, cells, slots, Qf, A) => R = room_1 ∧ args = #[Value.ref bb] ∧ Qf = lw_Z below #[Value.ref bb] s ∧ A = (fun q => s.heap.size ≤ q) ∧ meth.sig.returnType = ret ∧ meth.locks = false ∧ va_X bb Ls xs s s.heap ∧ bb < s.heap.size ∧ l.stackTraces = false ∧ zx_N s ∧ zx_Z A s s.heap ∧ (cells : Int) ≤ 1000 + i ∧ (slots : Int) ≤ 200000 + 6 * i
theorem lw_km {bb Ls : Nat} {xs : Nat → Int32} {i j : Int} {k : zk_T} (h : lw_k bb Ls xs i k) (hij : i ≤ j) : lw_k bb Ls xs j k := by
  obtain ⟨p, l, e, R, s, m, args, below, meth, cd, cells, slots, Qf, A⟩ := k
  obtain ⟨h1, h2, h3, h4, h5, h6, h7, h8, h9, h10, h11, h12, h13⟩ := h
  exact ⟨h1, h2, h3, h4, h5, h6, h7, h8, h9, h10, h11, by omega, by omega⟩
theorem lw_ku {bb Ls : Nat} {xs : Nat → Int32} {i : Int} {k : zk_T} (h : lw_k bb Ls xs i k) : lw_k bb Ls xs (i + 1) (zk_up k) := by
  obtain ⟨p, l, e, R, s, m, args, below, meth, cd, cells, slots, Qf, A⟩ := k
  obtain ⟨h1, h2, h3, h4, h5, h6, h7, h8, h9, h10, h11, h12, h13⟩ := h
  exact ⟨h1, h2, h3, h4, h5, h6, h7, h8, h9, h10, h11, by omega, by omega⟩
section ZLW
variable {g : zg_G} {M : zm_T} {k : zk_T} {pc bb Ls : Nat} {xs : Nat → Int32} {i : Int} {L L' : List (Nat × Value)} {S : List Value} {σ : zs_S}
theorem lw_ok (C : zk_ok g M k) (hk : lw_k bb Ls xs i k) (hi : i ≤ 100000) : zk_ok g M (zk_up k) := by
  obtain ⟨p, l, e, R, s, m, args, below, meth, cd, cells, slots, Qf, A⟩ := k
  obtain ⟨hx, hb, hml, hown, hts, hK, hA, hf1, hf2, hc1, hc2, hN⟩ := C
  obtain ⟨rfl, h2, h3, h4, h5, h6, h7, h8, h9, h10, h11, h12, h13⟩ := hk
  refine ⟨hx, hb, hml, hown, hts, hK, hA, hf1, hf2, ?_, ?_, hN⟩
  · show cells + 1 ≤ 601024
    omega
  · show slots + 6 ≤ 7293000
    omega
theorem zr_sld (C : zk_ok g M k) (hk : lw_k bb Ls xs i k) {j : Int} (hd : decode M.2.1 pc = .ok (.iaload, 1)) (hj : 0 ≤ j ∧ j < Ls) (hL : Ls ≤ 2561) (K : zw_W g M k (pc + 1) L (zv_i (sx xs j) :: S) σ) : zw_W g M k pc L (zv_i j :: .ref bb :: S) σ := by
  obtain ⟨p, l, e, R, s, m, args, below, meth, cd, cells, slots, Qf, A⟩ := k
  obtain ⟨hx, hb, hml, hown, hts, hK, hA, hf1, hf2, hc1, hc2, hN⟩ := C
  obtain ⟨rfl, h2, h3, rfl, h5, h6, h7, h8, h9, h10, h11, h12, h13⟩ := hk
  intro H locs ls hP hS hl
  have e1 : xs (zi_w j).toNatClampNeg = zi_w (sx xs j) := by
    rw [zi_cl hj.1 (by omega)]
    exact zi_of _
  refine va_sld hx hb h7 h8 (fun h => absurd h (Nat.not_le.mpr h8)) hS (zi_in hj.1 hj.2 (by omega)) hd ?_
  rw [e1]
  exact K H locs ls hP hS hl
theorem zr_slen (C : zk_ok g M k) (hk : lw_k bb Ls xs i k) (hd : decode M.2.1 pc = .ok (.arraylength, 1)) (K : zw_W g M k (pc + 1) L (zv_i Ls :: S) σ) : zw_W g M k pc L (.ref bb :: S) σ := by
  obtain ⟨p, l, e, R, s, m, args, below, meth, cd, cells, slots, Qf, A⟩ := k
  obtain ⟨hx, hb, hml, hown, hts, hK, hA, hf1, hf2, hc1, hc2, hN⟩ := C
  obtain ⟨rfl, h2, h3, rfl, h5, h6, h7, h8, h9, h10, h11, h12, h13⟩ := hk
  intro H locs ls hP hS hl
  exact va_slen hx hb h7 h8 (fun h => absurd h (Nat.not_le.mpr h8)) hS hd (K H locs ls hP hS hl)
theorem zr_op (C : zk_ok g M k) {x : Int} (hd : decode M.2.1 pc = .ok (.iand, 1)) (K : zw_W g M k (pc + 1) L (zv_i (lw_o x) :: S) σ) : zw_W g M k pc L (zv_i 31 :: zv_i x :: S) σ := by
  obtain ⟨p, l, e, R, s, m, args, below, meth, cd, cells, slots, Qf, A⟩ := k
  obtain ⟨hx, hb, hml, hown, hts, hK, hA, hf1, hf2, hc1, hc2, hN⟩ := C
  intro H locs ls hP hS hl
  refine lv_iand hx hb hd ?_
  rw [zi_of (zi_w x &&& zi_w 31)]
  exact K H locs ls hP hS hl
theorem zr_lshl (C : zk_ok g M k) {x : Int64} {y : Int32} (hd : decode M.2.1 pc = .ok (.lshl, 1)) (K : zw_W g M k (pc + 1) L (.long (x <<< (y.toInt64 &&& 63)) :: S) σ) : zw_W g M k pc L (.int y :: .long x :: S) σ := by
  obtain ⟨p, l, e, R, s, m, args, below, meth, cd, cells, slots, Qf, A⟩ := k
  obtain ⟨hx, hb, hml, hown, hts, hK, hA, hf1, hf2, hc1, hc2, hN⟩ := C
  intro H locs ls hP hS hl
  exact lv_lshl hx hb hd rfl (K H locs ls hP hS hl)
theorem zr_land (C : zk_ok g M k) {x y : Int64} (hd : decode M.2.1 pc = .ok (.land, 1)) (K : zw_W g M k (pc + 1) L (.long (x &&& y) :: S) σ) : zw_W g M k pc L (.long y :: .long x :: S) σ := by
  obtain ⟨p, l, e, R, s, m, args, below, meth, cd, cells, slots, Qf, A⟩ := k
  obtain ⟨hx, hb, hml, hown, hts, hK, hA, hf1, hf2, hc1, hc2, hN⟩ := C
  intro H locs ls hP hS hl
  exact lv_land hx hb hd (K H locs ls hP hS hl)
theorem zr_lor (C : zk_ok g M k) {x y : Int64} (hd : decode M.2.1 pc = .ok (.lor, 1)) (K : zw_W g M k (pc + 1) L (.long (x ||| y) :: S) σ) : zw_W g M k pc L (.long y :: .long x :: S) σ := by
  obtain ⟨p, l, e, R, s, m, args, below, meth, cd, cells, slots, Qf, A⟩ := k
  obtain ⟨hx, hb, hml, hown, hts, hK, hA, hf1, hf2, hc1, hc2, hN⟩ := C
  intro H locs ls hP hS hl
  exact lv_lor hx hb hd (K H locs ls hP hS hl)
/-- the law's end -/
theorem zr_lret (C : zk_ok g mL_law k) (hk : lw_k bb Ls xs i k) (hi : i ≤ 100000) (hd : decode code pc = .ok (.ireturn, 1)) : zw_W g mL_law k pc L [zv_i 1] σ := by
  obtain ⟨p, l, e, R, s, m, args, below, meth, cd, cells, slots, Qf, A⟩ := k
  obtain ⟨hx, hb, hml, hown, hts, hK, hA, hf1, hf2, hc1, hc2, hN⟩ := C
  obtain ⟨rfl, rfl, rfl, rfl, h5, h6, h7, h8, h9, h10, h11, h12, h13⟩ := hk
  intro H locs ls hP hS hl
  refine va_forget (fun q hq => hS.2.2 q hq) ?_
  exact W.widen (by omega) (by omega) (lw_ret hx hb h5 h6 hd)
/-- what a helper's name rests on -/
def zl_H (Mc : zm_T) (hh : List (Nat × Nat × Nat × Nat)) (n : Nat) : Prop := Cond.codeWith Mc.1 Mc.2.1 Mc.2.2.1 Mc.2.2.2.1 hh ∈ zt_W ∧ Cond.initialized Mc.1.cls ∈ zt_W ∧ Mc.1.cls ≠ "java/lang/invoke/MethodHandle" ∧ Mc.1.cls ≠ "java/lang/invoke/VarHandle" ∧ (parseMethodDescriptor Mc.1.desc).map (fun d => d.parameters.length) = some n
theorem zr_callH (C : zk_ok g M k) (hk : lw_k bb Ls xs i k) (hi : i ≤ 100000) {idx n : Nat} {Mc : zm_T} {hh : List (Nat × Nat × Nat × Nat)} {As rest : List Value} {Qc : Option Value → zs_S → Prop} (hd : decode M.2.1 pc = .ok (.invokestatic idx, 3)) (hM : zl_H Mc hh n) (hL : zl_S M.1.cls idx Mc) (hn : As.length = n) (hdep : Mc.2.2.2.2.1 + 1 ≤ M.2.2.2.2.1 ∧ 8 + (Mc.2.2.1 + 11) + Mc.2.2.2.2.2 ≤ M.2.2.2.2.2) (hst : S = As.reverse ++ rest) (hcat : (rest.map fun v => v.category).sum ≤ 8)
    (hc : zh_Met g Mc hh σ As Qc) (K : ∀ (v : Option Value) (τ : zs_S), Qc v τ → zw_W g M (zk_up k) (pc + 3) L (v.toList ++ rest) τ) : zw_W g M k pc L S σ := by
  obtain ⟨p, l, e, R, s, m, args, below, meth, cd, cells, slots, Qf, A⟩ := k
  obtain ⟨hx, hb, hml, hown, hts, hK, hA, hf1, hf2, hc1, hc2, hN⟩ := C
  obtain ⟨rfl, h2, h3, h4, h5, h6, h7, h8, h9, h10, h11, h12, h13⟩ := hk
  obtain ⟨m1, m2, m3, m4, m5⟩ := hM
  have hAA : ∀ q, zg_A g q → A q := fun q h => by
    obtain ⟨i, hi, rfl⟩ := h
    exact hA.2 i hi
  intro H locs ls hP hS hl
  have hT : GoodIn zt_W (va_wsS M.1.cls idx Mc.1 (Cond.codeWith Mc.1 Mc.2.1 Mc.2.2.1 Mc.2.2.2.1 hh :: zt_W)) := by
    intro w hw
    unfold va_wsS at hw
    rcases List.mem_append.mp hw with hw | hw
    · rcases List.mem_cons.mp hw with rfl | hw
      · exact zt_ok _ hL.1
      · rcases List.mem_cons.mp hw with rfl | hw
        · exact zt_ok _ hL.2
        · rcases List.mem_cons.mp hw with rfl | hw
          · exact zt_ok _ m2
          · cases hw
    · rcases List.mem_cons.mp hw with rfl | hw
      · exact zt_ok _ m1
      · exact zt_ok _ hw
  have hr := vx_runSW (R := room_1) (locs := locs) (cells := cells) (slots := slots) (below := below) (meth := meth) (e := e) (p := p) (As := As) (rest := rest) (g := F0 m pc ls S) (own := M.1.cls) (nL := M.2.2.1) (cc := M.2.1) (c := cd) (H := H) ⟨hx, hb, hml, hown, hts⟩ (hc l h9)
    (vx_cwSW n hts hT rfl rfl rfl ⟨m3, m4, m5⟩ ⟨Nat.le_trans hdep.1 hf1, Nat.le_trans hdep.2 hf2⟩)
    ⟨zx_blind, fun U hU hW => ⟨rfl, by rw [hU]; exact hP, va_K.moved hW.alike hK, ⟨hA.1, fun _ _ => trivial⟩, va_Nw.warmM hW hN, zx_Nw hW h10, zx_Zm hW.alike (by rw [hU]; exact zx_Zn (zx_Zk h11 hS.2.1) hAA)⟩⟩ rfl hn hl.1 hst (lv_room hcat) hd ⟨by show cells + 1 ≤ 601024; omega, by show slots + 6 ≤ 7293000; omega⟩
  intro T hT0 X
  obtain ⟨v, st₀, t, T', L1, h0, X', hL9, e1, e2, ⟨⟨v2, τ, hv, hq, hP1⟩, hz, hkq⟩, st⟩ := hr T hT0 X
  cases hv
  rw [h0] at hz hkq
  obtain ⟨t2, a1, b1⟩ := K v τ hq T'.heap (locs ++ L1) ls (by rw [e1]; exact hP1) ⟨Nat.le_trans hS.1 (by rw [e1]; exact hz), fun q h1 h2 => by rw [e1, hkq q (Nat.lt_of_lt_of_le h1 hS.1) (fun z => h2 (hAA q z))]; exact hS.2.1 q h1 h2, fun q hq => by
      rcases List.mem_append.mp hq with h | h
      · exact hS.2.2 q h
      · exact hAA _ (hL9 q h)⟩ hl T' rfl X'
  exact ⟨t2, st t2 a1, b1⟩
end ZLW
