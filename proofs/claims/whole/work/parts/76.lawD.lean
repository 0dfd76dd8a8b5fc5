theorem dfX10 : ∀ j, j < 6 → defaultValue (tyX10 j) = vp_V [.null, .null, .null, .null, .null, .null] j := by
  intro j hj
  match j, hj with
  | 0, _ => rfl
  | 1, _ => rfl
  | 2, _ => rfl
  | 3, _ => rfl
  | 4, _ => rfl
  | 5, _ => rfl
theorem nwL_8 : zl_N RL 8 10 6 [.null, .null, .null, .null, .null, .null] := ⟨RX10, TX10, tyX10, rfl, zt_inX10, tyX10_ok, (zt_mem 49 (by decide +kernel) rfl), (zt_mem 50 (by decide +kernel) rfl), (zt_mem 31 (by decide +kernel) rfl), dfX10⟩
theorem dfX11 : ∀ j, j < 29 → defaultValue (tyX11 j) = vp_V [zv_i 0, zv_i 0, .null, zv_i 0, .null, .null, .null, .null, .null, .null, zv_i 0, .null, .null, .null, .null, .null, .null, zv_i 0, .null, .null, zv_i 0, zv_i 0, .null, .null, .null, .null, .null, .null, .null] j := by
  intro j hj
  match j, hj with
  | 0, _ => rfl
  | 1, _ => rfl
  | 2, _ => rfl
  | 3, _ => rfl
  | 4, _ => rfl
  | 5, _ => rfl
  | 6, _ => rfl
  | 7, _ => rfl
  | 8, _ => rfl
  | 9, _ => rfl
  | 10, _ => rfl
  | 11, _ => rfl
  | 12, _ => rfl
  | 13, _ => rfl
  | 14, _ => rfl
  | 15, _ => rfl
  | 16, _ => rfl
  | 17, _ => rfl
  | 18, _ => rfl
  | 19, _ => rfl
  | 20, _ => rfl
  | 21, _ => rfl
  | 22, _ => rfl
  | 23, _ => rfl
  | 24, _ => rfl
  | 25, _ => rfl
  | 26, _ => rfl
  | 27, _ => rfl
  | 28, _ => rfl
  | q + 29, h => exact absurd h (by omega)
theorem nwL_31 : zl_N RL 31 11 29 [zv_i 0, zv_i 0, .null, zv_i 0, .null, .null, .null, .null, .null, .null, zv_i 0, .null, .null, .null, .null, .null, .null, zv_i 0, .null, .null, zv_i 0, zv_i 0, .null, .null, .null, .null, .null, .null, .null] := ⟨RX11, TX11, tyX11, rfl, zt_inX11, tyX11_ok, (zt_mem 659 (by decide +kernel) rfl), (zt_mem 660 (by decide +kernel) rfl), (zt_mem 42 (by decide +kernel) rfl), dfX11⟩
theorem jiL_28 : zl_I RL 28 mX10_init := ⟨(zt_mem 51 (by decide +kernel) rfl), (zt_mem 52 (by decide +kernel) rfl), rfl, rfl⟩
theorem jiL_33 : zl_I RL 33 mX11_init := ⟨(zt_mem 661 (by decide +kernel) rfl), (zt_mem 662 (by decide +kernel) rfl), rfl, rfl⟩
theorem sL_22 : zl_S RL 22 mL_cell := ⟨(zt_mem 484 (by decide +kernel) rfl), (zt_mem 485 (by decide +kernel) rfl)⟩
/-! the script's first int, as the law reads it; the law's makings -/
def cl0 (Ls : Nat) (xs : Nat → Int32) : Int := if 0 < Ls then sx xs 0 else 0
theorem cl0_r (Ls : Nat) (xs : Nat → Int32) : zi_r (cl0 Ls xs) := by
  unfold cl0
  split
  · exact sx_r _ _
  · exact zi_r0
def cl_Q (Ls : Nat) (xs : Nat → Int32) : Array Value → State → Outcome → State → Prop := fun _ st oc t => oc = .returned (some (zv_i (cl0 Ls xs))) ∧ t.heap = st.heap
def cl_P (bb Ls : Nat) (xs : Nat → Int32) : Array Value → State → Prop := va_Pc [.ref bb, zv_i 0] (fun U => va_X bb Ls xs U U.heap)
theorem c_cell (bb Ls : Nat) (xs : Nat → Int32) (hL : Ls ≤ 2561) (l : Launch) : Met l yL_cell (Cond.code yL_cell cL_cell 2 (some .int) :: zt_W) (zm_room (0, 0)) (cl_P bb Ls xs) (cl_Q Ls xs) 0 0 (fun _ => False) := by
  refine Met.ofW (cc := cL_cell) (maxL := 2) (ret := some .int) (by decide +kernel) rfl ?_
  intro p e s m args below meth c s₁ B hml hv
  obtain ⟨rfl, hX⟩ := hv
  have hbl : bb < s.heap.size := by
    obtain ⟨scr, h1, -⟩ := hX
    exact (Array.getElem?_eq_some_iff.mp h1).1
  have hl := lv_entry [.ref bb, zv_i 0] (n := 2) (Nat.le_of_ble_eq_true rfl)
  rw [lg_entry_eq]
  have hS : va_S (fun _ => False) s.heap s.heap [] := va_S.rf
  refine lv_iload_n B.exec B.bytes dL_cell_0 rfl (lv_at hl 1 rfl) ?_
  refine lv_aload_n B.exec B.bytes dL_cell_1 rfl (lv_at hl 0 rfl) ?_
  refine va_slen B.exec B.bytes hX hbl (fun h => h) hS dL_cell_2 ?_
  have en : Int32.ofNat Ls = zi_w Ls := rfl
  rw [en]
  refine lv_icmp_ge (tgt := 12) B.exec B.bytes dL_cell_3 (by decide) (fun h => ?_) (fun h => ?_)
  · have h0 : ¬ 0 < Ls := by
      have := (zi_le (x := (Ls : Int)) (y := 0) (by omega) (by omega)).mp h
      omega
    refine lv_iconst (v := zi_w 0) B.exec B.bytes dL_cell_12 (by decide) ?_
    exact W.iret B.exec B.bytes B.returns (fun t ht hW => ⟨by unfold cl0; rw [if_neg h0], ht⟩) (fun z hz => nomatch hz) dL_cell_13
  · have h0 : 0 < Ls := by
      rcases Nat.eq_zero_or_pos Ls with z | z
      · exact absurd ((zi_le (x := (Ls : Int)) (y := 0) (by omega) (by omega)).mpr (by omega)) h
      · exact z
    refine lv_aload_n B.exec B.bytes dL_cell_6 rfl (lv_at hl 0 rfl) ?_
    refine lv_iload_n B.exec B.bytes dL_cell_7 rfl (lv_at hl 1 rfl) ?_
    refine va_sld B.exec B.bytes hX hbl (fun h => h) hS (zi_in (x := 0) (by decide) (by omega) (by omega)) dL_cell_8 ?_
    refine lv_goto (tgt := 13) B.exec B.bytes dL_cell_9 (by decide) ?_
    have e1 : xs (zi_w 0).toNatClampNeg = zi_w (cl0 Ls xs) := by
      unfold cl0
      rw [if_pos h0, zi_cl (by decide) (by decide)]
      exact zi_of _
    rw [e1]
    exact W.iret B.exec B.bytes B.returns (fun t ht hW => ⟨rfl, ht⟩) (fun z hz => nomatch hz) dL_cell_13
theorem cl_blind (bb Ls : Nat) (xs : Nat → Int32) : FrameBlind (cl_P bb Ls xs) := by
  intro a U g1 mk q
  obtain ⟨q0, q1⟩ := q
  exact ⟨q0, va_X.moved (u := U) (U := U.calling g1 mk a) (Vm.Alike.refl U.vm) q1⟩
def zn_x (bb Ls : Nat) (xs : Nat → Int32) : zn_T → Prop
  | (_, _, _, _, s, _, _, _, _, _, _, A) => va_X bb Ls xs s s.heap ∧ bb < s.heap.size ∧ ¬ A bb ∧ Ls ≤ 2561
section ZNC
variable {D : va_G} {ar : Nat → ClassId} {M : zm_T} {mc ms : Nat} {x : zn_T} {pc bb Ls : Nat} {xs : Nat → Int32} {L L' : List (Nat × Value)} {S : List Value} {ws ws' : va_W} {cs sl : Nat}
theorem zn_callC (C : zn_ok D ar M mc ms x) (hX : zn_x bb Ls xs x) {rest : List Value} (hd : decode M.2.1 pc = .ok (.invokestatic 22, 3)) (hL : zl_S M.1.cls 22 mL_cell) (hdep : 1 ≤ M.2.2.2.2.1 ∧ 21 ≤ M.2.2.2.2.2) (hst : S = [zv_i 0, .ref bb] ++ rest) (hcat : (rest.map fun v => v.category).sum ≤ 8) (hcs : cs ≤ mc) (hsl : sl ≤ ms)
    (K : zn_W D M x (pc + 3) L (zv_i (cl0 Ls xs) :: rest) ws cs sl) : zn_W D M x pc L S ws cs sl := by
  obtain ⟨p, l, e, R, s, m, args, below, meth, c, Q, A⟩ := x
  obtain ⟨hx, hb, hml, hown, hts, hK, hA, hf1, hf2, hc1, hc2, hN, hin⟩ := C
  obtain ⟨x1, x2, x3, x4⟩ := hX
  obtain ⟨m1, m2, m3, m4, m5⟩ := kL_cell
  intro H locs ls hP hD hS hl
  have hr := va_runS (R := R) (locs := locs) (cells := cs) (slots := sl) (below := below) (meth := meth) (e := e) (p := p) (As := [.ref bb, zv_i 0]) (rest := rest) (g := F0 m pc ls S) (own := M.1.cls) (nL := M.2.2.1) (cc := M.2.1) (c := c) (H := H) ⟨hx, hb, hml, hown, hts⟩ (c_cell bb Ls xs x4 l)
    ⟨callB_of 2 hts (zl_good m1) rfl rfl rfl (hts _ m2) (hts _ hL.1) ⟨m3, m4, m5⟩ ⟨Nat.le_trans hdep.1 hf1, Nat.le_trans hdep.2 hf2⟩, hts _ hL.2⟩
    ⟨cl_blind bb Ls xs, fun U hU hW => ⟨rfl, va_X.moved hW.alike (by rw [hU]; exact va_X.kept x1 (hS.2.1 bb x2 x3))⟩⟩ rfl rfl hl.1 hst (lv_room hcat) hd ⟨Nat.le_trans hcs hc1, Nat.le_trans hsl hc2⟩
  intro T hT X
  obtain ⟨v, st₀, t, T', L1, h0, X', hL9, e1, e2, ⟨hoc, hhp⟩, st⟩ := hr T hT X
  cases hoc
  have hT' : T'.heap = H := by rw [e1, hhp, h0]
  obtain ⟨t2, a1, b1⟩ := K H (locs ++ L1) ls hP hD ⟨hS.1, hS.2.1, fun q hq => by
      rcases List.mem_append.mp hq with h | h
      · exact hS.2.2 q h
      · exact (hL9 q h).elim⟩ hl T' hT' X'
  exact ⟨t2, st t2 a1, b1⟩
end ZNC
abbrev mLw (nm : String) : zm_T := (⟨RL, nm, "([I)Z"⟩, cL_law, 7, some .boolean, 10, 370)
def zw_L (ar : Nat → ClassId) (c : Nat) : va_W := [(c, .inl (ar 2, 1, .inr (.inl (fun _ => 0))))]
set_option maxRecDepth 20000 in
set_option maxHeartbeats 4000000 in
theorem lw_make {D : va_G} {ar : Nat → ClassId} {x : zn_T} (nm : String) (bb Ls n : Nat) (xs : Nat → Int32) (C : zn_ok D ar (mLw nm) 100 40000 x) (hX : zn_x bb Ls xs x) (hn : 1 ≤ n ∧ n ≤ 80) (hm : (1 ≤ cl0 Ls xs ∧ cl0 Ls xs ≤ 80 ∧ (n : Int) = cl0 Ls xs) ∨ (¬ (1 ≤ cl0 Ls xs ∧ cl0 Ls xs ≤ 80) ∧ n = 40))
    (K : ∀ (q q' : Nat → Nat) (fd fg fd' : Nat → Int32) (c : Nat), (∀ j : Nat, j ≤ n → fd j = zi_w 50 ∧ fg j = zi_w 1) → (∀ j : Nat, j < 81 → fd' j = zi_w 50) → zn_W D (mLw nm) x 30 [(3, .ref c), (2, .ref (q' 67)), (1, .ref (q 0)), (0, .ref bb)] [] ((zw_M ar n q fd fg ++ zw_R ar n q' fd') ++ zw_L ar c) 91 36736) : zn_W D (mLw nm) x 0 [(0, .ref bb)] [] [] 0 0 := by
  refine zn_new (pc := 0) C dL_law_0 nwL_8 (Nat.le_of_ble_eq_true rfl) (Nat.le_of_ble_eq_true rfl) (fun b => ?_)
  refine zn_dup (pc := 3) C dL_law_3 rfl ?_
  refine zn_aload_n (pc := 4) C dL_law_4 0 rfl ?_
  refine zn_iconst (pc := 5) C dL_law_5 ?_
  refine zn_callC (rest := [.ref b, .ref b]) (pc := 6) C hX dL_law_6 sL_22 ⟨(Nat.le_of_ble_eq_true rfl), (Nat.le_of_ble_eq_true rfl)⟩ rfl (Nat.le_of_ble_eq_true rfl) (Nat.le_of_ble_eq_true rfl) (Nat.le_of_ble_eq_true rfl) ?_
  refine zn_callI (wr := []) (As := [zv_i (cl0 Ls xs)]) (rest := [.ref b]) (pc := 9) C dL_law_9 kX10_init jiL_28 rfl ⟨(Nat.le_of_ble_eq_true rfl), (Nat.le_of_ble_eq_true rfl)⟩ rfl (Nat.le_of_ble_eq_true rfl) (Nat.le_of_ble_eq_true rfl) (Nat.le_of_ble_eq_true rfl) rfl (c_10 D ar b n (cl0 Ls xs) (cl0_r Ls xs) hn hm) (fun v_ w_ h_ => ?_)
  obtain ⟨rfl, q, fd, fg, rfl, hf, rfl⟩ := h_
  show zn_W D (mLw nm) x 12 [(0, .ref bb)] [.ref (q 0)] (zw_M ar n q fd fg) _ _
  refine zn_astore_n (L' := [(1, .ref (q 0)), (0, .ref bb)]) (pc := 12) C dL_law_12 (Nat.le_of_ble_eq_true rfl) rfl ?_
  refine zn_new (pc := 13) C dL_law_13 nwL_31 (Nat.le_of_ble_eq_true rfl) (Nat.le_of_ble_eq_true rfl) (fun b => ?_)
  refine zn_dup (pc := 16) C dL_law_16 rfl ?_
  refine zn_aload_n (pc := 17) C dL_law_17 1 rfl ?_
  refine zn_iconst (pc := 18) C dL_law_18 ?_
  refine zn_callC (rest := [.ref b, .ref b]) (pc := 19) C hX dL_law_19 sL_22 ⟨(Nat.le_of_ble_eq_true rfl), (Nat.le_of_ble_eq_true rfl)⟩ rfl (Nat.le_of_ble_eq_true rfl) (Nat.le_of_ble_eq_true rfl) (Nat.le_of_ble_eq_true rfl) ?_
  refine zn_callI (wr := zw_M ar n q fd fg) (As := [zv_i (cl0 Ls xs)]) (rest := [.ref b]) (pc := 22) C dL_law_22 kX11_init jiL_33 rfl ⟨(Nat.le_of_ble_eq_true rfl), (Nat.le_of_ble_eq_true rfl)⟩ rfl (Nat.le_of_ble_eq_true rfl) (Nat.le_of_ble_eq_true rfl) (Nat.le_of_ble_eq_true rfl) rfl (c_11 D ar b n (cl0 Ls xs) (cl0_r Ls xs) hm) (fun v_ w_ h_ => ?_)
  obtain ⟨rfl, q', fd', rfl, hf', rfl⟩ := h_
  show zn_W D (mLw nm) x 25 [(1, .ref (q 0)), (0, .ref bb)] [.ref (q' 67)] (zw_M ar n q fd fg ++ zw_R ar n q' fd') _ _
  refine zn_astore_n (L' := [(2, .ref (q' 67)), (1, .ref (q 0)), (0, .ref bb)]) (pc := 25) C dL_law_25 (Nat.le_of_ble_eq_true rfl) rfl ?_
  refine zn_iconst (pc := 26) C dL_law_26 ?_
  refine zn_newa (N := 1) (Nm := 1) (a0 := (1, .inr (.inl (fun _ => 0)))) (pc := 27) C 2 (by decide) rfl (zt_mem 905 (by decide +kernel) rfl) dL_law_27 (by decide) (Nat.le_refl _) (by decide) (by decide) (fun _ => rfl) (Nat.le_of_ble_eq_true rfl) (Nat.le_of_ble_eq_true rfl) (fun c => ?_)
  refine zn_astore_n (L' := [(3, .ref c), (2, .ref (q' 67)), (1, .ref (q 0)), (0, .ref bb)]) (pc := 29) C dL_law_29 (Nat.le_of_ble_eq_true rfl) rfl ?_
  exact K q q' fd fg fd' c hf hf'
