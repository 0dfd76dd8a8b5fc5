theorem lw_arr {s : State} {args : Array Value} {ty : FieldType} (ht : ∀ C, ty ≠ .object C) (h : (Cond.arrayClass ty).before args s = true) : ∃ cA, ArrOfT s cA ty ∧ va_RA s cA ty := by
  obtain ⟨c, k, comp, h1, h2, h3⟩ := Cond.arrayClass_spec h
  refine ⟨c, fun n z => ⟨fun k h => (by cases h), k, h2, comp, h3⟩, ?_⟩
  cases ty with
  | object C => exact absurd rfl (ht C)
  | _ => exact h1
theorem lw_arq {s : State} {C : String} (h : va_AO C s) : ∃ cA, ArrOfT s cA (.object C) ∧ va_RA s cA (.object C) := by
  obtain ⟨comp, c, k, h1, h2, h3, h4, h5⟩ := Cond.arrayOver_spec h
  exact ⟨c, fun n z => ⟨fun k h => (by cases h), k, h3, comp, h4⟩, k, comp, h3, h4, h1, h5⟩
theorem lw_N0 {s : State} {args : Array Value} (hts : ∀ w ∈ lw_tbl, w.before args s = true) : zn_N s :=
  ⟨va_Nw.of rfl (hts _ (List.mem_of_getElem? (i := 581) (by decide +kernel))), va_Nw.of rfl (hts _ (List.mem_of_getElem? (i := 70) (by decide +kernel))), va_Nw.of rfl (hts _ (List.mem_of_getElem? (i := 118) (by decide +kernel))), va_Nw.of rfl (hts _ (List.mem_of_getElem? (i := 168) (by decide +kernel))), va_Nw.of rfl (hts _ (List.mem_of_getElem? (i := 187) (by decide +kernel))), va_Nw.of rfl (hts _ (List.mem_of_getElem? (i := 209) (by decide +kernel))), va_Nw.of rfl (hts _ (List.mem_of_getElem? (i := 259) (by decide +kernel))), va_AO.of (hts _ (List.mem_of_getElem? (i := 67) (by decide +kernel))), va_AO.of (hts _ (List.mem_of_getElem? (i := 165) (by decide +kernel)))⟩
theorem lw_X0 {s : State} {args : Array Value} (hts : ∀ w ∈ lw_tbl, w.before args s = true) : zx_N s :=
  ⟨va_Nw.of rfl (hts _ (List.mem_of_getElem? (i := 497) (by decide +kernel))), va_Nw.of rfl (hts _ (List.mem_of_getElem? (i := 498) (by decide +kernel))), va_Nw.of rfl (hts _ (List.mem_of_getElem? (i := 500) (by decide +kernel))), va_Nw.of rfl (hts _ (List.mem_of_getElem? (i := 502) (by decide +kernel)))⟩
theorem lw_K0 {s : State} {args : Array Value} (htz : ∀ w ∈ zt_W, w.before args s = true) (hN : zn_N s) : ∃ (D : va_G) (ar : Nat → ClassId), va_K D zt_cl (zn_tys ar) s := by
  obtain ⟨c0, i0, k0⟩ := u_known (C := RX0) (T := TX0) (N := 3) (n := 3) htz zt_inX0 (htz _ (zt_mem 258 (by decide +kernel) rfl))
  obtain ⟨c1, i1, k1⟩ := u_known (C := RX1) (T := TX1) (N := 6) (n := 6) htz zt_inX1 (htz _ (zt_mem 58 (by decide +kernel) rfl))
  obtain ⟨c2, i2, k2⟩ := u_known (C := RX2) (T := TX2) (N := 4) (n := 4) htz zt_inX2 (htz _ (zt_mem 186 (by decide +kernel) rfl))
  obtain ⟨c3, i3, k3⟩ := u_known (C := RX3) (T := TX3) (N := 3) (n := 3) htz zt_inX3 (htz _ (zt_mem 69 (by decide +kernel) rfl))
  obtain ⟨c4, i4, k4⟩ := u_known (C := RX4) (T := TX4) (N := 3) (n := 3) htz zt_inX4 (htz _ (zt_mem 214 (by decide +kernel) rfl))
  obtain ⟨c5, i5, k5⟩ := u_known (C := RX5) (T := TX5) (N := 3) (n := 3) htz zt_inX5 (htz _ (zt_mem 117 (by decide +kernel) rfl))
  obtain ⟨c6, i6, k6⟩ := u_known (C := RX6) (T := TX6) (N := 3) (n := 3) htz zt_inX6 (htz _ (zt_mem 167 (by decide +kernel) rfl))
  obtain ⟨c7, i7, k7⟩ := u_known (C := RX7) (T := TX7) (N := 5) (n := 5) htz zt_inX7 (htz _ (zt_mem 208 (by decide +kernel) rfl))
  obtain ⟨c8, i8, k8⟩ := u_known (C := RX8) (T := TX8) (N := 8) (n := 8) htz zt_inX8 (htz _ (zt_mem 159 (by decide +kernel) rfl))
  obtain ⟨c9, i9, k9⟩ := u_known (C := RX9) (T := TX9) (N := 6) (n := 6) htz zt_inX9 (htz _ (zt_mem 88 (by decide +kernel) rfl))
  obtain ⟨c10, i10, k10⟩ := u_known (C := RX10) (T := TX10) (N := 6) (n := 6) htz zt_inX10 (htz _ (zt_mem 50 (by decide +kernel) rfl))
  obtain ⟨c11, i11, k11⟩ := u_known (C := RX11) (T := TX11) (N := 29) (n := 29) htz zt_inX11 (htz _ (zt_mem 660 (by decide +kernel) rfl))
  obtain ⟨a0, x0⟩ := lw_arr (ty := .int) (fun C h => nomatch h) (htz _ (zt_mem 86 (by decide +kernel) rfl))
  obtain ⟨a1, x1⟩ := lw_arr (ty := .boolean) (fun C h => nomatch h) (htz _ (zt_mem 753 (by decide +kernel) rfl))
  obtain ⟨a2, x2⟩ := lw_arr (ty := .long) (fun C h => nomatch h) (htz _ (zt_mem 905 (by decide +kernel) rfl))
  obtain ⟨a3, x3⟩ := lw_arq (C := RX5) hN.2.2.2.2.2.2.2.1
  obtain ⟨a4, x4⟩ := lw_arq (C := RX0) hN.2.2.2.2.2.2.2.2
  refine ⟨(fun k => if k = 0 then c0 else if k = 1 then c1 else if k = 2 then c2 else if k = 3 then c3 else if k = 4 then c4 else if k = 5 then c5 else if k = 6 then c6 else if k = 7 then c7 else if k = 8 then c8 else if k = 9 then c9 else if k = 10 then c10 else c11, fun k => if k = 0 then i0 else if k = 1 then i1 else if k = 2 then i2 else if k = 3 then i3 else if k = 4 then i4 else if k = 5 then i5 else if k = 6 then i6 else if k = 7 then i7 else if k = 8 then i8 else if k = 9 then i9 else if k = 10 then i10 else i11), fun k => if k = 0 then a0 else if k = 1 then a1 else if k = 2 then a2 else if k = 3 then a3 else a4, fun k q hq => ?_, fun k q hq => ?_⟩
  · match k, hq with
    | 0, hq => cases hq; exact k0
    | 1, hq => cases hq; exact k1
    | 2, hq => cases hq; exact k2
    | 3, hq => cases hq; exact k3
    | 4, hq => cases hq; exact k4
    | 5, hq => cases hq; exact k5
    | 6, hq => cases hq; exact k6
    | 7, hq => cases hq; exact k7
    | 8, hq => cases hq; exact k8
    | 9, hq => cases hq; exact k9
    | 10, hq => cases hq; exact k10
    | 11, hq => cases hq; exact k11
    | k + 12, hq => simp at hq
  · have hk5 : k < 5 := by
      have := (List.getElem?_eq_some_iff.mp hq).1
      simpa [zn_tys] using this
    rw [zn_ty_at _ hk5] at hq
    cases hq
    match k, hk5 with
    | 0, _ => exact x0
    | 1, _ => exact x1
    | 2, _ => exact x2
    | 3, _ => exact x3
    | 4, _ => exact x4
theorem lw_Z0 {s : State} {b : Nat} (hts : ∀ w ∈ lw_tbl, w.before #[Value.ref b] s = true) (hgv : (Jvm.Cond.and given_1 narrow_1).before #[Value.ref b] s = true) : zx_Z (fun q => s.heap.size ≤ q) s s.heap := by
  have hs := flat_of_before _ hgv
  exact ⟨vx_Zqof (hts _ (List.mem_of_getElem? (i := 522) (by decide +kernel))) (hts _ (List.mem_of_getElem? (i := 45) (by decide +kernel))) (hs _ (by decide +kernel)) (fun a h => Nat.not_le.mpr h), vx_Zqof (hts _ (List.mem_of_getElem? (i := 524) (by decide +kernel))) (hts _ (List.mem_of_getElem? (i := 45) (by decide +kernel))) (hs _ (by decide +kernel)) (fun a h => Nat.not_le.mpr h)⟩
theorem lw_n0 (Ls : Nat) (xs : Nat → Int32) : ∃ n : Nat, (1 ≤ n ∧ n ≤ 80) ∧ ((1 ≤ cl0 Ls xs ∧ cl0 Ls xs ≤ 80 ∧ (n : Int) = cl0 Ls xs) ∨ (¬ (1 ≤ cl0 Ls xs ∧ cl0 Ls xs ≤ 80) ∧ n = 40)) := by
  by_cases z : 1 ≤ cl0 Ls xs ∧ cl0 Ls xs ≤ 80
  · exact ⟨(cl0 Ls xs).toNat, by omega, Or.inl (by omega)⟩
  · exact ⟨40, by omega, Or.inr ⟨z, rfl⟩⟩
set_option maxRecDepth 20000 in
set_option maxHeartbeats 4000000 in
theorem lw_go {g : zg_G} {k : zk_T} {b L : Nat} {xs : Nat → Int32} (n : Int) (hn : 1 ≤ n ∧ n ≤ 80) (hg : (g.2.2.2 : Int) = n) (hL : L ≤ 2561) (C : zk_ok g mL_law k) (hk : lw_k b L xs 1 k) : zw_W g mL_law k 30 [(3, .ref (g.2.2.1 90)), (2, .ref (g.2.2.1 67)), (1, .ref (g.2.2.1 0)), (0, .ref b)] [] (si n) := by
  refine zr_iconst (pc := 30) C dL_law_30 ?_
  refine zr_istore (L' := [(4, zv_i 1), (3, .ref (g.2.2.1 90)), (2, .ref (g.2.2.1 67)), (1, .ref (g.2.2.1 0)), (0, .ref b)]) (pc := 31) C dL_law_31 (by decide) rfl ?_
  refine zr_sub [4, 3, 2, 1, 0] rfl ?_
  exact l_law n hg b L xs hL (L + 1) k (si n) 1 22 24 51 59 (by omega) (by omega) C hk (si_R hn)
set_option maxRecDepth 20000 in
set_option maxHeartbeats 4000000 in
theorem whole_start {p : Program} {e : Env} {s : State} {m : MethodId} {below : List Frame} {meth : Method} {c : Code} (l : Launch) (hst : l.stackTraces = false) {b L : Nat} {xs : Nat → Int32} (hL : L ≤ 2561) (C0 : lw_At p s m meth c b L xs) : W p l e room_1 s m #[Value.ref b] below meth c s.heap [] 0 0 (lw_Z below #[Value.ref b] s) (entryFrame m ([Value.ref b] : List Value).toArray 7) := by
  obtain ⟨hx, hb, hr, hml, hown, hts, hX, hbl, hlocks, hgv⟩ := C0
  have htz : ∀ w ∈ zt_W, w.before #[Value.ref b] s = true := fun w hw => hts w (List.mem_filter.mp hw).1
  have hN := lw_N0 hts
  have hX2 := lw_X0 hts
  have hZ := lw_Z0 hts hgv
  obtain ⟨D, ar, hK⟩ := lw_K0 htz hN
  obtain ⟨n, hn, hm⟩ := lw_n0 L xs
  have hl := lv_entry [Value.ref b] (n := 7) (Nat.le_of_ble_eq_true rfl)
  rw [lg_entry_eq]
  refine lw_make (D := D) (ar := ar) (x := (p, l, e, room_1, s, m, #[Value.ref b], below, meth, c, lw_Z below #[Value.ref b] s, fun q => s.heap.size ≤ q)) meth.name b L n xs ⟨hx, hb, hml, hown, htz, hK, fun q h => h, (Nat.le_of_ble_eq_true rfl), (Nat.le_of_ble_eq_true rfl), (Nat.le_of_ble_eq_true rfl), (Nat.le_of_ble_eq_true rfl), hN, rfl⟩ ⟨hX, hbl, Nat.not_le.mpr hbl, hL⟩ hn hm ?_ s.heap [] _ (fun k q h => by simp at h) ⟨fun i j p q h => by simp at h, fun k q h => by simp at h⟩ va_S.rf hl
  intro q q' fd fg fd' c9 hf hf' H locs ls hP hD hS hl
  have hP' := zw_P hP hf hf'
  have hA : zg_ad (D, ar, zw_ad q q' c9, n) (fun q => s.heap.size ≤ q) := zw_D hD
  exact lw_go (g := (D, ar, zw_ad q q' c9, n)) (k := (p, l, e, room_1, s, m, #[Value.ref b], below, meth, c, 91, 36736, lw_Z below #[Value.ref b] s, fun q => s.heap.size ≤ q)) (n : Int) (by omega) rfl hL ⟨hx, hb, hml, hown, htz, hK, hA, (Nat.le_of_ble_eq_true rfl), (Nat.le_of_ble_eq_true rfl), (Nat.le_of_ble_eq_true rfl), (Nat.le_of_ble_eq_true rfl), hN.1⟩ ⟨rfl, rfl, rfl, rfl, hr, hlocks, hX, hbl, hst, hX2, hZ, by decide, by decide⟩ H locs ls hP' hS hl
