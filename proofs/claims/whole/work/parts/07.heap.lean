section ZH
variable {g : zg_G} {M : zm_T} {k : zk_T} {pc : Nat} {L L' : List (Nat × Value)} {S : List Value} {σ : zs_S}
/-- an array of numbers in the world -/
theorem zs_arr {c t len : Nat} (hc : c < zs_N) (hs : zs_sh g.2.2.2 c = .inl (t, len)) (ht : t ≠ 2) : (zs_W g σ)[c]? = some (g.2.2.1 c, .inl (g.2.1 t, len, .inl (fun j => zi_w (σ c j)))) := by
  rw [zs_at g σ hc, hs]
  simp [zs_c, ht]
theorem zs_arrL {c len : Nat} (hc : c < zs_N) (hs : zs_sh g.2.2.2 c = .inl (2, len)) : (zs_W g σ)[c]? = some (g.2.2.1 c, .inl (g.2.1 2, len, .inr (.inl (fun j => zi_l (σ c j))))) := by
  rw [zs_at g σ hc, hs]
  simp [zs_c]
theorem zs_arrR {c t len : Nat} {f : Nat → Nat} (hc : c < zs_N) (hs : zs_sh g.2.2.2 c = .inr (.inl (t, len, f))) : (zs_W g σ)[c]? = some (g.2.2.1 c, .inl (g.2.1 t, len, .inr (.inr (.inr (.inr (fun j => some (g.2.2.1 (f j)))))))) := by
  rw [zs_at g σ hc, hs]
  rfl
theorem zs_obj {c ci : Nat} {fk : List (Option (Option Nat))} (hc : c < zs_N) (hs : zs_sh g.2.2.2 c = .inr (.inr (ci, fk))) : (zs_W g σ)[c]? = some (g.2.2.1 c, .inr (ci, zs_fl g σ c 0 fk)) := by
  rw [zs_at g σ hc, hs]
  rfl
theorem zs_upd {c : Nat} {i x : Int} (h0 : 0 ≤ i) : upd (fun j : Nat => zi_w (σ c j)) i.toNat (zi_w x) = fun j : Nat => zi_w (zs_put σ c i x c j) := by
  funext j
  unfold upd
  by_cases h : j = i.toNat
  · rw [if_pos h, show (j : Int) = i by omega, zs_put_self]
  · rw [if_neg h, zs_put_off (by omega)]
theorem zs_updL {c : Nat} {i x : Int} (h0 : 0 ≤ i) : vp_updL (fun j : Nat => zi_l (σ c j)) i.toNat (zi_l x) = fun j : Nat => zi_l (zs_put σ c i x c j) := by
  funext j
  unfold vp_updL
  by_cases h : j = i.toNat
  · rw [if_pos h, show (j : Int) = i by omega, zs_put_self]
  · rw [if_neg h, zs_put_off (by omega)]
theorem zr_iaload (C : zk_ok g M k) {c len : Nat} {i : Int} (hd : decode M.2.1 pc = .ok (.iaload, 1)) (hc : c < zs_N) (hs : zs_sh g.2.2.2 c = .inl (0, len)) (h : 0 ≤ i ∧ i < len) (hn : (len : Int) ≤ 2147483647)
    (K : zw_W g M k (pc + 1) L (zv_i (σ c i) :: S) σ) : zw_W g M k pc L (zv_i i :: .ref (g.2.2.1 c) :: S) σ := by
  obtain ⟨p, l, e, R, s, m, args, below, meth, cd, cells, slots, Q, A⟩ := k
  obtain ⟨hx, hb, hml, hown, hts, hK, hA, hf1, hf2, hc1, hc2, hN⟩ := C
  intro H locs ls hP hS hl
  refine va_iald hx hb hK hP c 0 (zs_arr hc hs (by decide)) (zg_ty_at g (by decide)) (zi_in h.1 h.2 hn) hd ?_
  rw [zi_cl h.1 (by omega)]
  have e1 : ((i.toNat : Nat) : Int) = i := by omega
  show W _ _ _ _ _ _ _ _ _ _ _ _ _ _ _ (F0 m (pc + 1) ls (.int (zi_w (σ c ((i.toNat : Nat) : Int))) :: S))
  rw [e1]
  exact K H locs ls hP hS hl
theorem zr_baload (C : zk_ok g M k) {c len : Nat} {i : Int} (hd : decode M.2.1 pc = .ok (.baload, 1)) (hc : c < zs_N) (hs : zs_sh g.2.2.2 c = .inl (1, len)) (h : 0 ≤ i ∧ i < len) (hn : (len : Int) ≤ 2147483647)
    (K : zw_W g M k (pc + 1) L (zv_i (σ c i) :: S) σ) : zw_W g M k pc L (zv_i i :: .ref (g.2.2.1 c) :: S) σ := by
  obtain ⟨p, l, e, R, s, m, args, below, meth, cd, cells, slots, Q, A⟩ := k
  obtain ⟨hx, hb, hml, hown, hts, hK, hA, hf1, hf2, hc1, hc2, hN⟩ := C
  intro H locs ls hP hS hl
  refine va_zald hx hb hK hP c 1 (zs_arr hc hs (by decide)) (zg_ty_at g (by decide)) (zi_in h.1 h.2 hn) hd ?_
  rw [zi_cl h.1 (by omega)]
  have e1 : ((i.toNat : Nat) : Int) = i := by omega
  show W _ _ _ _ _ _ _ _ _ _ _ _ _ _ _ (F0 m (pc + 1) ls (.int (zi_w (σ c ((i.toNat : Nat) : Int))) :: S))
  rw [e1]
  exact K H locs ls hP hS hl
theorem zr_laload (C : zk_ok g M k) {c len : Nat} {i : Int} (hd : decode M.2.1 pc = .ok (.laload, 1)) (hc : c < zs_N) (hs : zs_sh g.2.2.2 c = .inl (2, len)) (h : 0 ≤ i ∧ i < len) (hn : (len : Int) ≤ 2147483647)
    (K : zw_W g M k (pc + 1) L (zv_l (σ c i) :: S) σ) : zw_W g M k pc L (zv_i i :: .ref (g.2.2.1 c) :: S) σ := by
  obtain ⟨p, l, e, R, s, m, args, below, meth, cd, cells, slots, Q, A⟩ := k
  obtain ⟨hx, hb, hml, hown, hts, hK, hA, hf1, hf2, hc1, hc2, hN⟩ := C
  intro H locs ls hP hS hl
  refine va_lald hx hb hK hP c 2 (zs_arrL hc hs) (zg_ty_at g (by decide)) (zi_in h.1 h.2 hn) hd ?_
  rw [zi_cl h.1 (by omega)]
  have e1 : ((i.toNat : Nat) : Int) = i := by omega
  show W _ _ _ _ _ _ _ _ _ _ _ _ _ _ _ (F0 m (pc + 1) ls (.long (zi_l (σ c ((i.toNat : Nat) : Int))) :: S))
  rw [e1]
  exact K H locs ls hP hS hl
theorem zr_aaload (C : zk_ok g M k) {c t len : Nat} {f : Nat → Nat} {i : Int} (hd : decode M.2.1 pc = .ok (.aaload, 1)) (hc : c < zs_N) (hs : zs_sh g.2.2.2 c = .inr (.inl (t, len, f))) (ht : t = 3 ∨ t = 4) (h : 0 ≤ i ∧ i < len) (hn : (len : Int) ≤ 2147483647)
    (K : zw_W g M k (pc + 1) L (.ref (g.2.2.1 (f i.toNat)) :: S) σ) : zw_W g M k pc L (zv_i i :: .ref (g.2.2.1 c) :: S) σ := by
  obtain ⟨p, l, e, R, s, m, args, below, meth, cd, cells, slots, Q, A⟩ := k
  obtain ⟨hx, hb, hml, hown, hts, hK, hA, hf1, hf2, hc1, hc2, hN⟩ := C
  intro H locs ls hP hS hl
  obtain ⟨Cn, hCn⟩ : ∃ Cn, zg_ty t = .object Cn := by
    rcases ht with rfl | rfl
    · exact ⟨_, rfl⟩
    · exact ⟨_, rfl⟩
  refine va_aldq (C := Cn) hx hb hK hP c t (zs_arrR hc hs) (by rw [zg_ty_at g (by omega), hCn]) (zi_in h.1 h.2 hn) hd ?_
  rw [zi_cl h.1 (by omega)]
  exact K H locs ls hP hS hl
theorem zr_alen (C : zk_ok g M k) {c t len : Nat} (n : Int) (hd : decode M.2.1 pc = .ok (.arraylength, 1)) (hc : c < zs_N) (hs : zs_sh g.2.2.2 c = .inl (t, len)) (ht : t < 2) (hn : (len : Int) = n)
    (K : zw_W g M k (pc + 1) L (zv_i n :: S) σ) : zw_W g M k pc L (.ref (g.2.2.1 c) :: S) σ := by
  obtain ⟨p, l, e, R, s, m, args, below, meth, cd, cells, slots, Q, A⟩ := k
  obtain ⟨hx, hb, hml, hown, hts, hK, hA, hf1, hf2, hc1, hc2, hN⟩ := C
  intro H locs ls hP hS hl
  refine va_alen (v := zi_w n) hx hb hK hP c t (zs_arr hc hs (by omega)) (zg_ty_at g (by omega)) ?_ hd (K H locs ls hP hS hl)
  subst hn
  rfl
theorem zr_iastore (C : zk_ok g M k) {c len : Nat} {i x : Int} (hd : decode M.2.1 pc = .ok (.iastore, 1)) (hc : c < zs_N) (hs : zs_sh g.2.2.2 c = .inl (0, len)) (h : 0 ≤ i ∧ i < len) (hn : (len : Int) ≤ 2147483647)
    (K : ∀ τ : zs_S, τ = zs_put σ c i x → zw_W g M k (pc + 1) L S τ) : zw_W g M k pc L (zv_i x :: zv_i i :: .ref (g.2.2.1 c) :: S) σ := by
  have K := K _ rfl
  obtain ⟨p, l, e, R, s, m, args, below, meth, cd, cells, slots, Q, A⟩ := k
  obtain ⟨hx, hb, hml, hown, hts, hK, hA, hf1, hf2, hc1, hc2, hN⟩ := C
  intro H locs ls hP hS hl
  refine va_iast hx hb hK hP (zg_D hA σ) hS c 0 (zs_arr hc hs (by decide)) (zg_ty_at g (by decide)) (zi_in h.1 h.2 hn) hd (fun H1 locs1 hP1 _ hS1 => ?_)
  refine K H1 locs1 ls ?_ hS1 hl
  rw [zi_cl h.1 (by omega), zs_upd h.1] at hP1
  rw [← zs_set (σ := σ) (τ := zs_put σ c i x) (k := c) (fun c' h' j => zs_put_ne h' j), hs]
  exact hP1
theorem zr_bastore (C : zk_ok g M k) {c len : Nat} {i x : Int} (hd : decode M.2.1 pc = .ok (.bastore, 1)) (hc : c < zs_N) (hs : zs_sh g.2.2.2 c = .inl (1, len)) (h : 0 ≤ i ∧ i < len) (hn : (len : Int) ≤ 2147483647) (h01 : x = 0 ∨ x = 1)
    (K : ∀ τ : zs_S, τ = zs_put σ c i x → zw_W g M k (pc + 1) L S τ) : zw_W g M k pc L (zv_i x :: zv_i i :: .ref (g.2.2.1 c) :: S) σ := by
  have K := K _ rfl
  obtain ⟨p, l, e, R, s, m, args, below, meth, cd, cells, slots, Q, A⟩ := k
  obtain ⟨hx, hb, hml, hown, hts, hK, hA, hf1, hf2, hc1, hc2, hN⟩ := C
  intro H locs ls hP hS hl
  refine va_zast hx hb hK hP (zg_D hA σ) hS c 1 (zs_arr hc hs (by decide)) (zg_ty_at g (by decide)) (zi_in h.1 h.2 hn) hd (fun H1 locs1 hP1 _ hS1 => ?_)
  refine K H1 locs1 ls ?_ hS1 hl
  rw [show vp_nar .boolean (zi_w x) = zi_w x by rcases h01 with rfl | rfl <;> decide, zi_cl h.1 (by omega), zs_upd h.1] at hP1
  rw [← zs_set (σ := σ) (τ := zs_put σ c i x) (k := c) (fun c' h' j => zs_put_ne h' j), hs]
  exact hP1
theorem zr_lastore (C : zk_ok g M k) {c len : Nat} {i x : Int} (hd : decode M.2.1 pc = .ok (.lastore, 1)) (hc : c < zs_N) (hs : zs_sh g.2.2.2 c = .inl (2, len)) (h : 0 ≤ i ∧ i < len) (hn : (len : Int) ≤ 2147483647)
    (K : ∀ τ : zs_S, τ = zs_put σ c i x → zw_W g M k (pc + 1) L S τ) : zw_W g M k pc L (zv_l x :: zv_i i :: .ref (g.2.2.1 c) :: S) σ := by
  have K := K _ rfl
  obtain ⟨p, l, e, R, s, m, args, below, meth, cd, cells, slots, Q, A⟩ := k
  obtain ⟨hx, hb, hml, hown, hts, hK, hA, hf1, hf2, hc1, hc2, hN⟩ := C
  intro H locs ls hP hS hl
  refine va_last hx hb hK hP (zg_D hA σ) hS c 2 (zs_arrL hc hs) (zg_ty_at g (by decide)) (zi_in h.1 h.2 hn) hd (fun H1 locs1 hP1 _ hS1 => ?_)
  refine K H1 locs1 ls ?_ hS1 hl
  rw [zi_cl h.1 (by omega), zs_updL h.1] at hP1
  rw [← zs_set (σ := σ) (τ := zs_put σ c i x) (k := c) (fun c' h' j => zs_put_ne h' j), hs]
  exact hP1
/-- what a method's field access rests on: the class, its field, the link -/
def zl_F (own : String) (idx ci j : Nat) : Prop := ∃ (C : String) (T : u_T) (N : Nat), zt_cl[ci]? = some (C, T, N) ∧ j < N ∧ (∀ w ∈ u_ws C T N, w ∈ zt_W) ∧ Cond.fieldLink own idx (T j).1 (T j).2.1 (T j).2.2.1 ∈ zt_W
def zl_P (own : String) (idx ci j : Nat) (ty : FieldType) : Prop := ∃ (C : String) (T : u_T) (N : Nat) (ty0 : Nat → FieldType), zt_cl[ci]? = some (C, T, N) ∧ j < N ∧ (∀ w ∈ u_ws C T N, w ∈ zt_W) ∧ Cond.fieldLink own idx (T j).1 (T j).2.1 (T j).2.2.1 ∈ zt_W ∧ (∀ k, k < N → parseFieldDescriptor (T k).2.2.1 = some (ty0 k)) ∧ (∀ a, a < N → ∀ b, b < N → a ≠ b → (T a).2.1 ≠ (T b).2.1) ∧ (T j).2.2.2 = false ∧ parseFieldDescriptor (T j).2.2.1 = some ty
theorem zr_get (C : zk_ok g M k) {c idx ci : Nat} {fk : List (Option (Option Nat))} (j : Nat) (f : Option (Option Nat)) (hd : decode M.2.1 pc = .ok (.getfield idx, 3)) (hF : zl_F M.1.cls idx ci j) (hc : c < zs_N) (hs : zs_sh g.2.2.2 c = .inr (.inr (ci, fk))) (hf : fk[j]? = some f) {v : Value} (hv : zs_v g σ c j f = v)
    (K : zw_W g M k (pc + 3) L (v :: S) σ) : zw_W g M k pc L (.ref (g.2.2.1 c) :: S) σ := by
  obtain ⟨p, l, e, R, s, m, args, below, meth, cd, cells, slots, Q, A⟩ := k
  obtain ⟨hx, hb, hml, hown, hts, hK, hA, hf1, hf2, hc1, hc2, hN⟩ := C
  obtain ⟨Cn, T, N, h1, h2, h3, h4⟩ := hF
  intro H locs ls hP hS hl
  refine va_get hx hb hts h3 hown hK hP c (zs_obj hc hs) h1 j h2 (hts _ h4) (fun _ h => h) ?_ hd (K H locs ls hP hS hl)
  rw [zs_fl_at, hf, Nat.zero_add]
  exact congrArg some hv
theorem zs_fl_set {τ : zs_S} {c j : Nat} {v : Value} {f : Option (Option Nat)} {fk : List (Option (Option Nat))} (hf : fk[j]? = some f) (hv : zs_v g τ c j f = v) (ho : ∀ i : Nat, i ≠ j → τ c i = σ c i) : (zs_fl g σ c 0 fk).set j v = zs_fl g τ c 0 fk := by
  have hj : j < fk.length := (List.getElem?_eq_some_iff.mp hf).1
  apply List.ext_getElem?
  intro i
  by_cases e : j = i
  · subst e
    rw [List.getElem?_set_self (by rw [zs_fl_len]; exact hj), zs_fl_at, hf, Nat.zero_add]
    exact congrArg some hv.symm
  · rw [List.getElem?_set_ne e, zs_fl_at, zs_fl_at, Nat.zero_add]
    cases hq : fk[i]? with
    | none => rfl
    | some f2 =>
      have e2 : zs_v g σ c i f2 = zs_v g τ c i f2 := by
        rcases f2 with _ | _ | q
        · simp [zs_v, ho i (Ne.symm e)]
        · simp [zs_v, ho i (Ne.symm e)]
        · rfl
      simp [e2]
theorem zr_put (C : zk_ok g M k) {c idx ci : Nat} {fk : List (Option (Option Nat))} {x : Int} (j : Nat) (ji : Int) (hji : (j : Int) = ji) (hd : decode M.2.1 pc = .ok (.putfield idx, 3)) (hF : zl_P M.1.cls idx ci j .int) (hc : c < zs_N) (hs : zs_sh g.2.2.2 c = .inr (.inr (ci, fk))) (hf : fk[j]? = some none)
    (K : ∀ τ : zs_S, τ = zs_put σ c ji x → zw_W g M k (pc + 3) L S τ) : zw_W g M k pc L (zv_i x :: .ref (g.2.2.1 c) :: S) σ := by
  subst hji
  have K := K _ rfl
  obtain ⟨p, l, e, R, s, m, args, below, meth, cd, cells, slots, Q, A⟩ := k
  obtain ⟨hx, hb, hml, hown, hts, hK, hA, hf1, hf2, hc1, hc2, hN⟩ := C
  obtain ⟨Cn, T, N, ty0, h1, h2, h3, h4, h5, h6, h7, h8⟩ := hF
  intro H locs ls hP hS hl
  refine va_put hx hb hts h3 ty0 h5 h6 hown hK hP (zg_D hA σ) hS c (zs_obj hc hs) h1 j h2 (hts _ h4) (fun _ h => h) h7 h8 rfl rfl (by rw [zs_fl_len]; exact (List.getElem?_eq_some_iff.mp hf).1) hd (fun H1 locs1 hP1 _ hS1 => ?_)
  refine K H1 locs1 ls ?_ hS1 hl
  rw [zs_fl_set (τ := zs_put σ c j x) hf (by simp [zs_v, zs_put]) (fun i hi => zs_put_off (by omega))] at hP1
  rw [← zs_set (σ := σ) (τ := zs_put σ c j x) (k := c) (fun c' h' j => zs_put_ne h' j), hs]
  exact hP1
theorem zr_putR (C : zk_ok g M k) {c idx ci q : Nat} {fk : List (Option (Option Nat))} {Cv : String} (j : Nat) (ji : Int) (hji : (j : Int) = ji) (hd : decode M.2.1 pc = .ok (.putfield idx, 3)) (hF : zl_P M.1.cls idx ci j (.object Cv)) (hc : c < zs_N) (hs : zs_sh g.2.2.2 c = .inr (.inr (ci, fk))) (hf : fk[j]? = some (some none))
    (K : ∀ τ : zs_S, τ = zs_put σ c ji q → zw_W g M k (pc + 3) L S τ) : zw_W g M k pc L (.ref (g.2.2.1 q) :: .ref (g.2.2.1 c) :: S) σ := by
  subst hji
  have K := K _ rfl
  obtain ⟨p, l, e, R, s, m, args, below, meth, cd, cells, slots, Q, A⟩ := k
  obtain ⟨hx, hb, hml, hown, hts, hK, hA, hf1, hf2, hc1, hc2, hN⟩ := C
  obtain ⟨Cn, T, N, ty0, h1, h2, h3, h4, h5, h6, h7, h8⟩ := hF
  intro H locs ls hP hS hl
  refine va_put hx hb hts h3 ty0 h5 h6 hown hK hP (zg_D hA σ) hS c (zs_obj hc hs) h1 j h2 (hts _ h4) (fun _ h => h) h7 h8 rfl rfl (by rw [zs_fl_len]; exact (List.getElem?_eq_some_iff.mp hf).1) hd (fun H1 locs1 hP1 _ hS1 => ?_)
  refine K H1 locs1 ls ?_ hS1 hl
  rw [zs_fl_set (τ := zs_put σ c j q) hf (by simp [zs_v, zs_put]) (fun i hi => zs_put_off (by omega))] at hP1
  rw [← zs_set (σ := σ) (τ := zs_put σ c j q) (k := c) (fun c' h' j => zs_put_ne h' j), hs]
  exact hP1
/-! CALLS -/
/-- what a callee's name rests on -/
def zl_M (Mc : zm_T) (n : Nat) : Prop := Cond.code Mc.1 Mc.2.1 Mc.2.2.1 Mc.2.2.2.1 ∈ zt_W ∧ Cond.initialized Mc.1.cls ∈ zt_W ∧ Mc.1.cls ≠ "java/lang/invoke/MethodHandle" ∧ Mc.1.cls ≠ "java/lang/invoke/VarHandle" ∧ (parseMethodDescriptor Mc.1.desc).map (fun d => d.parameters.length) = some n
def zl_S (own : String) (idx : Nat) (Mc : zm_T) : Prop := Cond.methodLink own idx Mc.1 ∈ zt_W ∧ Cond.static Mc.1 ∈ zt_W
def zl_SN (own : String) (idx : Nat) (Mc : zm_T) : Prop := Cond.methodLinkNest own idx Mc.1 "StemMill" = zt_N ∧ Cond.static Mc.1 ∈ zt_W
def zl_V (own : String) (idx ci : Nat) (Mc : zm_T) : Prop := ∃ q, zt_cl[ci]? = some q ∧ q.1 = Mc.1.cls ∧ Cond.methodLink own idx Mc.1 ∈ zt_W ∧ Cond.instanceMethod Mc.1 ∈ zt_W ∧ Cond.selects Mc.1.cls Mc.1 Mc.1 ∈ zt_W
theorem zl_good {y : MethodName} {cc : ByteArray} {n : Nat} {rt : Option FieldType} (h : Cond.code y cc n rt ∈ zt_W) : GoodIn zt_W (Cond.code y cc n rt :: zt_W) := by
  intro w hw
  rcases List.mem_cons.mp hw with rfl | hw
  · exact zt_ok _ h
  · exact zt_ok _ hw
theorem zc_blind {g : zg_G} {av : List Value} : FrameBlind (va_Pc av (fun U => va_P g.1 zt_cl (zs_W g σ) U.heap ∧ va_K g.1 zt_cl (zg_tys g) U ∧ zg_ad g (fun _ => True) ∧ va_Nw zt_N U)) := by
  intro a U g1 mk q
  obtain ⟨q0, qP, qK, qD, qN⟩ := q
  exact ⟨q0, qP, va_K.moved (u := U) (U := U.calling g1 mk a) (Vm.Alike.refl U.vm) qK, qD, va_Nw.same rfl (u := U) (U := U.calling g1 mk a) rfl qN⟩
/-- behind a call -/
theorem zc_go {g : zg_G} {M : zm_T} {p : Program} {l : Launch} {e : Env} {R : Room} {s : State} {m : MethodId} {args : Array Value} {below : List Frame} {meth : Method} {c : Code} {H : Heap} {locs : List Loc} {cells slots : Nat} {Q : State → Prop} {A : Nat → Prop} {ls : Array Slot} {st0 rest : List Value} {a : Array Value} {Qc : Option Value → zs_S → Prop}
    (hA : zg_ad g A) (hr : va_Run p l e R s m args below meth c H locs cells slots 0 0 (F0 m pc ls st0) rest (zq_Q g Qc a) (zg_A g)) (hS : va_S A s.heap H locs) (hl : lv_has ls M.2.2.1 L)
    (K : ∀ (v : Option Value) (τ : zs_S), Qc v τ → zw_W g M (p, l, e, R, s, m, args, below, meth, c, cells, slots, Q, A) (pc + 3) L (v.toList ++ rest) τ) : W p l e R s m args below meth c H locs cells slots Q (F0 m pc ls st0) := by
  intro T hT X
  obtain ⟨v, st₀, t, T', L1, h0, X', hL, e1, e2, ⟨⟨v2, τ, hv, hq, hP⟩, hz, hk⟩, st⟩ := hr T hT X
  cases hv
  rw [h0] at hz hk
  have hAA : ∀ q, zg_A g q → A q := fun q h => by
    obtain ⟨i, hi, rfl⟩ := h
    exact hA.2 i hi
  obtain ⟨t2, a1, b1⟩ := K v τ hq T'.heap (locs ++ L1) ls (by rw [e1]; exact hP) ⟨Nat.le_trans hS.1 (by rw [e1]; exact hz), fun q h1 h2 => by rw [e1, hk q (Nat.lt_of_lt_of_le h1 hS.1) (fun z => h2 (hAA q z))]; exact hS.2.1 q h1 h2, fun q hq => by
      rcases List.mem_append.mp hq with h | h
      · exact hS.2.2 q h
      · exact hAA _ (hL q h)⟩ hl T' rfl X'
  exact ⟨t2, st t2 a1, b1⟩
theorem zr_callS (C : zk_ok g M k) {idx n : Nat} {Mc : zm_T} {As rest : List Value} {Qc : Option Value → zs_S → Prop} (hd : decode M.2.1 pc = .ok (.invokestatic idx, 3)) (hM : zl_M Mc n) (hL : zl_S M.1.cls idx Mc) (hn : As.length = n) (hdep : Mc.2.2.2.2.1 + 1 ≤ M.2.2.2.2.1 ∧ 8 + (Mc.2.2.1 + 11) + Mc.2.2.2.2.2 ≤ M.2.2.2.2.2) (hst : S = As.reverse ++ rest) (hcat : (rest.map fun v => v.category).sum ≤ 8)
    (hc : zm_Met g Mc σ As Qc) (K : ∀ (v : Option Value) (τ : zs_S), Qc v τ → zw_W g M k (pc + 3) L (v.toList ++ rest) τ) : zw_W g M k pc L S σ := by
  obtain ⟨p, l, e, R, s, m, args, below, meth, cd, cells, slots, Q, A⟩ := k
  obtain ⟨hx, hb, hml, hown, hts, hK, hA, hf1, hf2, hc1, hc2, hN⟩ := C
  obtain ⟨m1, m2, m3, m4, m5⟩ := hM
  intro H locs ls hP hS hl
  have hr := va_runS (R := R) (locs := locs) (cells := cells) (slots := slots) (below := below) (meth := meth) (e := e) (p := p) (As := As) (rest := rest) (g := F0 m pc ls S) (own := M.1.cls) (nL := M.2.2.1) (cc := M.2.1) (c := cd) (H := H) ⟨hx, hb, hml, hown, hts⟩ (hc l)
    ⟨callB_of n hts (zl_good m1) rfl rfl rfl (hts _ m2) (hts _ hL.1) ⟨m3, m4, m5⟩ ⟨Nat.le_trans hdep.1 hf1, Nat.le_trans hdep.2 hf2⟩, hts _ hL.2⟩
    ⟨zc_blind, fun U hU hW => ⟨rfl, by rw [hU]; exact hP, va_K.moved hW.alike hK, ⟨hA.1, fun _ _ => trivial⟩, va_Nw.warmM hW hN⟩⟩ rfl hn hl.1 hst (lv_room hcat) hd ⟨hc1, hc2⟩
  exact zc_go hA hr hS hl K
theorem zr_callSN (C : zk_ok g M k) {idx n : Nat} {Mc : zm_T} {As rest : List Value} {Qc : Option Value → zs_S → Prop} (hd : decode M.2.1 pc = .ok (.invokestatic idx, 3)) (hM : zl_M Mc n) (hL : zl_SN M.1.cls idx Mc) (hn : As.length = n) (hdep : Mc.2.2.2.2.1 + 1 ≤ M.2.2.2.2.1 ∧ 8 + (Mc.2.2.1 + 11) + Mc.2.2.2.2.2 ≤ M.2.2.2.2.2) (hst : S = As.reverse ++ rest) (hcat : (rest.map fun v => v.category).sum ≤ 8)
    (hc : zm_Met g Mc σ As Qc) (K : ∀ (v : Option Value) (τ : zs_S), Qc v τ → zw_W g M k (pc + 3) L (v.toList ++ rest) τ) : zw_W g M k pc L S σ := by
  obtain ⟨p, l, e, R, s, m, args, below, meth, cd, cells, slots, Q, A⟩ := k
  obtain ⟨hx, hb, hml, hown, hts, hK, hA, hf1, hf2, hc1, hc2, hN⟩ := C
  obtain ⟨m1, m2, m3, m4, m5⟩ := hM
  obtain ⟨hL1, hL2⟩ := hL
  intro H locs ls hP hS hl
  have hr := va_runSN (R := R) (locs := locs) (cells := cells) (slots := slots) (below := below) (meth := meth) (e := e) (p := p) (As := As) (rest := rest) (g := F0 m pc ls S) (own := M.1.cls) (nL := M.2.2.1) (cc := M.2.1) (c := cd) (H := H) ⟨hx, hb, hml, hown, hts⟩ (hc l)
    ⟨va_cnB n hts (zl_good m1) rfl rfl rfl (by rw [hL1]; exact hN) (hts _ m2) ⟨m3, m4, m5⟩ ⟨Nat.le_trans hdep.1 hf1, Nat.le_trans hdep.2 hf2⟩, hts _ hL2, trivial⟩
    ⟨zc_blind, fun U hU hW => ⟨rfl, by rw [hU]; exact hP, va_K.moved hW.alike hK, ⟨hA.1, fun _ _ => trivial⟩, va_Nw.warmM hW hN⟩⟩ rfl hn hl.1 hst (lv_room hcat) hd ⟨hc1, hc2⟩
  exact zc_go hA hr hS hl K
theorem zr_callV (C : zk_ok g M k) {idx n ci b : Nat} {Mc : zm_T} {fk : List (Option (Option Nat))} {As rest : List Value} {Qc : Option Value → zs_S → Prop} (hd : decode M.2.1 pc = .ok (.invokevirtual idx, 3)) (hM : zl_M Mc n) (hL : zl_V M.1.cls idx ci Mc) (hn : As.length = n) (hdep : Mc.2.2.2.2.1 + 1 ≤ M.2.2.2.2.1 ∧ 8 + (Mc.2.2.1 + 11) + Mc.2.2.2.2.2 ≤ M.2.2.2.2.2) (hbN : b < zs_N) (hs : zs_sh g.2.2.2 b = .inr (.inr (ci, fk))) (hst : S = As.reverse ++ .ref (g.2.2.1 b) :: rest) (hcat : (rest.map fun v => v.category).sum ≤ 8)
    (hc : zm_Met g Mc σ (.ref (g.2.2.1 b) :: As) Qc) (K : ∀ (v : Option Value) (τ : zs_S), Qc v τ → zw_W g M k (pc + 3) L (v.toList ++ rest) τ) : zw_W g M k pc L S σ := by
  obtain ⟨p, l, e, R, s, m, args, below, meth, cd, cells, slots, Q, A⟩ := k
  obtain ⟨hx, hb, hml, hown, hts, hK, hA, hf1, hf2, hc1, hc2, hN⟩ := C
  obtain ⟨m1, m2, m3, m4, m5⟩ := hM
  obtain ⟨q, l1, l2, l3, l4, l5⟩ := hL
  intro H locs ls hP hS hl
  have hrecv := va_recv hK hP l1 (zs_obj hbN hs)
  rw [l2] at hrecv
  have hr := va_runV (C := Mc.1.cls) (R := R) (locs := locs) (cells := cells) (slots := slots) (below := below) (meth := meth) (e := e) (p := p) (As := As) (rest := rest) (g := F0 m pc ls S) (own := M.1.cls) (nL := M.2.2.1) (cc := M.2.1) (c := cd) (H := H) ⟨hx, hb, hml, hown, hts⟩ (hc l)
    ⟨callB_of n hts (zl_good m1) rfl rfl rfl (hts _ m2) (hts _ l3) ⟨m3, m4, m5⟩ ⟨Nat.le_trans hdep.1 hf1, Nat.le_trans hdep.2 hf2⟩, hts _ l4, hts _ l5⟩
    ⟨zc_blind, hrecv, fun U hU hW => ⟨rfl, by rw [hU]; exact hP, va_K.moved hW.alike hK, ⟨hA.1, fun _ _ => trivial⟩, va_Nw.warmM hW hN⟩⟩ rfl hn hl.1 hst (lv_room hcat) hd ⟨hc1, hc2⟩
  exact zc_go hA hr hS hl K
/-! RETURNS -/
theorem zr_iret (C : zk_ok g M k) {Q : Option Value → zs_S → Prop} (hr : zk_ret g M Q k) {x : Int32} (hd : decode M.2.1 pc = .ok (.ireturn, 1)) (ht : M.2.2.2.1 = some .int) (hq : Q (some (.int x)) σ) : zw_W g M k pc L [.int x] σ := by
  obtain ⟨p, l, e, R, s, m, args, below, meth, cd, cells, slots, Qf, A⟩ := k
  obtain ⟨hx, hb, hml, hown, hts, hK, hA, hf1, hf2, hc1, hc2, hN⟩ := C
  obtain ⟨rfl, rfl, rfl, rfl, r1, r2⟩ := hr
  intro H locs ls hP hS hl
  exact W.iret hx hb (by rw [r1, ht]) (fun t ht hW => ⟨⟨_, σ, rfl, hq, by rw [ht]; exact hP⟩, hS.F ht⟩) hS.2.2 hd
theorem zr_zret (C : zk_ok g M k) {Q : Option Value → zs_S → Prop} (hr : zk_ret g M Q k) {x : Int} (hd : decode M.2.1 pc = .ok (.ireturn, 1)) (ht : M.2.2.2.1 = some .boolean) (hx01 : x = 0 ∨ x = 1) (hq : Q (some (zv_i x)) σ) : zw_W g M k pc L [zv_i x] σ := by
  obtain ⟨p, l, e, R, s, m, args, below, meth, cd, cells, slots, Qf, A⟩ := k
  obtain ⟨hx, hb, hml, hown, hts, hK, hA, hf1, hf2, hc1, hc2, hN⟩ := C
  obtain ⟨rfl, rfl, rfl, rfl, r1, r2⟩ := hr
  intro H locs ls hP hS hl
  exact W.zret hx hb (by rw [r1, ht]) (by rcases hx01 with rfl | rfl <;> rfl) (fun t ht hW => ⟨⟨_, σ, rfl, hq, by rw [ht]; exact hP⟩, hS.F ht⟩) hS.2.2 hd
theorem zr_vret (C : zk_ok g M k) {Q : Option Value → zs_S → Prop} (hr : zk_ret g M Q k) (hd : decode M.2.1 pc = .ok (.return_, 1)) (ht : M.2.2.2.1 = none) (hq : Q none σ) : zw_W g M k pc L [] σ := by
  obtain ⟨p, l, e, R, s, m, args, below, meth, cd, cells, slots, Qf, A⟩ := k
  obtain ⟨hx, hb, hml, hown, hts, hK, hA, hf1, hf2, hc1, hc2, hN⟩ := C
  obtain ⟨rfl, rfl, rfl, rfl, r1, r2⟩ := hr
  intro H locs ls hP hS hl
  exact W.vret hx hb (by rw [r1, ht]) (fun t ht hW => ⟨⟨_, σ, rfl, hq, by rw [ht]; exact hP⟩, hS.F ht⟩) hS.2.2 hd
/-! Math.max, Math.min -/
def zl_max (own : String) (idx : Nat) : Prop := Cond.methodLink own idx Lib.Math.max.name ∈ zt_W ∧ Cond.static Lib.Math.max.name ∈ zt_W ∧ Cond.initialized "java/lang/Math" ∈ zt_W ∧ Cond.code Lib.Math.max.name Lib.Math.max.code 2 (some .int) ∈ zt_W
def zl_min (own : String) (idx : Nat) : Prop := Cond.methodLink own idx Lib.Math.min.name ∈ zt_W ∧ Cond.static Lib.Math.min.name ∈ zt_W ∧ Cond.initialized "java/lang/Math" ∈ zt_W ∧ Cond.code Lib.Math.min.name Lib.Math.min.code 2 (some .int) ∈ zt_W
theorem zr_max (C : zk_ok g M k) {idx : Nat} {x y : Int} (hd : decode M.2.1 pc = .ok (.invokestatic idx, 3)) (hL : zl_max M.1.cls idx) (hdep : 1 ≤ M.2.2.2.2.1 ∧ 21 ≤ M.2.2.2.2.2) (hcat : (S.map fun v => v.category).sum ≤ 8) (hx0 : zi_r x) (hy0 : zi_r y)
    (K : zw_W g M k (pc + 3) L (zv_i (max x y) :: S) σ) : zw_W g M k pc L (zv_i y :: zv_i x :: S) σ := by
  obtain ⟨p, l, e, R, s, m, args, below, meth, cd, cells, slots, Q, A⟩ := k
  obtain ⟨hx, hb, hml, hown, hts, hK, hA, hf1, hf2, hc1, hc2, hN⟩ := C
  obtain ⟨l1, l2, l3, l4⟩ := hL
  intro H locs ls hP hS hl
  refine va_mmax hx hb (by rw [hml, hl.1]) hown (hts _ l1) (hts _ l2) (hts _ l3) (hts _ l4) (by omega) (by omega) hc1 hc2 hd ?_
  rw [zi_max hx0 hy0]
  exact K H locs ls hP hS hl
theorem zr_min (C : zk_ok g M k) {idx : Nat} {x y : Int} (hd : decode M.2.1 pc = .ok (.invokestatic idx, 3)) (hL : zl_min M.1.cls idx) (hdep : 1 ≤ M.2.2.2.2.1 ∧ 21 ≤ M.2.2.2.2.2) (hcat : (S.map fun v => v.category).sum ≤ 8) (hx0 : zi_r x) (hy0 : zi_r y)
    (K : zw_W g M k (pc + 3) L (zv_i (min x y) :: S) σ) : zw_W g M k pc L (zv_i y :: zv_i x :: S) σ := by
  obtain ⟨p, l, e, R, s, m, args, below, meth, cd, cells, slots, Q, A⟩ := k
  obtain ⟨hx, hb, hml, hown, hts, hK, hA, hf1, hf2, hc1, hc2, hN⟩ := C
  obtain ⟨l1, l2, l3, l4⟩ := hL
  intro H locs ls hP hS hl
  refine va_mmin hx hb (by rw [hml, hl.1]) hown (hts _ l1) (hts _ l2) (hts _ l3) (hts _ l4) (by omega) (by omega) hc1 hc2 hd ?_
  rw [zi_min hx0 hy0]
  exact K H locs ls hP hS hl
end ZH
