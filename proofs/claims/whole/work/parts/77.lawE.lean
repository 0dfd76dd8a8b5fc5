/-! the world as the makings leave it -/
def si (n : Int) : zs_S := fun k j => if k = 3 then 50 else if k = 68 then 50 else if k = 4 then 1 else if k = 2 then (if j = 0 then n else 0) else if k = 1 then (if j = 4 then 22 else if j = 5 then 24 else 0) else if k = 26 then (if j = 6 then 51 else if j = 7 then 59 else 0) else if k = 51 then (if j = 0 then -1 else 0) else if k = 59 then (if j = 0 then -1 else 0) else if k = 67 then (if j = 1 then n else if j = 21 then -1 else 0) else 0
theorem si_z {n : Int} {k : Nat} {j : Int} (h : k ≠ 1 ∧ k ≠ 2 ∧ k ≠ 3 ∧ k ≠ 4 ∧ k ≠ 26 ∧ k ≠ 51 ∧ k ≠ 59 ∧ k ≠ 67 ∧ k ≠ 68) : si n k j = 0 := by
  obtain ⟨h1, h2, h3, h4, h5, h6, h7, h8, h9⟩ := h
  simp only [si, h1, h2, h3, h4, h5, h6, h7, h8, h9, if_false]
theorem si_R {n : Int} (hn : 1 ≤ n ∧ n ≤ 80) : rl_R (si n) n 22 24 51 59 := by
  have e3 : ∀ p, si n 3 p = 50 := fun p => by simp [si]
  have e68 : ∀ p, si n 68 p = 50 := fun p => by simp [si]
  have e4 : ∀ p, si n 4 p = 1 := fun p => by simp [si]
  have z673 : si n 67 3 = 0 := by simp [si]
  have z2 : si n 2 3 = 0 := by simp [si]
  have z26 : si n 26 3 = 0 := by simp [si]
  have m1 : si n 51 0 = -1 := by simp [si]
  have e52 : si n (51 + 1) 0 = 0 := si_z (by omega)
  have e55 : si n (51 + 4) 0 = 0 := si_z (by omega)
  refine ⟨⟨⟨hn.1, hn.2, by simp [si], fun p _ _ => by rw [e3]; omega, fun p _ _ => by rw [e4]; omega⟩, fun j j1 j2 => ?_, by simp [si], fun p _ _ => by rw [e68, e3], fun j j1 j2 => ?_, by rw [z673]; omega, fun k k1 k2 => ?_, fun p _ _ => ?_⟩, ⟨⟨fun j j1 j2 => ?_, by rw [z26]; omega, fun i _ _ => Or.inl (si_z (by omega)), fun k _ _ => by rw [si_z (by omega)]; omega, fun k _ _ => by rw [si_z (by omega), si_z (by omega)]; omega⟩, fun j j1 j2 => ?_, by rw [z26]; simp [si], fun i _ _ => ?_⟩, by rw [z2, z673], ⟨by rw [si_z (by omega)]; simp [si], by rw [si_z (by omega)]; omega, fun i i1 i2 => ?_, fun i i1 i2 => ?_⟩, ⟨⟨Or.inl rfl, Or.inr rfl, by decide, by simp [si], by simp [si]⟩, Or.inr rfl, Or.inl rfl, by decide, by simp [si], by simp [si]⟩, si_z (by omega), ⟨⟨?_, ?_⟩, ⟨by rw [m1]; omega, by simp [si], by rw [si_z (by omega)]; omega, by rw [si_z (by omega)]; omega, fun i i1 i2 => ?_, fun i i1 i2 => ?_⟩, fun i c i1 i2 => ?_⟩, fun x _ _ => by rw [si_z (by omega)]; omega⟩
  · rw [si_z (by omega), si_z (by omega)]
    exact ⟨by omega, by omega, fun i _ _ => by rw [si_z (by omega)]; omega⟩
  · rw [si_z (by omega), si_z (by omega), si_z (by omega), si_z (by omega)]
    exact ⟨rfl, rfl, fun t r _ _ _ _ => by rw [si_z (by omega), si_z (by omega)]⟩
  · rw [z673] at k2
    omega
  · rw [e4, z673]
    rfl
  · rw [si_z (by omega), si_z (by omega)]
    exact ⟨Or.inl rfl, by omega, fun i _ _ => by rw [si_z (by omega)]; omega⟩
  · rw [si_z (by omega), si_z (by omega), si_z (by omega), si_z (by omega), si_z (by omega), si_z (by omega)]
    exact ⟨rfl, rfl, rfl, fun r _ _ => by rw [si_z (by omega), si_z (by omega)]⟩
  · rw [si_z (by omega), si_z (by omega), si_z (by omega), si_z (by omega), si_z (by omega), si_z (by omega)]
    exact ⟨rfl, rfl, rfl⟩
  · rw [si_z (by omega)] at i2
    omega
  · rw [si_z (by omega)] at i2
    omega
  · unfold pa_n
    rw [e52, e55]
    simp [si]
  · rw [m1]
    simp [si]
  · rw [si_z (by omega)] at i2
    omega
  · rw [si_z (by omega)] at i2
    omega
  · have e : pa_n (si n) 51 = 0 := by
      unfold pa_n
      rw [e52, e55]
      simp
    rw [e] at i2
    omega
def zw_A (ar : Nat → ClassId) (n : Nat) (q q' : Nat → Nat) (fd fg fd' : Nat → Int32) (c : Nat) : va_W := (zw_M ar n q fd fg ++ zw_R ar n q' fd') ++ zw_L ar c
def zw_ad (q q' : Nat → Nat) (c : Nat) : Nat → Nat := fun k => if k < 67 then q k else if k < 90 then q' k else c
/-- where each cell of the world stands in the order of the makings -/
def zw_o : List Nat := [0, 1, 7, 22, 23, 24, 25, 2, 3, 4, 5, 6, 20, 21, 8, 9, 10, 11, 12, 13, 14, 15, 16, 17, 18, 19, 26, 27, 40, 41, 42, 43, 44, 45, 46, 47, 48, 49, 50, 51, 52, 53, 54, 55, 56, 57, 58, 59, 60, 61, 62, 63, 64, 65, 66, 28, 29, 30, 31, 32, 33, 34, 35, 36, 37, 38, 39, 67, 68, 69, 70, 71, 72, 73, 74, 75, 76, 77, 78, 79, 80, 81, 82, 83, 84, 85, 86, 87, 88, 89, 90]
def zw_i : List Nat := [0, 1, 7, 8, 9, 10, 11, 2, 14, 15, 16, 17, 18, 19, 20, 21, 22, 23, 24, 25, 12, 13, 3, 4, 5, 6, 26, 27, 55, 56, 57, 58, 59, 60, 61, 62, 63, 64, 65, 66, 28, 29, 30, 31, 32, 33, 34, 35, 36, 37, 38, 39, 40, 41, 42, 43, 44, 45, 46, 47, 48, 49, 50, 51, 52, 53, 54, 67, 68, 69, 70, 71, 72, 73, 74, 75, 76, 77, 78, 79, 80, 81, 82, 83, 84, 85, 86, 87, 88, 89, 90]
theorem zw_oi : ∀ k, k < 91 → zw_o[zw_i.getD k 0]? = some k := by decide
theorem zw_fst (ar : Nat → ClassId) (n : Nat) (q q' : Nat → Nat) (fd fg fd' : Nat → Int32) (c : Nat) : (zw_A ar n q q' fd fg fd' c).map Prod.fst = zw_o.map (zw_ad q q' c) := rfl
theorem va_P1 {D : va_G} {cl : List vw_C} {ws : va_W} {H : Heap} (h : va_P D cl ws H) {p : Nat} {e : Nat × va_E} (he : va_at D cl e H) : va_P D cl (ws.set p e) H := by
  intro k q hk
  by_cases z : p = k
  · subst z
    have hl : p < ws.length := by
      have := (List.getElem?_eq_some_iff.mp hk).1
      simpa using this
    rw [List.getElem?_set_self hl] at hk
    cases hk
    exact he
  · rw [List.getElem?_set_ne z] at hk
    exact h k q hk
theorem arrV_x {cA : ClassId} {N : Nat} {f f' : Nat → Value} (h : ∀ j, j < N → f j = f' j) : arrV cA N f = arrV cA N f' := by
  unfold arrV
  congr 1
  apply Array.ext_getElem?
  intro i
  by_cases hi : i < N
  · simp [hi, h i hi]
  · simp [hi]
theorem va_xi {D : va_G} {cl : List vw_C} {H : Heap} {a N : Nat} {cA : ClassId} {f f' : Nat → Int32} (h : va_at D cl (a, .inl (cA, N, .inl f)) H) (hf : ∀ j, j < N → f j = f' j) : va_at D cl (a, .inl (cA, N, .inl f')) H := by
  have h : H[a]? = some (arrV cA N (fun j => .int (f j))) := h
  show H[a]? = some (arrV cA N (fun j => .int (f' j)))
  rw [h, arrV_x (fun j hj => by rw [hf j hj])]
theorem va_xl {D : va_G} {cl : List vw_C} {H : Heap} {a N : Nat} {cA : ClassId} {f f' : Nat → Int64} (h : va_at D cl (a, .inl (cA, N, .inr (.inl f))) H) (hf : ∀ j, j < N → f j = f' j) : va_at D cl (a, .inl (cA, N, .inr (.inl f'))) H := by
  have h : H[a]? = some (arrV cA N (fun j => .long (f j))) := h
  show H[a]? = some (arrV cA N (fun j => .long (f' j)))
  rw [h, arrV_x (fun j hj => by rw [hf j hj])]
theorem va_xq {D : va_G} {cl : List vw_C} {H : Heap} {a N : Nat} {cA : ClassId} {f f' : Nat → Option Nat} (h : va_at D cl (a, .inl (cA, N, .inr (.inr (.inr (.inr f))))) H) (hf : ∀ j, j < N → f j = f' j) : va_at D cl (a, .inl (cA, N, .inr (.inr (.inr (.inr f'))))) H := by
  have h : H[a]? = some (arrV cA N (fun j => va_rf (f j))) := h
  show H[a]? = some (arrV cA N (fun j => va_rf (f' j)))
  rw [h, arrV_x (fun j hj => by rw [hf j hj])]
theorem zw_up (q q' : Nat → Nat) (c b : Nat) (hb : b < 50) : ∀ j, j < 6 → (va_up (va_up (va_up (va_up (va_up (va_up (fun _ => none) 0 (some (q b))) 1 (some (q (b + 2)))) 2 (some (q (b + 4)))) 3 (some (q (b + 6)))) 4 (some (q (b + 8)))) 5 (some (q (b + 10)))) j = some (zw_ad q q' c (b + 2 * j)) := by
  intro j hj
  unfold zw_ad
  rw [if_pos (by omega)]
  match j, hj with
  | 0, _ => rfl
  | 1, _ => rfl
  | 2, _ => rfl
  | 3, _ => rfl
  | 4, _ => rfl
  | 5, _ => rfl
set_option maxRecDepth 100000 in
set_option maxHeartbeats 4000000 in
theorem zw_P {D : va_G} {ar : Nat → ClassId} {n : Nat} {q q' : Nat → Nat} {fd fg fd' : Nat → Int32} {c : Nat} {H : Heap} (hP : va_P D zt_cl (zw_A ar n q q' fd fg fd' c) H) (h1 : ∀ j : Nat, j ≤ n → fd j = zi_w 50 ∧ fg j = zi_w 1) (h2 : ∀ j : Nat, j < 81 → fd' j = zi_w 50) : va_P D zt_cl (zs_W (D, ar, zw_ad q q' c, n) (si n)) H := by
  have x3 : va_at D zt_cl (q 3, .inl (ar 0, n + 1, .inl (fun _ => zi_w 50))) H := va_xi (f := fd) (hP 8 _ rfl) (fun j hj => (h1 j (by omega)).1)
  have x4 : va_at D zt_cl (q 4, .inl (ar 0, n + 1, .inl (fun _ => zi_w 1))) H := va_xi (f := fg) (hP 9 _ rfl) (fun j hj => (h1 j (by omega)).2)
  have x68 : va_at D zt_cl (q' 68, .inl (ar 0, 81, .inl (fun _ => zi_w 50))) H := va_xi (f := fd') (hP 68 _ rfl) h2
  have x7 : va_at D zt_cl (q 7, .inl (ar 3, 6, .inr (.inr (.inr (.inr (fun j => some (zw_ad q q' c (8 + 2 * j)))))))) H := va_xq (hP 2 _ rfl) (zw_up q q' c 8 (by decide))
  have x27 : va_at D zt_cl (q 27, .inl (ar 4, 6, .inr (.inr (.inr (.inr (fun j => some (zw_ad q q' c (28 + 2 * j)))))))) H := va_xq (hP 27 _ rfl) (zw_up q q' c 28 (by decide))
  have x90 : va_at D zt_cl (c, .inl (ar 2, 1, .inr (.inl (fun _ => zi_l 0)))) H := va_xl (hP 90 _ rfl) (fun j _ => by decide)
  have hP2 := va_P1 (p := 90) (va_P1 (p := 27) (va_P1 (p := 2) (va_P1 (p := 68) (va_P1 (p := 9) (va_P1 (p := 8) hP x3) x4) x68) x7) x27) x90
  have hP3 : va_P D zt_cl (zw_o.map (fun k => (zw_ad q q' c k, zs_c (D, ar, zw_ad q q' c, n) (si n) k (zs_sh n k)))) H := hP2
  refine va_P.by hP3 (fun k => zw_i.getD k 0) (fun k p hk => ?_)
  have hk9 : k < 91 := by
    have := (List.getElem?_eq_some_iff.mp hk).1
    simpa [zs_W] using this
  rw [zs_at _ _ hk9] at hk
  cases hk
  rw [List.getElem?_map, zw_oi k hk9]
  rfl
theorem zw_D {A : Nat → Prop} {D : va_G} {ar : Nat → ClassId} {n : Nat} {q q' : Nat → Nat} {fd fg fd' : Nat → Int32} {c : Nat} (hD : va_D A (zw_A ar n q q' fd fg fd' c)) : zg_ad (D, ar, zw_ad q q' c, n) A := by
  have key : ∀ k, k < 91 → ∃ e, (zw_A ar n q q' fd fg fd' c)[zw_i.getD k 0]? = some (zw_ad q q' c k, e) := by
    intro k hk
    have h : ((zw_A ar n q q' fd fg fd' c).map Prod.fst)[zw_i.getD k 0]? = some (zw_ad q q' c k) := by
      rw [zw_fst, List.getElem?_map, zw_oi k hk]
      rfl
    rw [List.getElem?_map] at h
    cases hz : (zw_A ar n q q' fd fg fd' c)[zw_i.getD k 0]? with
    | none => rw [hz] at h; cases h
    | some z =>
      rw [hz] at h
      obtain ⟨z1, z2⟩ := z
      have h9 : z1 = zw_ad q q' c k := Option.some.inj h
      exact ⟨z2, by rw [h9]⟩
  refine ⟨fun i j hi hj he => ?_, fun k hk => ?_⟩
  · obtain ⟨e1, k1⟩ := key i hi
    obtain ⟨e2, k2⟩ := key j hj
    have h := hD.1 _ _ _ _ k1 k2 he
    have z1 := zw_oi i hi
    have z2 := zw_oi j hj
    rw [h, z2] at z1
    exact (Option.some.inj z1).symm
  · obtain ⟨e1, k1⟩ := key k hk
    exact hD.2 _ _ k1
