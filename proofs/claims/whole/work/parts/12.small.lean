set_option maxRecDepth 20000 in
set_option maxHeartbeats 4000000 in
theorem l_room {g : zg_G} {k : zk_T} {Q : Option Value → zs_S → Prop} (C : zk_ok g mX10_room k) (hr : zk_ret g mX10_room Q k) (a b sq : Int) (hq : 0 ≤ sq ∧ sq ≤ 2147483647) (R : Int) (σ0 : zs_S) (hQ : Q (some (zv_i R)) σ0) : ∀ (N : Nat) (σ : zs_S) (kk : Nat) (r bit : Int), kk < N → (σ = σ0) → (0 ≤ r) → (r + (bit + bit) ≤ 16384) → (ro_k kk bit) → (ro_r sq kk r = R) → zw_W g mX10_room k 21 [(0, zv_i a), (1, zv_i b), (2, zv_i sq), (3, zv_i r), (4, zv_i bit)] [] σ := by
  intro N
  induction N with
  | zero =>
    intro σ kk r bit hN
    exact absurd hN (by omega)
  | succ N ih =>
    intro σ kk r bit hN hs h0 hb0 hb he
    subst hs
    have hbb : 0 ≤ bit := by
      rcases hb with ⟨-, h⟩ | ⟨j, -, h⟩
      · omega
      · have : (0 : Int) < 2 ^ j := Int.pow_pos (by decide)
        omega
    refine zr_iload (pc := 21) C dX10_room_21 4 rfl ?_
    refine zr_if_le (pc := 23) C 53 dX10_room_23 (by decide) (by omega) (fun h_1 => ?_) (fun h_1 => ?_)
    · have hk0 := ro_z hb h_1
      subst hk0
      refine zr_iload_n (pc := 53) C dX10_room_53 3 rfl ?_
      exact zr_iret (pc := 54) C hr dX10_room_54 rfl (by rw [show r = R from he]; exact hQ)
    · obtain ⟨j, hkj, hj⟩ := ro_e hb (by omega)
      subst hkj
      refine zr_iload_n (pc := 26) C dX10_room_26 3 rfl ?_
      refine zr_iload (pc := 27) C dX10_room_27 4 rfl ?_
      refine zr_iadd (pc := 29) C dX10_room_29 ?_
      refine zr_istore (L' := [(5, zv_i (r + bit)), (0, zv_i a), (1, zv_i b), (2, zv_i sq), (3, zv_i r), (4, zv_i bit)]) (pc := 30) C dX10_room_30 (by decide) rfl ?_
      refine zr_iload (pc := 32) C dX10_room_32 0 rfl ?_
      refine zr_iload (pc := 34) C dX10_room_34 0 rfl ?_
      refine zr_imul (pc := 36) C dX10_room_36 ?_
      refine zr_iload_n (pc := 37) C dX10_room_37 3 rfl ?_
      refine zr_icmp_gt (pc := 38) C 44 dX10_room_38 (by decide) (by exact zi_sq (by omega) (by omega)) (by omega) (fun h_2 => ?_) (fun h_2 => ?_)
      · have he2 : ro_r sq j r = R := (ro_n hj (by omega)).symm.trans he
        refine zr_iload (pc := 44) C dX10_room_44 5 rfl ?_
        refine zr_iconst (pc := 46) C dX10_room_46 ?_
        refine zr_ishr1 (pc := 47) C dX10_room_47 (by omega) (by omega) ?_
        refine zr_istore (L' := [(4, zv_i (bit / 2)), (5, zv_i (r + bit)), (0, zv_i a), (1, zv_i b), (2, zv_i sq), (3, zv_i r)]) (pc := 48) C dX10_room_48 (by decide) rfl ?_
        refine zr_goto (pc := 50) C 21 dX10_room_50 (by decide) ?_
        refine zr_sub [2, 3, 4, 5, 0] rfl ?_
        exact ih σ j (r) (bit / 2) (by omega) rfl (by omega) (by omega) (ro_h hj) he2
      · have he2 : ro_r sq j (r + bit) = R := (ro_y hj (by omega)).symm.trans he
        refine zr_iload (pc := 41) C dX10_room_41 0 rfl ?_
        refine zr_istore_n (L' := [(3, zv_i (r + bit)), (5, zv_i (r + bit)), (0, zv_i a), (1, zv_i b), (2, zv_i sq), (4, zv_i bit)]) (pc := 43) C dX10_room_43 (by decide) rfl ?_
        refine zr_iload (pc := 44) C dX10_room_44 5 rfl ?_
        refine zr_iconst (pc := 46) C dX10_room_46 ?_
        refine zr_ishr1 (pc := 47) C dX10_room_47 (by omega) (by omega) ?_
        refine zr_istore (L' := [(4, zv_i (bit / 2)), (3, zv_i (r + bit)), (5, zv_i (r + bit)), (0, zv_i a), (1, zv_i b), (2, zv_i sq)]) (pc := 48) C dX10_room_48 (by decide) rfl ?_
        refine zr_goto (pc := 50) C 21 dX10_room_50 (by decide) ?_
        refine zr_sub [3, 4, 5, 1, 0] rfl ?_
        exact ih σ j (r + bit) (bit / 2) (by omega) rfl (by omega) (by omega) (ro_h hj) he2

set_option maxRecDepth 20000 in
set_option maxHeartbeats 4000000 in
theorem m_room (g : zg_G) (σ : zs_S) (a b : Int) (ha : 0 ≤ a ∧ a ≤ 9000) (hb : 0 ≤ b ∧ b ≤ 9000) : zm_Met g mX10_room σ [zv_i a, zv_i b] (fun v τ => v = some (zv_i (ro_m a b)) ∧ σ = τ) := by
  refine zm_of (by decide +kernel) (Nat.le_of_ble_eq_true rfl) ?_
  intro k C hr
  show zw_W g mX10_room k 0 [(0, zv_i a), (1, zv_i b)] [] σ
  have ha2 := zi_sq (x := a) (by omega) (by omega)
  have hb2 := zi_sq (x := b) (by omega) (by omega)
  have ha0 : 0 ≤ a * a := Int.mul_nonneg ha.1 ha.1
  have hb0 : 0 ≤ b * b := Int.mul_nonneg hb.1 hb.1
  have ha3 : a * a ≤ 9000 * 9000 := Int.mul_le_mul ha.2 ha.2 ha.1 (by decide)
  have hb3 : b * b ≤ 9000 * 9000 := Int.mul_le_mul hb.2 hb.2 hb.1 (by decide)
  refine zr_iload_n (pc := 0) C dX10_room_0 0 rfl ?_
  refine zr_iload_n (pc := 1) C dX10_room_1 0 rfl ?_
  refine zr_imul (pc := 2) C dX10_room_2 ?_
  refine zr_iload_n (pc := 3) C dX10_room_3 1 rfl ?_
  refine zr_iload_n (pc := 4) C dX10_room_4 1 rfl ?_
  refine zr_imul (pc := 5) C dX10_room_5 ?_
  refine zr_isub (pc := 6) C dX10_room_6 ?_
  refine zr_istore_n (L' := [(2, zv_i ((a * a) - (b * b))), (0, zv_i a), (1, zv_i b)]) (pc := 7) C dX10_room_7 (by decide) rfl ?_
  refine zr_iload_n (pc := 8) C dX10_room_8 0 rfl ?_
  refine zr_if_ge (pc := 9) C 14 dX10_room_9 (by decide) (by omega) (fun h_1 => ?_) (fun h_1 => ?_)
  · refine zr_iconst (pc := 14) C dX10_room_14 ?_
    refine zr_istore_n (L' := [(3, zv_i 0), (2, zv_i ((a * a) - (b * b))), (0, zv_i a), (1, zv_i b)]) (pc := 15) C dX10_room_15 (by decide) rfl ?_
    refine zr_sipush (pc := 16) C dX10_room_16 (by decide) ?_
    refine zr_istore (L' := [(4, zv_i 8192), (3, zv_i 0), (2, zv_i ((a * a) - (b * b))), (0, zv_i a), (1, zv_i b)]) (pc := 19) C dX10_room_19 (by decide) rfl ?_
    refine zr_sub [3, 4, 2, 1, 0] rfl ?_
    exact l_room C hr a b (a * a - b * b) (by omega) (ro_m a b) σ ⟨rfl, rfl⟩ 15 σ 14 0 8192 (by omega) rfl (by omega) (by omega) (Or.inr ⟨13, rfl, by decide⟩) (by unfold ro_m; rw [if_neg (by omega)])
  · refine zr_iconst (pc := 12) C dX10_room_12 ?_
    exact zr_iret (pc := 13) C hr dX10_room_13 rfl (⟨zq_i (by unfold ro_m; rw [if_pos (by omega)]), rfl⟩)

set_option maxRecDepth 20000 in
set_option maxHeartbeats 4000000 in
theorem l_fill {g : zg_G} {k : zk_T} {Q : Option Value → zs_S → Prop} (C : zk_ok g mJ7_fill_53178 k) (hr : zk_ret g mJ7_fill_53178 Q k) (c len : Nat) (x : Int) (hc : c < zs_N) (hs : zs_sh g.2.2.2 c = .inl (0, len)) (hn : (len : Int) ≤ 2147483647) (σ0 : zs_S) (hQ : ∀ τ, (∀ i : Int, 0 ≤ i → i < len → τ c i = x) → zf_x σ0 τ [c] → Q none τ) : ∀ (N : Nat) (σ : zs_S) (a : Int), (len - a).toNat < N → (0 ≤ a ∧ a ≤ len) → (zf_x σ0 σ [c]) → (∀ i : Int, 0 ≤ i → i < a → σ c i = x) → zw_W g mJ7_fill_53178 k 5 [(0, .ref (g.2.2.1 (c))), (1, zv_i x), (2, zv_i a), (3, zv_i ((len : Int)))] [] σ := by
  intro N
  induction N with
  | zero =>
    intro σ a hN
    exact absurd hN (by omega)
  | succ N ih =>
    intro σ a hN h0 hf hx
    refine zr_iload_n (pc := 5) C dJ7_fill_53178_5 2 rfl ?_
    refine zr_iload_n (pc := 6) C dJ7_fill_53178_6 3 rfl ?_
    refine zr_icmp_ge (pc := 7) C 20 dJ7_fill_53178_7 (by decide) (by omega) (by omega) (fun h_1 => ?_) (fun h_1 => ?_)
    · exact zr_vret (pc := 20) C hr dJ7_fill_53178_20 rfl (hQ σ (fun i h1 h2 => hx i h1 (by omega)) hf)
    · refine zr_aload_n (pc := 10) C dJ7_fill_53178_10 0 rfl ?_
      refine zr_iload_n (pc := 11) C dJ7_fill_53178_11 2 rfl ?_
      refine zr_iload_n (pc := 12) C dJ7_fill_53178_12 1 rfl ?_
      refine zr_iastore (pc := 13) C dJ7_fill_53178_13 hc hs (by omega) (by exact hn) (fun τ_2 e_3 => ?_)
      refine zr_iinc (L' := [(2, zv_i (a + 1)), (0, .ref (g.2.2.1 (c))), (1, zv_i x), (3, zv_i ((len : Int)))]) (pc := 14) C dJ7_fill_53178_14 2 rfl (by decide) rfl ?_
      refine zr_goto (pc := 17) C 5 dJ7_fill_53178_17 (by decide) ?_
      refine zr_sub [1, 2, 0, 3] rfl ?_
      exact ih τ_2 (a + 1) (by omega) (by omega) (zf_p hf e_3 (by simp)) (fun i h1 h2 => by
        rw [e_3, zs_put_at]
        by_cases hi : i = a
        · rw [if_pos hi]
        · rw [if_neg hi]; exact hx i h1 (by omega))

set_option maxRecDepth 20000 in
set_option maxHeartbeats 4000000 in
theorem m_fill (g : zg_G) (σ : zs_S) (c len : Nat) (x : Int) (hc : c < zs_N) (hs : zs_sh g.2.2.2 c = .inl (0, len)) (hn : (len : Int) ≤ 2147483647) : zm_Met g mJ7_fill_53178 σ [.ref (g.2.2.1 (c)), zv_i x] (fun v τ => v = none ∧ (∀ i : Int, 0 ≤ i → i < len → τ c i = x) ∧ zf_x σ τ [c]) := by
  refine zm_of (by decide +kernel) (Nat.le_of_ble_eq_true rfl) ?_
  intro k C hr
  show zw_W g mJ7_fill_53178 k 0 [(0, .ref (g.2.2.1 (c))), (1, zv_i x)] [] σ
  refine zr_iconst (pc := 0) C dJ7_fill_53178_0 ?_
  refine zr_istore_n (L' := [(2, zv_i 0), (0, .ref (g.2.2.1 (c))), (1, zv_i x)]) (pc := 1) C dJ7_fill_53178_1 (by decide) rfl ?_
  refine zr_aload_n (pc := 2) C dJ7_fill_53178_2 1 rfl ?_
  refine zr_alen (pc := 3) C (len : Int) dJ7_fill_53178_3 hc hs (by decide) rfl ?_
  refine zr_istore_n (L' := [(3, zv_i ((len : Int))), (2, zv_i 0), (0, .ref (g.2.2.1 (c))), (1, zv_i x)]) (pc := 4) C dJ7_fill_53178_4 (by decide) rfl ?_
  refine zr_sub [2, 3, 1, 0] rfl ?_
  exact l_fill C hr c len x hc hs hn σ (fun τ h1 h2 => ⟨rfl, h1, h2⟩) (len + 1) σ 0 (by omega) (by omega) (zf_r σ [c]) (fun i h1 h2 => absurd h2 (by omega))

set_option maxRecDepth 20000 in
set_option maxHeartbeats 4000000 in
theorem m_becomeK (g : zg_G) (σ : zs_S) (j x y : Int) (hj : 0 ≤ j ∧ j < 6) : zm_Met g mX5_become σ [.ref (g.2.2.1 (8 + 2 * j.toNat)), zv_i x, zv_i y] (fun v τ => v = none ∧ τ (8 + 2 * j.toNat) 0 = x ∧ τ (8 + 2 * j.toNat) 1 = y ∧ (∀ i : Int, 0 ≤ i → i < 57 → τ (9 + 2 * j.toNat) i = 0) ∧ zf_x σ τ [8 + 2 * j.toNat, 9 + 2 * j.toNat]) := by
  refine zm_of (by decide +kernel) (Nat.le_of_ble_eq_true rfl) ?_
  intro k C hr
  show zw_W g mX5_become k 0 [(0, .ref (g.2.2.1 (8 + 2 * j.toNat))), (1, zv_i x), (2, zv_i y)] [] σ
  refine zr_aload_n (pc := 0) C dX5_become_0 0 rfl ?_
  refine zr_iload_n (pc := 1) C dX5_become_1 1 rfl ?_
  refine zr_put (pc := 2) C 0 0 rfl dX5_become_2 pX5_15 (hn_kind hj) (hs_kind hj) rfl (fun τ_1 e_2 => ?_)
  refine zr_aload_n (pc := 5) C dX5_become_5 0 rfl ?_
  refine zr_iload_n (pc := 6) C dX5_become_6 2 rfl ?_
  refine zr_put (pc := 7) C 1 1 rfl dX5_become_7 pX5_19 (hn_kind hj) (hs_kind hj) rfl (fun τ_3 e_4 => ?_)
  refine zr_aload_n (pc := 10) C dX5_become_10 0 rfl ?_
  refine zr_get (v := .ref (g.2.2.1 (9 + 2 * j.toNat))) (pc := 11) C 2 (some (some (9 + 2 * j.toNat))) dX5_become_11 fX5_9 (hn_kind hj) (hs_kind hj) rfl rfl ?_
  refine zr_iconst (pc := 14) C dX5_become_14 ?_
  refine zr_callS (As := [.ref (g.2.2.1 (9 + 2 * j.toNat)), zv_i 0]) (rest := []) (pc := 15) C dX5_become_15 kJ7_fill_53178 sX5_22 rfl (by decide) rfl (Nat.le_of_ble_eq_true rfl) (m_fill g τ_3 (9 + 2 * j.toNat) 57 0 (hn_kindP hj) (hs_kindP hj) (by decide)) (fun v_ τ_ h_ => ?_)
  obtain ⟨rfl, h_6⟩ := h_
  generalize τ_ = τ_5 at h_6 ⊢
  show zw_W g mX5_become k 18 [(0, .ref (g.2.2.1 (8 + 2 * j.toNat))), (1, zv_i x), (2, zv_i y)] [] τ_5
  exact zr_vret (pc := 18) C hr dX5_become_18 rfl (⟨rfl, by rw [h_6.2 _ (by simp), e_4, zs_put_off (by decide), e_2, zs_put_self], by rw [h_6.2 _ (by simp), e_4, zs_put_self], fun i a b => h_6.1 i a (by omega), fun c hc i => by rw [h_6.2 c (fun z => hc (by simp at z ⊢; omega)) i, e_4, zs_put_ne (fun z => hc (by simp at z ⊢; omega)), e_2, zs_put_ne (fun z => hc (by simp at z ⊢; omega))]⟩)

set_option maxRecDepth 20000 in
set_option maxHeartbeats 4000000 in
theorem m_becomeS (g : zg_G) (σ : zs_S) (j x y : Int) (hj : 0 ≤ j ∧ j < 6) : zm_Met g mX0_become σ [.ref (g.2.2.1 (28 + 2 * j.toNat)), zv_i x, zv_i y] (fun v τ => v = none ∧ τ (28 + 2 * j.toNat) 0 = x ∧ τ (28 + 2 * j.toNat) 1 = y ∧ (∀ i : Int, 0 ≤ i → i < 3 → τ (29 + 2 * j.toNat) i = 0) ∧ zf_x σ τ [28 + 2 * j.toNat, 29 + 2 * j.toNat]) := by
  refine zm_of (by decide +kernel) (Nat.le_of_ble_eq_true rfl) ?_
  intro k C hr
  show zw_W g mX0_become k 0 [(0, .ref (g.2.2.1 (28 + 2 * j.toNat))), (1, zv_i x), (2, zv_i y)] [] σ
  refine zr_aload_n (pc := 0) C dX0_become_0 0 rfl ?_
  refine zr_iload_n (pc := 1) C dX0_become_1 1 rfl ?_
  refine zr_put (pc := 2) C 0 0 rfl dX0_become_2 pX0_15 (hn_size hj) (hs_size hj) rfl (fun τ_1 e_2 => ?_)
  refine zr_aload_n (pc := 5) C dX0_become_5 0 rfl ?_
  refine zr_iload_n (pc := 6) C dX0_become_6 2 rfl ?_
  refine zr_put (pc := 7) C 1 1 rfl dX0_become_7 pX0_19 (hn_size hj) (hs_size hj) rfl (fun τ_3 e_4 => ?_)
  refine zr_aload_n (pc := 10) C dX0_become_10 0 rfl ?_
  refine zr_get (v := .ref (g.2.2.1 (29 + 2 * j.toNat))) (pc := 11) C 2 (some (some (29 + 2 * j.toNat))) dX0_become_11 fX0_9 (hn_size hj) (hs_size hj) rfl rfl ?_
  refine zr_iconst (pc := 14) C dX0_become_14 ?_
  refine zr_callS (As := [.ref (g.2.2.1 (29 + 2 * j.toNat)), zv_i 0]) (rest := []) (pc := 15) C dX0_become_15 kJ7_fill_53178 sX0_22 rfl (by decide) rfl (Nat.le_of_ble_eq_true rfl) (m_fill g τ_3 (29 + 2 * j.toNat) 3 0 (hn_sizeP hj) (hs_sizeP hj) (by decide)) (fun v_ τ_ h_ => ?_)
  obtain ⟨rfl, h_6⟩ := h_
  generalize τ_ = τ_5 at h_6 ⊢
  show zw_W g mX0_become k 18 [(0, .ref (g.2.2.1 (28 + 2 * j.toNat))), (1, zv_i x), (2, zv_i y)] [] τ_5
  exact zr_vret (pc := 18) C hr dX0_become_18 rfl (⟨rfl, by rw [h_6.2 _ (by simp), e_4, zs_put_off (by decide), e_2, zs_put_self], by rw [h_6.2 _ (by simp), e_4, zs_put_self], fun i a b => h_6.1 i a (by omega), fun c hc i => by rw [h_6.2 c (fun z => hc (by simp at z ⊢; omega)) i, e_4, zs_put_ne (fun z => hc (by simp at z ⊢; omega)), e_2, zs_put_ne (fun z => hc (by simp at z ⊢; omega))]⟩)
