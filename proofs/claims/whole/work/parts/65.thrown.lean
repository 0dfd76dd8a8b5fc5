abbrev mY_log : zm_T := (yX10_log, cX10_log, 4, some .int, 6, 120)
abbrev mY_saw : zm_T := (yX10_saw, cX10_saw, 3, some .int, 6, 150)
abbrev mY_board : zm_T := (yX10_board, cX10_board, 4, some .int, 6, 120)
theorem zx_l : Cond.classLink RX10 97 zx_E ∈ zt_W := (zt_mem 495 (by decide +kernel) rfl)
theorem zx_i : Cond.initialized zx_E ∈ zt_W := (zt_mem 48 (by decide +kernel) rfl)
set_option maxRecDepth 20000 in
set_option maxHeartbeats 4000000 in
theorem x_log (g : zg_G) (σ : zs_S) (a c : Int) (har : zi_r a) (hcr : zi_r c) (b : Nat) (hb : zs_q b) (hb4 : σ 1 4 = b) (hc : 0 ≤ σ b 0 ∧ σ b 0 ≤ 40) : zx_Met g mY_log σ [.ref (g.2.2.1 0), zv_i a, zv_i c] (fun v τ => ((0 ≤ a ∧ a ≤ σ b 0 - 1) ∧ (0 ≤ c ∧ c ≤ 5)) ∧ v = some (zv_i (σ (b + 1) (a * 6 + c))) ∧ σ = τ) (¬ ((0 ≤ a ∧ a ≤ σ b 0 - 1) ∧ (0 ≤ c ∧ c ≤ 5))) := by
  refine zx_of (by decide +kernel) (Nat.le_of_ble_eq_true rfl) ?_
  intro k C hr
  show zw_W g mY_log k 0 [(0, .ref (g.2.2.1 0)), (1, zv_i a), (2, zv_i c)] [] σ
  refine zr_aload_n (pc := 0) C dX10_log_0 0 rfl ?_
  refine zr_get (v := .ref (g.2.2.1 1)) (pc := 1) C 0 (some (some 1)) dX10_log_1 fX10_18 (by decide) (hs_0 _) rfl rfl ?_
  refine zr_get (v := .ref (g.2.2.1 (σ 1 4).toNat)) (pc := 4) C 4 (some none) dX10_log_4 fX10_88 (by decide) (hs_1 _) rfl rfl ?_
  rw [hb4]
  show zw_W g mY_log k 7 [(0, .ref (g.2.2.1 0)), (1, zv_i a), (2, zv_i c)] [.ref (g.2.2.1 (b))] σ
  refine zr_astore_n (L' := [(3, .ref (g.2.2.1 (b))), (0, .ref (g.2.2.1 0)), (1, zv_i a), (2, zv_i c)]) (pc := 7) C dX10_log_7 (by decide) rfl ?_
  refine zr_iload_n (pc := 8) C dX10_log_8 2 rfl ?_
  refine zr_iconst (pc := 9) C dX10_log_9 ?_
  refine zr_aload_n (pc := 10) C dX10_log_10 0 rfl ?_
  refine zr_get (v := zv_i (σ b 0)) (pc := 11) C 0 none dX10_log_11 fX10_92 (hn_cut hb) (hs_cut hb) rfl rfl ?_
  refine zr_iconst (pc := 14) C dX10_log_14 ?_
  refine zr_isub (pc := 15) C dX10_log_15 ?_
  refine zr_callS (As := [zv_i a, zv_i 0, zv_i ((σ b 0) - 1)]) (rest := []) (pc := 16) C dX10_log_16 kX10_within sX10_11 rfl (by decide) rfl (Nat.le_of_ble_eq_true rfl) (m_within g σ a 0 ((σ b 0) - 1) (by omega) (by omega) (by omega)) (fun v_ τ_ h_ => ?_)
  obtain ⟨rfl, rfl⟩ := h_
  show zw_W g mY_log k 19 [(3, .ref (g.2.2.1 (b))), (0, .ref (g.2.2.1 0)), (1, zv_i a), (2, zv_i c)] [zv_i (zi_b (0 ≤ a ∧ a ≤ ((σ b 0) - 1)))] σ
  refine zr_if_eq_b (pc := 19) C 31 dX10_log_19 (by decide) (fun h_1 => ?_) (fun h_1 => ?_)
  · exact zx_throw (pc := 31) C hr rfl rfl (fun z => h_1 z.1) ⟨Nat.le_of_ble_eq_true rfl, Nat.le_of_ble_eq_true rfl⟩ dX10_log_31 dX10_log_34 dX10_log_35 dX10_log_38 zx_l zx_i
  · refine zr_iload_n (pc := 22) C dX10_log_22 3 rfl ?_
    refine zr_iconst (pc := 23) C dX10_log_23 ?_
    refine zr_iconst (pc := 24) C dX10_log_24 ?_
    refine zr_callS (As := [zv_i c, zv_i 0, zv_i 5]) (rest := []) (pc := 25) C dX10_log_25 kX10_within sX10_11 rfl (by decide) rfl (Nat.le_of_ble_eq_true rfl) (m_within g σ c 0 5 (by omega) (by omega) (by omega)) (fun v_ τ_ h_ => ?_)
    obtain ⟨rfl, rfl⟩ := h_
    show zw_W g mY_log k 28 [(3, .ref (g.2.2.1 (b))), (0, .ref (g.2.2.1 0)), (1, zv_i a), (2, zv_i c)] [zv_i (zi_b (0 ≤ c ∧ c ≤ 5))] σ
    refine zr_if_ne_b (pc := 28) C 39 dX10_log_28 (by decide) (fun h_2 => ?_) (fun h_2 => ?_)
    · refine zr_aload_n (pc := 39) C dX10_log_39 0 rfl ?_
      refine zr_iload_n (pc := 40) C dX10_log_40 2 rfl ?_
      refine zr_iload_n (pc := 41) C dX10_log_41 3 rfl ?_
      refine zr_callV (As := [zv_i a, zv_i c]) (rest := []) (b := b) (pc := 42) C dX10_log_42 kX3_fact vX10_100 rfl (by decide) (hn_cut hb) (hs_cut hb) rfl (Nat.le_of_ble_eq_true rfl) (m_fact g σ b hb a c (by omega)) (fun v_ τ_ h_ => ?_)
      obtain ⟨rfl, rfl⟩ := h_
      show zw_W g mY_log k 45 [(3, .ref (g.2.2.1 (b))), (0, .ref (g.2.2.1 0)), (1, zv_i a), (2, zv_i c)] [zv_i (σ (b + 1) (a * 6 + c))] σ
      exact zx_iret (pc := 45) C hr dX10_log_45 rfl (⟨⟨h_1, h_2⟩, rfl, rfl⟩)
    · exact zx_throw (pc := 31) C hr rfl rfl (fun z => h_2 z.2) ⟨Nat.le_of_ble_eq_true rfl, Nat.le_of_ble_eq_true rfl⟩ dX10_log_31 dX10_log_34 dX10_log_35 dX10_log_38 zx_l zx_i

set_option maxRecDepth 20000 in
set_option maxHeartbeats 4000000 in
theorem x_saw (g : zg_G) (σ : zs_S) (a : Int) (har : zi_r a) (b : Nat) (hb : zs_q b) (hb4 : σ 1 4 = b) (hc : 0 ≤ σ b 0 ∧ σ b 0 ≤ 40) (p u : Nat) (hp : zs_p p) (hu : zs_p u) (hpu : u ≠ p) (h6 : σ 26 6 = u) (h7 : σ 26 7 = p) (hI : sw_I σ) (hJ : ch_J σ) (hfa : ∀ i : Int, 0 ≤ i → i < σ b 0 → (50 ≤ σ (b + 1) (i * 6 + 2) ∧ σ (b + 1) (i * 6 + 2) ≤ 900) ∧ (1 ≤ σ (b + 1) (i * 6 + 4) ∧ σ (b + 1) (i * 6 + 4) ≤ 3)) : zx_Met g mY_saw σ [.ref (g.2.2.1 0), zv_i a] (fun v τ => (0 ≤ a ∧ a ≤ σ b 0 - 1) ∧ ∃ h x l1 l2 u' p', v = some (zv_i x) ∧ sw_O σ τ (10 * σ (b + 1) (a * 6 + 2)) (σ (b + 1) (a * 6 + 4)) h x l1 l2 u' p') (¬ (0 ≤ a ∧ a ≤ σ b 0 - 1)) := by
  refine zx_of (by decide +kernel) (Nat.le_of_ble_eq_true rfl) ?_
  intro k C hr
  show zw_W g mY_saw k 0 [(0, .ref (g.2.2.1 0)), (1, zv_i a)] [] σ
  refine zr_aload_n (pc := 0) C dX10_saw_0 0 rfl ?_
  refine zr_get (v := .ref (g.2.2.1 1)) (pc := 1) C 0 (some (some 1)) dX10_saw_1 fX10_18 (by decide) (hs_0 _) rfl rfl ?_
  refine zr_get (v := .ref (g.2.2.1 (σ 1 4).toNat)) (pc := 4) C 4 (some none) dX10_saw_4 fX10_88 (by decide) (hs_1 _) rfl rfl ?_
  rw [hb4]
  show zw_W g mY_saw k 7 [(0, .ref (g.2.2.1 0)), (1, zv_i a)] [.ref (g.2.2.1 (b))] σ
  refine zr_astore_n (L' := [(2, .ref (g.2.2.1 (b))), (0, .ref (g.2.2.1 0)), (1, zv_i a)]) (pc := 7) C dX10_saw_7 (by decide) rfl ?_
  refine zr_iload_n (pc := 8) C dX10_saw_8 2 rfl ?_
  refine zr_iconst (pc := 9) C dX10_saw_9 ?_
  refine zr_aload_n (pc := 10) C dX10_saw_10 0 rfl ?_
  refine zr_get (v := zv_i (σ b 0)) (pc := 11) C 0 none dX10_saw_11 fX10_92 (hn_cut hb) (hs_cut hb) rfl rfl ?_
  refine zr_iconst (pc := 14) C dX10_saw_14 ?_
  refine zr_isub (pc := 15) C dX10_saw_15 ?_
  refine zr_callS (As := [zv_i a, zv_i 0, zv_i ((σ b 0) - 1)]) (rest := []) (pc := 16) C dX10_saw_16 kX10_within sX10_11 rfl (by decide) rfl (Nat.le_of_ble_eq_true rfl) (m_within g σ a 0 ((σ b 0) - 1) (by omega) (by omega) (by omega)) (fun v_ τ_ h_ => ?_)
  obtain ⟨rfl, rfl⟩ := h_
  show zw_W g mY_saw k 19 [(2, .ref (g.2.2.1 (b))), (0, .ref (g.2.2.1 0)), (1, zv_i a)] [zv_i (zi_b (0 ≤ a ∧ a ≤ ((σ b 0) - 1)))] σ
  refine zr_if_ne_b (pc := 19) C 30 dX10_saw_19 (by decide) (fun h_1 => ?_) (fun h_1 => ?_)
  · have fa := hfa a (by omega) (by omega)
    refine zr_aload_n (pc := 30) C dX10_saw_30 1 rfl ?_
    refine zr_get (v := .ref (g.2.2.1 26)) (pc := 31) C 3 (some (some 26)) dX10_saw_31 fX10_35 (by decide) (hs_0 _) rfl rfl ?_
    refine zr_aload_n (pc := 34) C dX10_saw_34 0 rfl ?_
    refine zr_iload_n (pc := 35) C dX10_saw_35 2 rfl ?_
    refine zr_iconst (pc := 36) C dX10_saw_36 ?_
    refine zr_callV (As := [zv_i a, zv_i 2]) (rest := [.ref (g.2.2.1 26)]) (b := b) (pc := 37) C dX10_saw_37 kX3_fact vX10_100 rfl (by decide) (hn_cut hb) (hs_cut hb) rfl (Nat.le_of_ble_eq_true rfl) (m_fact g σ b hb a 2 (by omega)) (fun v_ τ_ h_ => ?_)
    obtain ⟨rfl, rfl⟩ := h_
    show zw_W g mY_saw k 40 [(2, .ref (g.2.2.1 (b))), (0, .ref (g.2.2.1 0)), (1, zv_i a)] [zv_i (σ (b + 1) (a * 6 + 2)), .ref (g.2.2.1 26)] σ
    refine zr_aload_n (pc := 40) C dX10_saw_40 0 rfl ?_
    refine zr_iload_n (pc := 41) C dX10_saw_41 2 rfl ?_
    refine zr_iconst (pc := 42) C dX10_saw_42 ?_
    refine zr_callV (As := [zv_i a, zv_i 4]) (rest := [zv_i (σ (b + 1) (a * 6 + 2)), .ref (g.2.2.1 26)]) (b := b) (pc := 43) C dX10_saw_43 kX3_fact vX10_100 rfl (by decide) (hn_cut hb) (hs_cut hb) rfl (Nat.le_of_ble_eq_true rfl) (m_fact g σ b hb a 4 (by omega)) (fun v_ τ_ h_ => ?_)
    obtain ⟨rfl, rfl⟩ := h_
    show zw_W g mY_saw k 46 [(2, .ref (g.2.2.1 (b))), (0, .ref (g.2.2.1 0)), (1, zv_i a)] [zv_i (σ (b + 1) (a * 6 + 4)), zv_i (σ (b + 1) (a * 6 + 2)), .ref (g.2.2.1 26)] σ
    refine zr_callV (As := [zv_i (σ (b + 1) (a * 6 + 2)), zv_i (σ (b + 1) (a * 6 + 4))]) (rest := []) (b := 26) (pc := 46) C dX10_saw_46 kX8_sawThrough vX10_129 rfl (by decide) (by decide) (hs_26 _) rfl (Nat.le_of_ble_eq_true rfl) (m_sawThrough g σ p u hp hu hpu (σ (b + 1) (a * 6 + 2)) (σ (b + 1) (a * 6 + 4)) (by omega) (by omega) h6 h7 hI hJ) (fun v_ τ_ h_ => ?_)
    obtain ⟨ht0, x0, l1, l2, u1, p1, rfl, h_2⟩ := h_
    show zw_W g mY_saw k 49 [(2, .ref (g.2.2.1 (b))), (0, .ref (g.2.2.1 0)), (1, zv_i a)] [zv_i x0] τ_
    exact zx_iret (pc := 49) C hr dX10_saw_49 rfl (⟨h_1, ht0, x0, l1, l2, u1, p1, rfl, h_2⟩)
  · exact zx_throw (pc := 22) C hr rfl rfl (h_1) ⟨Nat.le_of_ble_eq_true rfl, Nat.le_of_ble_eq_true rfl⟩ dX10_saw_22 dX10_saw_25 dX10_saw_26 dX10_saw_29 zx_l zx_i

set_option maxRecDepth 20000 in
set_option maxHeartbeats 4000000 in
theorem x_board (g : zg_G) (σ : zs_S) (a c : Int) (har : zi_r a) (hcr : zi_r c) (u : Nat) (hu : zs_p u) (h6 : σ 26 6 = u) (hI : pa_I σ u) (hn : 0 ≤ pa_n σ u ∧ pa_n σ u ≤ 360) : zx_Met g mY_board σ [.ref (g.2.2.1 0), zv_i a, zv_i c] (fun v τ => ((0 ≤ a ∧ a ≤ pa_n σ u - 1) ∧ (0 ≤ c ∧ c ≤ 3)) ∧ v = some (zv_i (pa_F σ u a c)) ∧ σ = τ) (¬ ((0 ≤ a ∧ a ≤ pa_n σ u - 1) ∧ (0 ≤ c ∧ c ≤ 3))) := by
  refine zx_of (by decide +kernel) (Nat.le_of_ble_eq_true rfl) ?_
  intro k C hr
  show zw_W g mY_board k 0 [(0, .ref (g.2.2.1 0)), (1, zv_i a), (2, zv_i c)] [] σ
  refine zr_aload_n (pc := 0) C dX10_board_0 0 rfl ?_
  refine zr_get (v := .ref (g.2.2.1 26)) (pc := 1) C 3 (some (some 26)) dX10_board_1 fX10_35 (by decide) (hs_0 _) rfl rfl ?_
  refine zr_get (v := .ref (g.2.2.1 (σ 26 6).toNat)) (pc := 4) C 6 (some none) dX10_board_4 fX10_132 (by decide) (hs_26 _) rfl rfl ?_
  rw [h6]
  show zw_W g mY_board k 7 [(0, .ref (g.2.2.1 0)), (1, zv_i a), (2, zv_i c)] [.ref (g.2.2.1 (u))] σ
  refine zr_astore_n (L' := [(3, .ref (g.2.2.1 (u))), (0, .ref (g.2.2.1 0)), (1, zv_i a), (2, zv_i c)]) (pc := 7) C dX10_board_7 (by decide) rfl ?_
  refine zr_iload_n (pc := 8) C dX10_board_8 2 rfl ?_
  refine zr_iconst (pc := 9) C dX10_board_9 ?_
  refine zr_aload_n (pc := 10) C dX10_board_10 0 rfl ?_
  refine zr_callV (As := []) (rest := [zv_i 0, zv_i a]) (b := u) (pc := 11) C dX10_board_11 kX7_count vX10_136 rfl (by decide) (hn_pat hu) (hs_pat hu) rfl (Nat.le_of_ble_eq_true rfl) (m_count g σ u hu (by exact hI)) (fun v_ τ_ h_ => ?_)
  obtain ⟨rfl, rfl⟩ := h_
  show zw_W g mY_board k 14 [(3, .ref (g.2.2.1 (u))), (0, .ref (g.2.2.1 0)), (1, zv_i a), (2, zv_i c)] [zv_i (pa_n σ u), zv_i 0, zv_i a] σ
  refine zr_iconst (pc := 14) C dX10_board_14 ?_
  refine zr_isub (pc := 15) C dX10_board_15 ?_
  refine zr_callS (As := [zv_i a, zv_i 0, zv_i ((pa_n σ u) - 1)]) (rest := []) (pc := 16) C dX10_board_16 kX10_within sX10_11 rfl (by decide) rfl (Nat.le_of_ble_eq_true rfl) (m_within g σ a 0 ((pa_n σ u) - 1) (by omega) (by omega) (by omega)) (fun v_ τ_ h_ => ?_)
  obtain ⟨rfl, rfl⟩ := h_
  show zw_W g mY_board k 19 [(3, .ref (g.2.2.1 (u))), (0, .ref (g.2.2.1 0)), (1, zv_i a), (2, zv_i c)] [zv_i (zi_b (0 ≤ a ∧ a ≤ ((pa_n σ u) - 1)))] σ
  refine zr_if_eq_b (pc := 19) C 31 dX10_board_19 (by decide) (fun h_1 => ?_) (fun h_1 => ?_)
  · exact zx_throw (pc := 31) C hr rfl rfl (fun z => h_1 z.1) ⟨Nat.le_of_ble_eq_true rfl, Nat.le_of_ble_eq_true rfl⟩ dX10_board_31 dX10_board_34 dX10_board_35 dX10_board_38 zx_l zx_i
  · refine zr_iload_n (pc := 22) C dX10_board_22 3 rfl ?_
    refine zr_iconst (pc := 23) C dX10_board_23 ?_
    refine zr_iconst (pc := 24) C dX10_board_24 ?_
    refine zr_callS (As := [zv_i c, zv_i 0, zv_i 3]) (rest := []) (pc := 25) C dX10_board_25 kX10_within sX10_11 rfl (by decide) rfl (Nat.le_of_ble_eq_true rfl) (m_within g σ c 0 3 (by omega) (by omega) (by omega)) (fun v_ τ_ h_ => ?_)
    obtain ⟨rfl, rfl⟩ := h_
    show zw_W g mY_board k 28 [(3, .ref (g.2.2.1 (u))), (0, .ref (g.2.2.1 0)), (1, zv_i a), (2, zv_i c)] [zv_i (zi_b (0 ≤ c ∧ c ≤ 3))] σ
    refine zr_if_ne_b (pc := 28) C 39 dX10_board_28 (by decide) (fun h_2 => ?_) (fun h_2 => ?_)
    · refine zr_aload_n (pc := 39) C dX10_board_39 0 rfl ?_
      refine zr_iload_n (pc := 40) C dX10_board_40 2 rfl ?_
      refine zr_iload_n (pc := 41) C dX10_board_41 3 rfl ?_
      refine zr_callV (As := [zv_i a, zv_i c]) (rest := []) (b := u) (pc := 42) C dX10_board_42 kX7_fact vX10_140 rfl (by decide) (hn_pat hu) (hs_pat hu) rfl (Nat.le_of_ble_eq_true rfl) (m_pfact g σ u hu a c (by omega) hI (by omega)) (fun v_ τ_ h_ => ?_)
      obtain ⟨rfl, rfl⟩ := h_
      show zw_W g mY_board k 45 [(3, .ref (g.2.2.1 (u))), (0, .ref (g.2.2.1 0)), (1, zv_i a), (2, zv_i c)] [zv_i (pa_F σ u a c)] σ
      exact zx_iret (pc := 45) C hr dX10_board_45 rfl (⟨⟨h_1, h_2⟩, rfl, rfl⟩)
    · exact zx_throw (pc := 31) C hr rfl rfl (fun z => h_2 z.2) ⟨Nat.le_of_ble_eq_true rfl, Nat.le_of_ble_eq_true rfl⟩ dX10_board_31 dX10_board_34 dX10_board_35 dX10_board_38 zx_l zx_i
