abbrev mL_log : zm_T := (yL_log, cL_log, 5, some .int, 7, 150)
abbrev mL_saw : zm_T := (yL_saw, cL_saw, 4, some .int, 7, 180)
abbrev mL_board : zm_T := (yL_board, cL_board, 5, some .int, 7, 150)
theorem kY_log : zl_M mY_log 2 := ⟨(zt_mem 494 (by decide +kernel) rfl), (zt_mem 31 (by decide +kernel) rfl), by decide, by decide, by decide +kernel⟩
theorem kY_saw : zl_M mY_saw 1 := ⟨(zt_mem 566 (by decide +kernel) rfl), (zt_mem 31 (by decide +kernel) rfl), by decide, by decide, by decide +kernel⟩
theorem kY_board : zl_M mY_board 2 := ⟨(zt_mem 650 (by decide +kernel) rfl), (zt_mem 31 (by decide +kernel) rfl), by decide, by decide, by decide +kernel⟩
theorem zx_r : Cond.classLink RL 13 zx_E ∈ zt_W := (zt_mem 490 (by decide +kernel) rfl)
theorem vY_log : zl_V RL 7 10 mY_log := ⟨(RX10, TX10, 6), rfl, rfl, (zt_mem 491 (by decide +kernel) rfl), (zt_mem 492 (by decide +kernel) rfl), (zt_mem 493 (by decide +kernel) rfl)⟩
set_option maxRecDepth 20000 in
theorem h_logX {g : zg_G} {k : zk_T} {Q : Option Value → zs_S → Prop} (C : zk_ok g mL_log k) (hr : zh_k g Q mL_log [(0, 10, 13, 13)] 1 k) (a c : Int) (qq : Nat) (σ : zs_S) (hQ : Q (some (zv_i 1)) σ) : zw_W g mL_log k 13 [(0, .ref (g.2.2.1 0)), (1, zv_i a), (2, zv_i c), (3, .ref (g.2.2.1 90))] [.ref qq] σ := by
  refine zr_astore (L' := [(4, .ref qq), (0, .ref (g.2.2.1 0)), (1, zv_i a), (2, zv_i c), (3, .ref (g.2.2.1 90))]) (pc := 13) C dL_log_13 (by decide) rfl ?_
  refine zr_iconst (pc := 15) C dL_log_15 ?_
  exact zh_iret (pc := 16) C (Nat.le_refl 1) hr dL_log_16 rfl (hQ)

set_option maxRecDepth 20000 in
theorem h_logY {g : zg_G} {k : zk_T} {Q : Option Value → zs_S → Prop} (C : zk_ok g mL_log k) (hr : zh_k g Q mL_log [(0, 10, 13, 13)] 1 k) (a c x : Int) (hxr : zi_r x) (σ : zs_S) (hQ : ∀ τ, τ = zs_put σ 90 0 x → Q (some (zv_i 0)) τ) : zw_W g mL_log k 8 [(0, .ref (g.2.2.1 0)), (1, zv_i a), (2, zv_i c), (3, .ref (g.2.2.1 90))] [zv_i x, zv_i 0, .ref (g.2.2.1 90)] σ := by
  refine zr_i2l (pc := 8) C dL_log_8 (by exact hxr) ?_
  refine zr_lastore (pc := 9) C dL_log_9 (by decide) (hs_90 _) (by omega) (by decide) (fun τ_1 e_2 => ?_)
  refine zr_goto (pc := 10) C 17 dL_log_10 (by decide) ?_
  refine zr_iconst (pc := 17) C dL_log_17 ?_
  exact zh_iret (pc := 18) C (Nat.le_refl 1) hr dL_log_18 rfl (hQ τ_1 e_2)

set_option maxRecDepth 20000 in
theorem h_log (g : zg_G) (σ : zs_S) (a c : Int) (har : zi_r a) (hcr : zi_r c) (b : Nat) (hb : zs_q b) (hb4 : σ 1 4 = b) (hc : 0 ≤ σ b 0 ∧ σ b 0 ≤ 40) (hv : ∀ i : Int, 0 ≤ i → i < σ b 0 * 6 → 0 ≤ σ (b + 1) i ∧ σ (b + 1) i ≤ 1000000) : zh_Met g mL_log [(0, 10, 13, 13)] σ [.ref (g.2.2.1 0), zv_i a, zv_i c, .ref (g.2.2.1 90)] (fun v τ => (((0 ≤ a ∧ a ≤ σ b 0 - 1) ∧ (0 ≤ c ∧ c ≤ 5)) ∧ v = some (zv_i 0) ∧ τ = zs_put σ 90 0 (σ (b + 1) (a * 6 + c))) ∨ (¬ ((0 ≤ a ∧ a ≤ σ b 0 - 1) ∧ (0 ≤ c ∧ c ≤ 5)) ∧ v = some (zv_i 1) ∧ σ = τ)) := by
  refine zh_of (by decide +kernel) (Nat.le_of_ble_eq_true rfl) ?_
  intro k C hr
  show zw_W g mL_log k 0 [(0, .ref (g.2.2.1 0)), (1, zv_i a), (2, zv_i c), (3, .ref (g.2.2.1 90))] [] σ
  refine zr_aload_n (pc := 0) C dL_log_0 3 rfl ?_
  refine zr_iconst (pc := 1) C dL_log_1 ?_
  refine zr_aload_n (pc := 2) C dL_log_2 0 rfl ?_
  refine zr_iload_n (pc := 3) C dL_log_3 1 rfl ?_
  refine zr_iload_n (pc := 4) C dL_log_4 2 rfl ?_
  refine zh_callV (As := [zv_i a, zv_i c]) (rest := [zv_i 0, .ref (g.2.2.1 90)]) (b := 0) (pc := 5) C hr dL_log_5 kY_log vY_log rfl ⟨Nat.le_of_ble_eq_true rfl, Nat.le_of_ble_eq_true rfl⟩ (by decide) (hs_0 _) rfl (Nat.le_of_ble_eq_true rfl) (x_log g σ a c har hcr b hb hb4 hc) ⟨0, 10, 13, 13⟩ rfl rfl (by decide) zx_r (fun v_ τ_ h_ => ?_) (fun q_ hX => ?_)
  · obtain ⟨hC, rfl, rfl⟩ := h_
    have hx := hv (a * 6 + c) (by omega) (by omega)
    exact h_logY (zh_oku C hr) (zh_ku hr) a c _ (by omega) σ (fun τ e => Or.inl ⟨hC, rfl, e⟩)
  · exact h_logX (zh_oku C hr) (zh_ku hr) a c q_ σ (Or.inr ⟨hX, rfl, rfl⟩)

theorem vY_saw : zl_V RL 15 10 mY_saw := ⟨(RX10, TX10, 6), rfl, rfl, (zt_mem 563 (by decide +kernel) rfl), (zt_mem 564 (by decide +kernel) rfl), (zt_mem 565 (by decide +kernel) rfl)⟩
set_option maxRecDepth 20000 in
theorem h_sawX {g : zg_G} {k : zk_T} {Q : Option Value → zs_S → Prop} (C : zk_ok g mL_saw k) (hr : zh_k g Q mL_saw [(0, 9, 12, 13)] 1 k) (a c : Int) (qq : Nat) (σ : zs_S) (hQ : Q (some (zv_i 1)) σ) : zw_W g mL_saw k 12 [(0, .ref (g.2.2.1 0)), (1, zv_i a), (2, .ref (g.2.2.1 90))] [.ref qq] σ := by
  refine zr_astore_n (L' := [(3, .ref qq), (0, .ref (g.2.2.1 0)), (1, zv_i a), (2, .ref (g.2.2.1 90))]) (pc := 12) C dL_saw_12 (by decide) rfl ?_
  refine zr_iconst (pc := 13) C dL_saw_13 ?_
  exact zh_iret (pc := 14) C (Nat.le_refl 1) hr dL_saw_14 rfl (hQ)

set_option maxRecDepth 20000 in
theorem h_sawY {g : zg_G} {k : zk_T} {Q : Option Value → zs_S → Prop} (C : zk_ok g mL_saw k) (hr : zh_k g Q mL_saw [(0, 9, 12, 13)] 1 k) (a c x : Int) (hxr : zi_r x) (σ : zs_S) (hQ : ∀ τ, τ = zs_put σ 90 0 x → Q (some (zv_i 0)) τ) : zw_W g mL_saw k 7 [(0, .ref (g.2.2.1 0)), (1, zv_i a), (2, .ref (g.2.2.1 90))] [zv_i x, zv_i 0, .ref (g.2.2.1 90)] σ := by
  refine zr_i2l (pc := 7) C dL_saw_7 (by exact hxr) ?_
  refine zr_lastore (pc := 8) C dL_saw_8 (by decide) (hs_90 _) (by omega) (by decide) (fun τ_1 e_2 => ?_)
  refine zr_goto (pc := 9) C 15 dL_saw_9 (by decide) ?_
  refine zr_iconst (pc := 15) C dL_saw_15 ?_
  exact zh_iret (pc := 16) C (Nat.le_refl 1) hr dL_saw_16 rfl (hQ τ_1 e_2)

set_option maxRecDepth 20000 in
theorem h_saw (g : zg_G) (σ : zs_S) (a : Int) (har : zi_r a) (b : Nat) (hb : zs_q b) (hb4 : σ 1 4 = b) (hc : 0 ≤ σ b 0 ∧ σ b 0 ≤ 40) (p u : Nat) (hp : zs_p p) (hu : zs_p u) (hpu : u ≠ p) (h6 : σ 26 6 = u) (h7 : σ 26 7 = p) (hI : sw_I σ) (hJ : ch_J σ) (hfa : ∀ i : Int, 0 ≤ i → i < σ b 0 → (50 ≤ σ (b + 1) (i * 6 + 2) ∧ σ (b + 1) (i * 6 + 2) ≤ 900) ∧ (1 ≤ σ (b + 1) (i * 6 + 4) ∧ σ (b + 1) (i * 6 + 4) ≤ 3)) : zh_Met g mL_saw [(0, 9, 12, 13)] σ [.ref (g.2.2.1 0), zv_i a, .ref (g.2.2.1 90)] (fun v τ => ((0 ≤ a ∧ a ≤ σ b 0 - 1) ∧ v = some (zv_i 0) ∧ ∃ h x l1 l2 u' p' τ1, (0 ≤ x ∧ x ≤ 1000000000) ∧ sw_O σ τ1 (10 * σ (b + 1) (a * 6 + 2)) (σ (b + 1) (a * 6 + 4)) h x l1 l2 u' p' ∧ τ = zs_put τ1 90 0 x) ∨ (¬ (0 ≤ a ∧ a ≤ σ b 0 - 1) ∧ v = some (zv_i 1) ∧ σ = τ)) := by
  refine zh_of (by decide +kernel) (Nat.le_of_ble_eq_true rfl) ?_
  intro k C hr
  show zw_W g mL_saw k 0 [(0, .ref (g.2.2.1 0)), (1, zv_i a), (2, .ref (g.2.2.1 90))] [] σ
  refine zr_aload_n (pc := 0) C dL_saw_0 2 rfl ?_
  refine zr_iconst (pc := 1) C dL_saw_1 ?_
  refine zr_aload_n (pc := 2) C dL_saw_2 0 rfl ?_
  refine zr_iload_n (pc := 3) C dL_saw_3 1 rfl ?_
  refine zh_callV (As := [zv_i a]) (rest := [zv_i 0, .ref (g.2.2.1 90)]) (b := 0) (pc := 4) C hr dL_saw_4 kY_saw vY_saw rfl ⟨Nat.le_of_ble_eq_true rfl, Nat.le_of_ble_eq_true rfl⟩ (by decide) (hs_0 _) rfl (Nat.le_of_ble_eq_true rfl) (x_saw g σ a har b hb hb4 hc p u hp hu hpu h6 h7 hI hJ hfa) ⟨0, 9, 12, 13⟩ rfl rfl (by decide) zx_r (fun v_ τ_ h_ => ?_) (fun q_ hX => ?_)
  · obtain ⟨hC, h, x, l1, l2, u1, p1, rfl, hO⟩ := h_
    have hx : 0 ≤ x ∧ x ≤ 1000000000 := by
      have e1 := hO.2.2.2.2.1.2.1
      have e2 := hO.2.2.2.2.2.2.2.1.2.1
      rw [e1] at e2
      exact e2
    exact h_sawY (zh_oku C hr) (zh_ku hr) a 0 x (by omega) τ_ (fun τ e => Or.inl ⟨hC, rfl, h, x, l1, l2, u1, p1, τ_, hx, hO, e⟩)
  · exact h_sawX (zh_oku C hr) (zh_ku hr) a 0 q_ σ (Or.inr ⟨hX, rfl, rfl⟩)

theorem vY_board : zl_V RL 19 10 mY_board := ⟨(RX10, TX10, 6), rfl, rfl, (zt_mem 647 (by decide +kernel) rfl), (zt_mem 648 (by decide +kernel) rfl), (zt_mem 649 (by decide +kernel) rfl)⟩
set_option maxRecDepth 20000 in
theorem h_boardX {g : zg_G} {k : zk_T} {Q : Option Value → zs_S → Prop} (C : zk_ok g mL_board k) (hr : zh_k g Q mL_board [(0, 10, 13, 13)] 1 k) (a c : Int) (qq : Nat) (σ : zs_S) (hQ : Q (some (zv_i 1)) σ) : zw_W g mL_board k 13 [(0, .ref (g.2.2.1 0)), (1, zv_i a), (2, zv_i c), (3, .ref (g.2.2.1 90))] [.ref qq] σ := by
  refine zr_astore (L' := [(4, .ref qq), (0, .ref (g.2.2.1 0)), (1, zv_i a), (2, zv_i c), (3, .ref (g.2.2.1 90))]) (pc := 13) C dL_board_13 (by decide) rfl ?_
  refine zr_iconst (pc := 15) C dL_board_15 ?_
  exact zh_iret (pc := 16) C (Nat.le_refl 1) hr dL_board_16 rfl (hQ)

set_option maxRecDepth 20000 in
theorem h_boardY {g : zg_G} {k : zk_T} {Q : Option Value → zs_S → Prop} (C : zk_ok g mL_board k) (hr : zh_k g Q mL_board [(0, 10, 13, 13)] 1 k) (a c x : Int) (hxr : zi_r x) (σ : zs_S) (hQ : ∀ τ, τ = zs_put σ 90 0 x → Q (some (zv_i 0)) τ) : zw_W g mL_board k 8 [(0, .ref (g.2.2.1 0)), (1, zv_i a), (2, zv_i c), (3, .ref (g.2.2.1 90))] [zv_i x, zv_i 0, .ref (g.2.2.1 90)] σ := by
  refine zr_i2l (pc := 8) C dL_board_8 (by exact hxr) ?_
  refine zr_lastore (pc := 9) C dL_board_9 (by decide) (hs_90 _) (by omega) (by decide) (fun τ_1 e_2 => ?_)
  refine zr_goto (pc := 10) C 17 dL_board_10 (by decide) ?_
  refine zr_iconst (pc := 17) C dL_board_17 ?_
  exact zh_iret (pc := 18) C (Nat.le_refl 1) hr dL_board_18 rfl (hQ τ_1 e_2)

set_option maxRecDepth 20000 in
theorem h_board (g : zg_G) (σ : zs_S) (a c : Int) (har : zi_r a) (hcr : zi_r c) (u : Nat) (hu : zs_p u) (h6 : σ 26 6 = u) (hI : pa_I σ u) (hn : 0 ≤ pa_n σ u ∧ pa_n σ u ≤ 360) (hv : ∀ i j : Int, 0 ≤ i → i < pa_n σ u → 0 ≤ j → j ≤ 3 → zi_r (pa_F σ u i j)) : zh_Met g mL_board [(0, 10, 13, 13)] σ [.ref (g.2.2.1 0), zv_i a, zv_i c, .ref (g.2.2.1 90)] (fun v τ => (((0 ≤ a ∧ a ≤ pa_n σ u - 1) ∧ (0 ≤ c ∧ c ≤ 3)) ∧ v = some (zv_i 0) ∧ τ = zs_put σ 90 0 (pa_F σ u a c)) ∨ (¬ ((0 ≤ a ∧ a ≤ pa_n σ u - 1) ∧ (0 ≤ c ∧ c ≤ 3)) ∧ v = some (zv_i 1) ∧ σ = τ)) := by
  refine zh_of (by decide +kernel) (Nat.le_of_ble_eq_true rfl) ?_
  intro k C hr
  show zw_W g mL_board k 0 [(0, .ref (g.2.2.1 0)), (1, zv_i a), (2, zv_i c), (3, .ref (g.2.2.1 90))] [] σ
  refine zr_aload_n (pc := 0) C dL_board_0 3 rfl ?_
  refine zr_iconst (pc := 1) C dL_board_1 ?_
  refine zr_aload_n (pc := 2) C dL_board_2 0 rfl ?_
  refine zr_iload_n (pc := 3) C dL_board_3 1 rfl ?_
  refine zr_iload_n (pc := 4) C dL_board_4 2 rfl ?_
  refine zh_callV (As := [zv_i a, zv_i c]) (rest := [zv_i 0, .ref (g.2.2.1 90)]) (b := 0) (pc := 5) C hr dL_board_5 kY_board vY_board rfl ⟨Nat.le_of_ble_eq_true rfl, Nat.le_of_ble_eq_true rfl⟩ (by decide) (hs_0 _) rfl (Nat.le_of_ble_eq_true rfl) (x_board g σ a c har hcr u hu h6 hI hn) ⟨0, 10, 13, 13⟩ rfl rfl (by decide) zx_r (fun v_ τ_ h_ => ?_) (fun q_ hX => ?_)
  · obtain ⟨hC, rfl, rfl⟩ := h_
    have hx := hv a c (by omega) (by omega) (by omega) (by omega)
    exact h_boardY (zh_oku C hr) (zh_ku hr) a c _ hx σ (fun τ e => Or.inl ⟨hC, rfl, e⟩)
  · exact h_boardX (zh_oku C hr) (zh_ku hr) a c q_ σ (Or.inr ⟨hX, rfl, rfl⟩)
