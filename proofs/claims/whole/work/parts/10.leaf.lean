set_option maxRecDepth 20000 in
set_option maxHeartbeats 4000000 in
theorem m_within (g : zg_G) (σ : zs_S) (x lo hi : Int) (hx : zi_r x) (hl : zi_r lo) (hh : zi_r hi) : zm_Met g mX10_within σ [zv_i x, zv_i lo, zv_i hi] (fun v τ => v = some (zv_i (zi_b (lo ≤ x ∧ x ≤ hi))) ∧ σ = τ) := by
  refine zm_of (by decide +kernel) (Nat.le_of_ble_eq_true rfl) ?_
  intro k C hr
  show zw_W g mX10_within k 0 [(0, zv_i x), (1, zv_i lo), (2, zv_i hi)] [] σ
  refine zr_iload_n (pc := 0) C dX10_within_0 0 rfl ?_
  refine zr_iload_n (pc := 1) C dX10_within_1 1 rfl ?_
  refine zr_icmp_lt (pc := 2) C 14 dX10_within_2 (by decide) (by omega) (by omega) (fun h_1 => ?_) (fun h_1 => ?_)
  · refine zr_iconst (pc := 14) C dX10_within_14 ?_
    exact zr_zret (pc := 15) C hr dX10_within_15 rfl (by decide) (⟨zq_0 (by omega), rfl⟩)
  · refine zr_iload_n (pc := 5) C dX10_within_5 0 rfl ?_
    refine zr_iload_n (pc := 6) C dX10_within_6 2 rfl ?_
    refine zr_icmp_gt (pc := 7) C 14 dX10_within_7 (by decide) (by omega) (by omega) (fun h_2 => ?_) (fun h_2 => ?_)
    · refine zr_iconst (pc := 14) C dX10_within_14 ?_
      exact zr_zret (pc := 15) C hr dX10_within_15 rfl (by decide) (⟨zq_0 (by omega), rfl⟩)
    · refine zr_iconst (pc := 10) C dX10_within_10 ?_
      refine zr_goto (pc := 11) C 15 dX10_within_11 (by decide) ?_
      exact zr_zret (pc := 15) C hr dX10_within_15 rfl (by decide) (⟨zq_1 (by omega), rfl⟩)

set_option maxRecDepth 20000 in
set_option maxHeartbeats 4000000 in
theorem n_in (g : zg_G) (σ : zs_S) (x lo hi : Int) (hx : zi_r x) (hl : zi_r lo) (hh : zi_r hi) : zm_Met g mX11_in σ [zv_i x, zv_i lo, zv_i hi] (fun v τ => v = some (zv_i (zi_b (lo ≤ x ∧ x ≤ hi))) ∧ σ = τ) := by
  refine zm_of (by decide +kernel) (Nat.le_of_ble_eq_true rfl) ?_
  intro k C hr
  show zw_W g mX11_in k 0 [(0, zv_i x), (1, zv_i lo), (2, zv_i hi)] [] σ
  refine zr_iload_n (pc := 0) C dX11_in_0 0 rfl ?_
  refine zr_iload_n (pc := 1) C dX11_in_1 1 rfl ?_
  refine zr_icmp_lt (pc := 2) C 14 dX11_in_2 (by decide) (by omega) (by omega) (fun h_1 => ?_) (fun h_1 => ?_)
  · refine zr_iconst (pc := 14) C dX11_in_14 ?_
    exact zr_zret (pc := 15) C hr dX11_in_15 rfl (by decide) (⟨zq_0 (by omega), rfl⟩)
  · refine zr_iload_n (pc := 5) C dX11_in_5 0 rfl ?_
    refine zr_iload_n (pc := 6) C dX11_in_6 2 rfl ?_
    refine zr_icmp_gt (pc := 7) C 14 dX11_in_7 (by decide) (by omega) (by omega) (fun h_2 => ?_) (fun h_2 => ?_)
    · refine zr_iconst (pc := 14) C dX11_in_14 ?_
      exact zr_zret (pc := 15) C hr dX11_in_15 rfl (by decide) (⟨zq_0 (by omega), rfl⟩)
    · refine zr_iconst (pc := 10) C dX11_in_10 ?_
      refine zr_goto (pc := 11) C 15 dX11_in_11 (by decide) ?_
      exact zr_zret (pc := 15) C hr dX11_in_15 rfl (by decide) (⟨zq_1 (by omega), rfl⟩)

set_option maxRecDepth 20000 in
set_option maxHeartbeats 4000000 in
theorem m_toldK (g : zg_G) (σ : zs_S) (j : Int) (hj : 0 ≤ j ∧ j < 6) (hx : zi_r (σ (8 + 2 * j.toNat) 0)) : zm_Met g mX5_isTold σ [.ref (g.2.2.1 (8 + 2 * j.toNat))] (fun v τ => v = some (zv_i (zi_b (0 < σ (8 + 2 * j.toNat) 0))) ∧ σ = τ) := by
  refine zm_of (by decide +kernel) (Nat.le_of_ble_eq_true rfl) ?_
  intro k C hr
  show zw_W g mX5_isTold k 0 [(0, .ref (g.2.2.1 (8 + 2 * j.toNat)))] [] σ
  refine zr_aload_n (pc := 0) C dX5_isTold_0 0 rfl ?_
  refine zr_get (v := zv_i (σ (8 + 2 * j.toNat) 0)) (pc := 1) C 0 none dX5_isTold_1 fX5_15 (hn_kind hj) (hs_kind hj) rfl rfl ?_
  refine zr_if_le (pc := 4) C 11 dX5_isTold_4 (by decide) (by omega) (fun h_1 => ?_) (fun h_1 => ?_)
  · refine zr_iconst (pc := 11) C dX5_isTold_11 ?_
    exact zr_zret (pc := 12) C hr dX5_isTold_12 rfl (by decide) (⟨zq_0 (by omega), rfl⟩)
  · refine zr_iconst (pc := 7) C dX5_isTold_7 ?_
    refine zr_goto (pc := 8) C 12 dX5_isTold_8 (by decide) ?_
    exact zr_zret (pc := 12) C hr dX5_isTold_12 rfl (by decide) (⟨zq_1 (by omega), rfl⟩)

set_option maxRecDepth 20000 in
set_option maxHeartbeats 4000000 in
theorem m_toldS (g : zg_G) (σ : zs_S) (j : Int) (hj : 0 ≤ j ∧ j < 6) (hx : zi_r (σ (28 + 2 * j.toNat) 0)) : zm_Met g mX0_isTold σ [.ref (g.2.2.1 (28 + 2 * j.toNat))] (fun v τ => v = some (zv_i (zi_b (0 < σ (28 + 2 * j.toNat) 0))) ∧ σ = τ) := by
  refine zm_of (by decide +kernel) (Nat.le_of_ble_eq_true rfl) ?_
  intro k C hr
  show zw_W g mX0_isTold k 0 [(0, .ref (g.2.2.1 (28 + 2 * j.toNat)))] [] σ
  refine zr_aload_n (pc := 0) C dX0_isTold_0 0 rfl ?_
  refine zr_get (v := zv_i (σ (28 + 2 * j.toNat) 0)) (pc := 1) C 0 none dX0_isTold_1 fX0_15 (hn_size hj) (hs_size hj) rfl rfl ?_
  refine zr_if_le (pc := 4) C 11 dX0_isTold_4 (by decide) (by omega) (fun h_1 => ?_) (fun h_1 => ?_)
  · refine zr_iconst (pc := 11) C dX0_isTold_11 ?_
    exact zr_zret (pc := 12) C hr dX0_isTold_12 rfl (by decide) (⟨zq_0 (by omega), rfl⟩)
  · refine zr_iconst (pc := 7) C dX0_isTold_7 ?_
    refine zr_goto (pc := 8) C 12 dX0_isTold_8 (by decide) ?_
    exact zr_zret (pc := 12) C hr dX0_isTold_12 rfl (by decide) (⟨zq_1 (by omega), rfl⟩)

set_option maxRecDepth 20000 in
set_option maxHeartbeats 4000000 in
theorem m_slot (g : zg_G) (σ : zs_S) (t r : Int) : zm_Met g mX5_slot σ [zv_i t, zv_i r] (fun v τ => v = some (zv_i (t * 3 + r - 1)) ∧ σ = τ) := by
  refine zm_of (by decide +kernel) (Nat.le_of_ble_eq_true rfl) ?_
  intro k C hr
  show zw_W g mX5_slot k 0 [(0, zv_i t), (1, zv_i r)] [] σ
  refine zr_iload_n (pc := 0) C dX5_slot_0 0 rfl ?_
  refine zr_iconst (pc := 1) C dX5_slot_1 ?_
  refine zr_imul (pc := 2) C dX5_slot_2 ?_
  refine zr_iload_n (pc := 3) C dX5_slot_3 1 rfl ?_
  refine zr_iadd (pc := 4) C dX5_slot_4 ?_
  refine zr_iconst (pc := 5) C dX5_slot_5 ?_
  refine zr_isub (pc := 6) C dX5_slot_6 ?_
  exact zr_iret (pc := 7) C hr dX5_slot_7 rfl (⟨rfl, rfl⟩)
