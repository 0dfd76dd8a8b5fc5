abbrev mX0_init : zm_T := (yX0_init, cX0_init, 1, none, 1, 12)
theorem kX0_init : zl_M mX0_init 0 := ⟨(zt_mem 261 (by decide +kernel) rfl), (zt_mem 41 (by decide +kernel) rfl), by decide, by decide, by decide +kernel⟩
abbrev mX1_init : zm_T := (yX1_init, cX1_init, 3, none, 2, 34)
theorem kX1_init : zl_M mX1_init 1 := ⟨(zt_mem 64 (by decide +kernel) rfl), (zt_mem 32 (by decide +kernel) rfl), by decide, by decide, by decide +kernel⟩
abbrev mX2_init : zm_T := (yX2_init, cX2_init, 1, none, 1, 12)
theorem kX2_init : zl_M mX2_init 0 := ⟨(zt_mem 189 (by decide +kernel) rfl), (zt_mem 38 (by decide +kernel) rfl), by decide, by decide, by decide +kernel⟩
abbrev mX3_init : zm_T := (yX3_init, cX3_init, 1, none, 1, 12)
theorem kX3_init : zl_M mX3_init 0 := ⟨(zt_mem 72 (by decide +kernel) rfl), (zt_mem 33 (by decide +kernel) rfl), by decide, by decide, by decide +kernel⟩
abbrev mX4_init : zm_T := (yX4_init, cX4_init, 2, none, 1, 12)
theorem kX4_init : zl_M mX4_init 1 := ⟨(zt_mem 217 (by decide +kernel) rfl), (zt_mem 40 (by decide +kernel) rfl), by decide, by decide, by decide +kernel⟩
abbrev mX5_init : zm_T := (yX5_init, cX5_init, 1, none, 1, 12)
theorem kX5_init : zl_M mX5_init 0 := ⟨(zt_mem 120 (by decide +kernel) rfl), (zt_mem 35 (by decide +kernel) rfl), by decide, by decide, by decide +kernel⟩
abbrev mX6_init : zm_T := (yX6_init, cX6_init, 1, none, 1, 12)
theorem kX6_init : zl_M mX6_init 0 := ⟨(zt_mem 170 (by decide +kernel) rfl), (zt_mem 37 (by decide +kernel) rfl), by decide, by decide, by decide +kernel⟩
abbrev mX7_init : zm_T := (yX7_init, cX7_init, 1, none, 2, 33)
theorem kX7_init : zl_M mX7_init 0 := ⟨(zt_mem 211 (by decide +kernel) rfl), (zt_mem 39 (by decide +kernel) rfl), by decide, by decide, by decide +kernel⟩
abbrev mX8_init : zm_T := (yX8_init, cX8_init, 2, none, 3, 53)
theorem kX8_init : zl_M mX8_init 0 := ⟨(zt_mem 162 (by decide +kernel) rfl), (zt_mem 36 (by decide +kernel) rfl), by decide, by decide, by decide +kernel⟩
abbrev mX9_init : zm_T := (yX9_init, cX9_init, 3, none, 1, 12)
theorem kX9_init : zl_M mX9_init 1 := ⟨(zt_mem 91 (by decide +kernel) rfl), (zt_mem 34 (by decide +kernel) rfl), by decide, by decide, by decide +kernel⟩
abbrev mX10_init : zm_T := (yX10_init, cX10_init, 2, none, 4, 74)
theorem kX10_init : zl_M mX10_init 1 := ⟨(zt_mem 53 (by decide +kernel) rfl), (zt_mem 31 (by decide +kernel) rfl), by decide, by decide, by decide +kernel⟩
abbrev mX11_init : zm_T := (yX11_init, cX11_init, 3, none, 1, 12)
theorem kX11_init : zl_M mX11_init 1 := ⟨(zt_mem 663 (by decide +kernel) rfl), (zt_mem 42 (by decide +kernel) rfl), by decide, by decide, by decide +kernel⟩
theorem zo_i : Cond.instanceMethod Lib.objectInit ∈ zt_W := (zt_mem 55 (by decide +kernel) rfl)
theorem zo_c : Cond.code Lib.objectInit ⟨#[0xb1]⟩ 1 none ∈ zt_W := (zt_mem 56 (by decide +kernel) rfl)
theorem pfX0_9 : zl_PF RX0 9 0 2 (.array .int) := ⟨RX0, TX0, 3, tyX0, rfl, by decide, zt_inX0, (zt_mem 269 (by decide +kernel) rfl), tyX0_ok, nmX0, rfl, rfl, by decide +kernel⟩
theorem pfX5_9 : zl_PF RX5 9 5 2 (.array .int) := ⟨RX5, TX5, 3, tyX5, rfl, by decide, zt_inX5, (zt_mem 126 (by decide +kernel) rfl), tyX5_ok, nmX5, rfl, rfl, by decide +kernel⟩
theorem pfX3_9 : zl_PF RX3 9 3 2 (.array .int) := ⟨RX3, TX3, 3, tyX3, rfl, by decide, zt_inX3, (zt_mem 78 (by decide +kernel) rfl), tyX3_ok, nmX3, rfl, rfl, by decide +kernel⟩
theorem pfX6_9 : zl_PF RX6 9 6 0 (.array .int) := ⟨RX6, TX6, 3, tyX6, rfl, by decide, zt_inX6, (zt_mem 172 (by decide +kernel) rfl), tyX6_ok, nmX6, rfl, rfl, by decide +kernel⟩
theorem pfX6_15 : zl_PF RX6 15 6 1 (.array .int) := ⟨RX6, TX6, 3, tyX6, rfl, by decide, zt_inX6, (zt_mem 174 (by decide +kernel) rfl), tyX6_ok, nmX6, rfl, rfl, by decide +kernel⟩
theorem pfX6_18 : zl_PF RX6 18 6 2 (.array .int) := ⟨RX6, TX6, 3, tyX6, rfl, by decide, zt_inX6, (zt_mem 176 (by decide +kernel) rfl), tyX6_ok, nmX6, rfl, rfl, by decide +kernel⟩
theorem pfX2_9 : zl_PF RX2 9 2 0 (.array .int) := ⟨RX2, TX2, 4, tyX2, rfl, by decide, zt_inX2, (zt_mem 191 (by decide +kernel) rfl), tyX2_ok, nmX2, rfl, rfl, by decide +kernel⟩
theorem pfX2_15 : zl_PF RX2 15 2 1 (.array .int) := ⟨RX2, TX2, 4, tyX2, rfl, by decide, zt_inX2, (zt_mem 193 (by decide +kernel) rfl), tyX2_ok, nmX2, rfl, rfl, by decide +kernel⟩
theorem pfX2_18 : zl_PF RX2 18 2 2 (.array .int) := ⟨RX2, TX2, 4, tyX2, rfl, by decide, zt_inX2, (zt_mem 195 (by decide +kernel) rfl), tyX2_ok, nmX2, rfl, rfl, by decide +kernel⟩
theorem pfX2_21 : zl_PF RX2 21 2 3 (.array .int) := ⟨RX2, TX2, 4, tyX2, rfl, by decide, zt_inX2, (zt_mem 197 (by decide +kernel) rfl), tyX2_ok, nmX2, rfl, rfl, by decide +kernel⟩
theorem pfX4_7 : zl_PF RX4 7 4 1 (.array .int) := ⟨RX4, TX4, 3, tyX4, rfl, by decide, zt_inX4, (zt_mem 223 (by decide +kernel) rfl), tyX4_ok, nmX4, rfl, rfl, by decide +kernel⟩
theorem pfX4_13 : zl_PF RX4 13 4 2 (.array .int) := ⟨RX4, TX4, 3, tyX4, rfl, by decide, zt_inX4, (zt_mem 226 (by decide +kernel) rfl), tyX4_ok, nmX4, rfl, rfl, by decide +kernel⟩
theorem pnX7_9 : zl_P RX7 9 7 0 .int := ⟨RX7, TX7, 5, tyX7, rfl, by decide, zt_inX7, (zt_mem 236 (by decide +kernel) rfl), tyX7_ok, nmX7, rfl, by decide +kernel⟩
theorem dfX4 : ∀ j, j < 3 → defaultValue (tyX4 j) = vp_V [zv_i 0, .null, .null] j := by
  intro j hj
  match j, hj with
  | 0, _ => rfl
  | 1, _ => rfl
  | 2, _ => rfl
theorem nwX7_15 : zl_N RX7 15 4 3 [zv_i 0, .null, .null] := ⟨RX4, TX4, tyX4, rfl, zt_inX4, tyX4_ok, (zt_mem 213 (by decide +kernel) rfl), (zt_mem 214 (by decide +kernel) rfl), (zt_mem 40 (by decide +kernel) rfl), dfX4⟩
theorem jiX7_17 : zl_I RX7 17 mX4_init := ⟨(zt_mem 215 (by decide +kernel) rfl), (zt_mem 216 (by decide +kernel) rfl), rfl, rfl⟩
theorem pfX7_20 : zl_PF RX7 20 7 2 (.object "StemMill$Line") := ⟨RX7, TX7, 5, tyX7, rfl, by decide, zt_inX7, (zt_mem 241 (by decide +kernel) rfl), tyX7_ok, nmX7, rfl, rfl, by decide +kernel⟩
theorem pfX7_24 : zl_PF RX7 24 7 3 (.object "StemMill$Line") := ⟨RX7, TX7, 5, tyX7, rfl, by decide, zt_inX7, (zt_mem 243 (by decide +kernel) rfl), tyX7_ok, nmX7, rfl, rfl, by decide +kernel⟩
theorem pfX7_27 : zl_PF RX7 27 7 4 (.array .int) := ⟨RX7, TX7, 5, tyX7, rfl, by decide, zt_inX7, (zt_mem 245 (by decide +kernel) rfl), tyX7_ok, nmX7, rfl, rfl, by decide +kernel⟩
set_option maxRecDepth 20000 in
set_option maxHeartbeats 4000000 in
theorem c_within (D : va_G) (ar : Nat → ClassId) (a lo hi : Int) (ha : zi_r a) (hlo : zi_r lo) (hhi : zi_r hi) : zn_Met D ar mX10_within 0 0 [] [zv_i a, zv_i lo, zv_i hi] (fun v w => v = some (zv_i (zi_b (lo ≤ a ∧ a ≤ hi))) ∧ w = []) := by
  refine zn_of (by decide +kernel) (Nat.le_of_ble_eq_true rfl) ?_
  intro x C hr
  show zn_W D mX10_within x 0 [(0, zv_i a), (1, zv_i lo), (2, zv_i hi)] [] [] 0 0
  refine zn_iload_n (pc := 0) C dX10_within_0 0 rfl ?_
  refine zn_iload_n (pc := 1) C dX10_within_1 1 rfl ?_
  refine zn_icmp_lt (pc := 2) C 14 dX10_within_2 (by decide) (by omega) (by omega) (fun h_1 => ?_) (fun h_1 => ?_)
  · refine zn_iconst (pc := 14) C dX10_within_14 ?_
    exact zn_zret (pc := 15) C hr dX10_within_15 rfl (by decide) (Nat.le_of_ble_eq_true rfl) (Nat.le_of_ble_eq_true rfl) (⟨zq_0 (by omega), rfl⟩)
  · refine zn_iload_n (pc := 5) C dX10_within_5 0 rfl ?_
    refine zn_iload_n (pc := 6) C dX10_within_6 2 rfl ?_
    refine zn_icmp_gt (pc := 7) C 14 dX10_within_7 (by decide) (by omega) (by omega) (fun h_2 => ?_) (fun h_2 => ?_)
    · refine zn_iconst (pc := 14) C dX10_within_14 ?_
      exact zn_zret (pc := 15) C hr dX10_within_15 rfl (by decide) (Nat.le_of_ble_eq_true rfl) (Nat.le_of_ble_eq_true rfl) (⟨zq_0 (by omega), rfl⟩)
    · refine zn_iconst (pc := 10) C dX10_within_10 ?_
      refine zn_goto (pc := 11) C 15 dX10_within_11 (by decide) ?_
      exact zn_zret (pc := 15) C hr dX10_within_15 rfl (by decide) (Nat.le_of_ble_eq_true rfl) (Nat.le_of_ble_eq_true rfl) (⟨zq_1 (by omega), rfl⟩)

set_option maxRecDepth 20000 in
set_option maxHeartbeats 4000000 in
theorem c_0 (D : va_G) (ar : Nat → ClassId) (b : Nat) : zn_Met D ar mX0_init 1 3 [(b, .inr (0, [zv_i 0, zv_i 0, .null]))] [.ref b] (fun v w => v = none ∧ ∃ c1, w = [(b, .inr (0, [zv_i 0, zv_i 0, .ref c1])), (c1, .inl (ar 0, 3, .inl (fun _ => zi_w 0)))]) := by
  refine zn_of (by decide +kernel) (Nat.le_of_ble_eq_true rfl) ?_
  intro x C hr
  show zn_W D mX0_init x 0 [(0, .ref b)] [] [(b, .inr (0, [zv_i 0, zv_i 0, .null]))] 0 0
  refine zn_aload_n (pc := 0) C dX0_init_0 0 rfl ?_
  refine zn_obj (pc := 1) C dX0_init_1 (zt_mem 262 (by decide +kernel) rfl) zo_i zo_c rfl ⟨Nat.le_of_ble_eq_true rfl, Nat.le_of_ble_eq_true rfl⟩ ?_
  refine zn_aload_n (pc := 4) C dX0_init_4 0 rfl ?_
  refine zn_iconst (pc := 5) C dX0_init_5 ?_
  refine zn_newa (N := 3) (Nm := 3) (a0 := (3, .inl (fun _ => zi_w 0))) (pc := 6) C 0 (by decide) rfl (zt_mem 86 (by decide +kernel) rfl) dX0_init_6 (by decide) (Nat.le_refl _) (by decide) (by decide) (fun _ => rfl) (Nat.le_of_ble_eq_true rfl) (Nat.le_of_ble_eq_true rfl) (fun q_1 => ?_)
  refine zn_putF (i := 0) (ws' := [(b, .inr (0, [zv_i 0, zv_i 0, .ref q_1])), (q_1, .inl (ar 0, 3, .inl (fun _ => zi_w 0)))]) (pc := 8) C 2 dX0_init_8 pfX0_9 rfl rfl rfl rfl (Nat.le_of_ble_eq_true rfl) rfl ?_
  show zn_W D mX0_init x 11 [(0, .ref b)] [] [(b, .inr (0, [zv_i 0, zv_i 0, .ref q_1])), (q_1, .inl (ar 0, 3, .inl (fun _ => zi_w 0)))] _ _
  refine zn_vret (pc := 11) C hr dX0_init_11 rfl ?_ ?_ ?_
  · exact Nat.le_of_ble_eq_true rfl
  · exact Nat.le_of_ble_eq_true rfl
  · exact ⟨rfl, q_1, rfl⟩

set_option maxRecDepth 20000 in
set_option maxHeartbeats 4000000 in
theorem c_5 (D : va_G) (ar : Nat → ClassId) (b : Nat) : zn_Met D ar mX5_init 1 57 [(b, .inr (5, [zv_i 0, zv_i 0, .null]))] [.ref b] (fun v w => v = none ∧ ∃ c1, w = [(b, .inr (5, [zv_i 0, zv_i 0, .ref c1])), (c1, .inl (ar 0, 57, .inl (fun _ => zi_w 0)))]) := by
  refine zn_of (by decide +kernel) (Nat.le_of_ble_eq_true rfl) ?_
  intro x C hr
  show zn_W D mX5_init x 0 [(0, .ref b)] [] [(b, .inr (5, [zv_i 0, zv_i 0, .null]))] 0 0
  refine zn_aload_n (pc := 0) C dX5_init_0 0 rfl ?_
  refine zn_obj (pc := 1) C dX5_init_1 (zt_mem 121 (by decide +kernel) rfl) zo_i zo_c rfl ⟨Nat.le_of_ble_eq_true rfl, Nat.le_of_ble_eq_true rfl⟩ ?_
  refine zn_aload_n (pc := 4) C dX5_init_4 0 rfl ?_
  refine zn_bipush (pc := 5) C dX5_init_5 (by decide) ?_
  refine zn_newa (N := 57) (Nm := 57) (a0 := (57, .inl (fun _ => zi_w 0))) (pc := 7) C 0 (by decide) rfl (zt_mem 86 (by decide +kernel) rfl) dX5_init_7 (by decide) (Nat.le_refl _) (by decide) (by decide) (fun _ => rfl) (Nat.le_of_ble_eq_true rfl) (Nat.le_of_ble_eq_true rfl) (fun q_1 => ?_)
  refine zn_putF (i := 0) (ws' := [(b, .inr (5, [zv_i 0, zv_i 0, .ref q_1])), (q_1, .inl (ar 0, 57, .inl (fun _ => zi_w 0)))]) (pc := 9) C 2 dX5_init_9 pfX5_9 rfl rfl rfl rfl (Nat.le_of_ble_eq_true rfl) rfl ?_
  show zn_W D mX5_init x 12 [(0, .ref b)] [] [(b, .inr (5, [zv_i 0, zv_i 0, .ref q_1])), (q_1, .inl (ar 0, 57, .inl (fun _ => zi_w 0)))] _ _
  refine zn_vret (pc := 12) C hr dX5_init_12 rfl ?_ ?_ ?_
  · exact Nat.le_of_ble_eq_true rfl
  · exact Nat.le_of_ble_eq_true rfl
  · exact ⟨rfl, q_1, rfl⟩

set_option maxRecDepth 20000 in
set_option maxHeartbeats 4000000 in
theorem c_3 (D : va_G) (ar : Nat → ClassId) (b : Nat) : zn_Met D ar mX3_init 1 240 [(b, .inr (3, [zv_i 0, zv_i 0, .null]))] [.ref b] (fun v w => v = none ∧ ∃ c1, w = [(b, .inr (3, [zv_i 0, zv_i 0, .ref c1])), (c1, .inl (ar 0, 240, .inl (fun _ => zi_w 0)))]) := by
  refine zn_of (by decide +kernel) (Nat.le_of_ble_eq_true rfl) ?_
  intro x C hr
  show zn_W D mX3_init x 0 [(0, .ref b)] [] [(b, .inr (3, [zv_i 0, zv_i 0, .null]))] 0 0
  refine zn_aload_n (pc := 0) C dX3_init_0 0 rfl ?_
  refine zn_obj (pc := 1) C dX3_init_1 (zt_mem 73 (by decide +kernel) rfl) zo_i zo_c rfl ⟨Nat.le_of_ble_eq_true rfl, Nat.le_of_ble_eq_true rfl⟩ ?_
  refine zn_aload_n (pc := 4) C dX3_init_4 0 rfl ?_
  refine zn_sipush (pc := 5) C dX3_init_5 (by decide) ?_
  refine zn_newa (N := 240) (Nm := 240) (a0 := (240, .inl (fun _ => zi_w 0))) (pc := 8) C 0 (by decide) rfl (zt_mem 86 (by decide +kernel) rfl) dX3_init_8 (by decide) (Nat.le_refl _) (by decide) (by decide) (fun _ => rfl) (Nat.le_of_ble_eq_true rfl) (Nat.le_of_ble_eq_true rfl) (fun q_1 => ?_)
  refine zn_putF (i := 0) (ws' := [(b, .inr (3, [zv_i 0, zv_i 0, .ref q_1])), (q_1, .inl (ar 0, 240, .inl (fun _ => zi_w 0)))]) (pc := 10) C 2 dX3_init_10 pfX3_9 rfl rfl rfl rfl (Nat.le_of_ble_eq_true rfl) rfl ?_
  show zn_W D mX3_init x 13 [(0, .ref b)] [] [(b, .inr (3, [zv_i 0, zv_i 0, .ref q_1])), (q_1, .inl (ar 0, 240, .inl (fun _ => zi_w 0)))] _ _
  refine zn_vret (pc := 13) C hr dX3_init_13 rfl ?_ ?_ ?_
  · exact Nat.le_of_ble_eq_true rfl
  · exact Nat.le_of_ble_eq_true rfl
  · exact ⟨rfl, q_1, rfl⟩

set_option maxRecDepth 20000 in
set_option maxHeartbeats 4000000 in
theorem c_6 (D : va_G) (ar : Nat → ClassId) (b : Nat) : zn_Met D ar mX6_init 3 14 [(b, .inr (6, [.null, .null, .null]))] [.ref b] (fun v w => v = none ∧ ∃ c1 c2 c3, w = [(b, .inr (6, [.ref c1, .ref c2, .ref c3])), (c1, .inl (ar 0, 6, .inl (fun _ => zi_w 0))), (c2, .inl (ar 0, 4, .inl (fun _ => zi_w 0))), (c3, .inl (ar 0, 4, .inl (fun _ => zi_w 0)))]) := by
  refine zn_of (by decide +kernel) (Nat.le_of_ble_eq_true rfl) ?_
  intro x C hr
  show zn_W D mX6_init x 0 [(0, .ref b)] [] [(b, .inr (6, [.null, .null, .null]))] 0 0
  refine zn_aload_n (pc := 0) C dX6_init_0 0 rfl ?_
  refine zn_obj (pc := 1) C dX6_init_1 (zt_mem 171 (by decide +kernel) rfl) zo_i zo_c rfl ⟨Nat.le_of_ble_eq_true rfl, Nat.le_of_ble_eq_true rfl⟩ ?_
  refine zn_aload_n (pc := 4) C dX6_init_4 0 rfl ?_
  refine zn_bipush (pc := 5) C dX6_init_5 (by decide) ?_
  refine zn_newa (N := 6) (Nm := 6) (a0 := (6, .inl (fun _ => zi_w 0))) (pc := 7) C 0 (by decide) rfl (zt_mem 86 (by decide +kernel) rfl) dX6_init_7 (by decide) (Nat.le_refl _) (by decide) (by decide) (fun _ => rfl) (Nat.le_of_ble_eq_true rfl) (Nat.le_of_ble_eq_true rfl) (fun q_1 => ?_)
  refine zn_putF (i := 0) (ws' := [(b, .inr (6, [.ref q_1, .null, .null])), (q_1, .inl (ar 0, 6, .inl (fun _ => zi_w 0)))]) (pc := 9) C 0 dX6_init_9 pfX6_9 rfl rfl rfl rfl (Nat.le_of_ble_eq_true rfl) rfl ?_
  refine zn_aload_n (pc := 12) C dX6_init_12 0 rfl ?_
  refine zn_iconst (pc := 13) C dX6_init_13 ?_
  refine zn_newa (N := 4) (Nm := 4) (a0 := (4, .inl (fun _ => zi_w 0))) (pc := 14) C 0 (by decide) rfl (zt_mem 86 (by decide +kernel) rfl) dX6_init_14 (by decide) (Nat.le_refl _) (by decide) (by decide) (fun _ => rfl) (Nat.le_of_ble_eq_true rfl) (Nat.le_of_ble_eq_true rfl) (fun q_2 => ?_)
  refine zn_putF (i := 0) (ws' := [(b, .inr (6, [.ref q_1, .ref q_2, .null])), (q_1, .inl (ar 0, 6, .inl (fun _ => zi_w 0))), (q_2, .inl (ar 0, 4, .inl (fun _ => zi_w 0)))]) (pc := 16) C 1 dX6_init_16 pfX6_15 rfl rfl rfl rfl (Nat.le_of_ble_eq_true rfl) rfl ?_
  refine zn_aload_n (pc := 19) C dX6_init_19 0 rfl ?_
  refine zn_iconst (pc := 20) C dX6_init_20 ?_
  refine zn_newa (N := 4) (Nm := 4) (a0 := (4, .inl (fun _ => zi_w 0))) (pc := 21) C 0 (by decide) rfl (zt_mem 86 (by decide +kernel) rfl) dX6_init_21 (by decide) (Nat.le_refl _) (by decide) (by decide) (fun _ => rfl) (Nat.le_of_ble_eq_true rfl) (Nat.le_of_ble_eq_true rfl) (fun q_3 => ?_)
  refine zn_putF (i := 0) (ws' := [(b, .inr (6, [.ref q_1, .ref q_2, .ref q_3])), (q_1, .inl (ar 0, 6, .inl (fun _ => zi_w 0))), (q_2, .inl (ar 0, 4, .inl (fun _ => zi_w 0))), (q_3, .inl (ar 0, 4, .inl (fun _ => zi_w 0)))]) (pc := 23) C 2 dX6_init_23 pfX6_18 rfl rfl rfl rfl (Nat.le_of_ble_eq_true rfl) rfl ?_
  show zn_W D mX6_init x 26 [(0, .ref b)] [] [(b, .inr (6, [.ref q_1, .ref q_2, .ref q_3])), (q_1, .inl (ar 0, 6, .inl (fun _ => zi_w 0))), (q_2, .inl (ar 0, 4, .inl (fun _ => zi_w 0))), (q_3, .inl (ar 0, 4, .inl (fun _ => zi_w 0)))] _ _
  refine zn_vret (pc := 26) C hr dX6_init_26 rfl ?_ ?_ ?_
  · exact Nat.le_of_ble_eq_true rfl
  · exact Nat.le_of_ble_eq_true rfl
  · exact ⟨rfl, q_1, q_2, q_3, rfl⟩

set_option maxRecDepth 20000 in
set_option maxHeartbeats 4000000 in
theorem c_2 (D : va_G) (ar : Nat → ClassId) (b : Nat) : zn_Met D ar mX2_init 4 9119 [(b, .inr (2, [.null, .null, .null, .null]))] [.ref b] (fun v w => v = none ∧ ∃ c1 c2 c3 c4, w = [(b, .inr (2, [.ref c1, .ref c2, .ref c3, .ref c4])), (c1, .inl (ar 0, 6, .inl (fun _ => zi_w 0))), (c2, .inl (ar 0, 6, .inl (fun _ => zi_w 0))), (c3, .inl (ar 0, 6, .inl (fun _ => zi_w 0))), (c4, .inl (ar 0, 9101, .inl (fun _ => zi_w 0)))]) := by
  refine zn_of (by decide +kernel) (Nat.le_of_ble_eq_true rfl) ?_
  intro x C hr
  show zn_W D mX2_init x 0 [(0, .ref b)] [] [(b, .inr (2, [.null, .null, .null, .null]))] 0 0
  refine zn_aload_n (pc := 0) C dX2_init_0 0 rfl ?_
  refine zn_obj (pc := 1) C dX2_init_1 (zt_mem 190 (by decide +kernel) rfl) zo_i zo_c rfl ⟨Nat.le_of_ble_eq_true rfl, Nat.le_of_ble_eq_true rfl⟩ ?_
  refine zn_aload_n (pc := 4) C dX2_init_4 0 rfl ?_
  refine zn_bipush (pc := 5) C dX2_init_5 (by decide) ?_
  refine zn_newa (N := 6) (Nm := 6) (a0 := (6, .inl (fun _ => zi_w 0))) (pc := 7) C 0 (by decide) rfl (zt_mem 86 (by decide +kernel) rfl) dX2_init_7 (by decide) (Nat.le_refl _) (by decide) (by decide) (fun _ => rfl) (Nat.le_of_ble_eq_true rfl) (Nat.le_of_ble_eq_true rfl) (fun q_1 => ?_)
  refine zn_putF (i := 0) (ws' := [(b, .inr (2, [.ref q_1, .null, .null, .null])), (q_1, .inl (ar 0, 6, .inl (fun _ => zi_w 0)))]) (pc := 9) C 0 dX2_init_9 pfX2_9 rfl rfl rfl rfl (Nat.le_of_ble_eq_true rfl) rfl ?_
  refine zn_aload_n (pc := 12) C dX2_init_12 0 rfl ?_
  refine zn_bipush (pc := 13) C dX2_init_13 (by decide) ?_
  refine zn_newa (N := 6) (Nm := 6) (a0 := (6, .inl (fun _ => zi_w 0))) (pc := 15) C 0 (by decide) rfl (zt_mem 86 (by decide +kernel) rfl) dX2_init_15 (by decide) (Nat.le_refl _) (by decide) (by decide) (fun _ => rfl) (Nat.le_of_ble_eq_true rfl) (Nat.le_of_ble_eq_true rfl) (fun q_2 => ?_)
  refine zn_putF (i := 0) (ws' := [(b, .inr (2, [.ref q_1, .ref q_2, .null, .null])), (q_1, .inl (ar 0, 6, .inl (fun _ => zi_w 0))), (q_2, .inl (ar 0, 6, .inl (fun _ => zi_w 0)))]) (pc := 17) C 1 dX2_init_17 pfX2_15 rfl rfl rfl rfl (Nat.le_of_ble_eq_true rfl) rfl ?_
  refine zn_aload_n (pc := 20) C dX2_init_20 0 rfl ?_
  refine zn_bipush (pc := 21) C dX2_init_21 (by decide) ?_
  refine zn_newa (N := 6) (Nm := 6) (a0 := (6, .inl (fun _ => zi_w 0))) (pc := 23) C 0 (by decide) rfl (zt_mem 86 (by decide +kernel) rfl) dX2_init_23 (by decide) (Nat.le_refl _) (by decide) (by decide) (fun _ => rfl) (Nat.le_of_ble_eq_true rfl) (Nat.le_of_ble_eq_true rfl) (fun q_3 => ?_)
  refine zn_putF (i := 0) (ws' := [(b, .inr (2, [.ref q_1, .ref q_2, .ref q_3, .null])), (q_1, .inl (ar 0, 6, .inl (fun _ => zi_w 0))), (q_2, .inl (ar 0, 6, .inl (fun _ => zi_w 0))), (q_3, .inl (ar 0, 6, .inl (fun _ => zi_w 0)))]) (pc := 25) C 2 dX2_init_25 pfX2_18 rfl rfl rfl rfl (Nat.le_of_ble_eq_true rfl) rfl ?_
  refine zn_aload_n (pc := 28) C dX2_init_28 0 rfl ?_
  refine zn_sipush (pc := 29) C dX2_init_29 (by decide) ?_
  refine zn_newa (N := 9101) (Nm := 9101) (a0 := (9101, .inl (fun _ => zi_w 0))) (pc := 32) C 0 (by decide) rfl (zt_mem 86 (by decide +kernel) rfl) dX2_init_32 (by decide) (Nat.le_refl _) (by decide) (by decide) (fun _ => rfl) (Nat.le_of_ble_eq_true rfl) (Nat.le_of_ble_eq_true rfl) (fun q_4 => ?_)
  refine zn_putF (i := 0) (ws' := [(b, .inr (2, [.ref q_1, .ref q_2, .ref q_3, .ref q_4])), (q_1, .inl (ar 0, 6, .inl (fun _ => zi_w 0))), (q_2, .inl (ar 0, 6, .inl (fun _ => zi_w 0))), (q_3, .inl (ar 0, 6, .inl (fun _ => zi_w 0))), (q_4, .inl (ar 0, 9101, .inl (fun _ => zi_w 0)))]) (pc := 34) C 3 dX2_init_34 pfX2_21 rfl rfl rfl rfl (Nat.le_of_ble_eq_true rfl) rfl ?_
  show zn_W D mX2_init x 37 [(0, .ref b)] [] [(b, .inr (2, [.ref q_1, .ref q_2, .ref q_3, .ref q_4])), (q_1, .inl (ar 0, 6, .inl (fun _ => zi_w 0))), (q_2, .inl (ar 0, 6, .inl (fun _ => zi_w 0))), (q_3, .inl (ar 0, 6, .inl (fun _ => zi_w 0))), (q_4, .inl (ar 0, 9101, .inl (fun _ => zi_w 0)))] _ _
  refine zn_vret (pc := 37) C hr dX2_init_37 rfl ?_ ?_ ?_
  · exact Nat.le_of_ble_eq_true rfl
  · exact Nat.le_of_ble_eq_true rfl
  · exact ⟨rfl, q_1, q_2, q_3, q_4, rfl⟩

set_option maxRecDepth 20000 in
set_option maxHeartbeats 4000000 in
theorem c_4 (D : va_G) (ar : Nat → ClassId) (b n : Nat) (hn : n ≤ 180) : zn_Met D ar mX4_init 2 360 [(b, .inr (4, [zv_i 0, .null, .null]))] [.ref b, zv_i ((n : Int))] (fun v w => v = none ∧ ∃ c1 c2, w = [(b, .inr (4, [zv_i 0, .ref c1, .ref c2])), (c1, .inl (ar 0, n, .inl (fun _ => zi_w 0))), (c2, .inl (ar 0, n, .inl (fun _ => zi_w 0)))]) := by
  refine zn_of (by decide +kernel) (Nat.le_of_ble_eq_true rfl) ?_
  intro x C hr
  show zn_W D mX4_init x 0 [(0, .ref b), (1, zv_i ((n : Int)))] [] [(b, .inr (4, [zv_i 0, .null, .null]))] 0 0
  refine zn_aload_n (pc := 0) C dX4_init_0 0 rfl ?_
  refine zn_obj (pc := 1) C dX4_init_1 (zt_mem 218 (by decide +kernel) rfl) zo_i zo_c rfl ⟨Nat.le_of_ble_eq_true rfl, Nat.le_of_ble_eq_true rfl⟩ ?_
  refine zn_aload_n (pc := 4) C dX4_init_4 0 rfl ?_
  refine zn_iload_n (pc := 5) C dX4_init_5 1 rfl ?_
  refine zn_newa (N := n) (Nm := 180) (a0 := (n, .inl (fun _ => zi_w 0))) (pc := 6) C 0 (by decide) rfl (zt_mem 86 (by decide +kernel) rfl) dX4_init_6 (by omega) (by omega) (by decide) (by decide) (fun _ => rfl) (Nat.le_of_ble_eq_true rfl) (Nat.le_of_ble_eq_true rfl) (fun q_1 => ?_)
  refine zn_putF (i := 0) (ws' := [(b, .inr (4, [zv_i 0, .ref q_1, .null])), (q_1, .inl (ar 0, n, .inl (fun _ => zi_w 0)))]) (pc := 8) C 1 dX4_init_8 pfX4_7 rfl rfl rfl rfl (Nat.le_of_ble_eq_true rfl) rfl ?_
  refine zn_aload_n (pc := 11) C dX4_init_11 0 rfl ?_
  refine zn_iload_n (pc := 12) C dX4_init_12 1 rfl ?_
  refine zn_newa (N := n) (Nm := 180) (a0 := (n, .inl (fun _ => zi_w 0))) (pc := 13) C 0 (by decide) rfl (zt_mem 86 (by decide +kernel) rfl) dX4_init_13 (by omega) (by omega) (by decide) (by decide) (fun _ => rfl) (Nat.le_of_ble_eq_true rfl) (Nat.le_of_ble_eq_true rfl) (fun q_2 => ?_)
  refine zn_putF (i := 0) (ws' := [(b, .inr (4, [zv_i 0, .ref q_1, .ref q_2])), (q_1, .inl (ar 0, n, .inl (fun _ => zi_w 0))), (q_2, .inl (ar 0, n, .inl (fun _ => zi_w 0)))]) (pc := 15) C 2 dX4_init_15 pfX4_13 rfl rfl rfl rfl (Nat.le_of_ble_eq_true rfl) rfl ?_
  show zn_W D mX4_init x 18 [(0, .ref b), (1, zv_i ((n : Int)))] [] [(b, .inr (4, [zv_i 0, .ref q_1, .ref q_2])), (q_1, .inl (ar 0, n, .inl (fun _ => zi_w 0))), (q_2, .inl (ar 0, n, .inl (fun _ => zi_w 0)))] _ _
  refine zn_vret (pc := 18) C hr dX4_init_18 rfl ?_ ?_ ?_
  · exact Nat.le_of_ble_eq_true rfl
  · exact Nat.le_of_ble_eq_true rfl
  · exact ⟨rfl, q_1, q_2, rfl⟩

set_option maxRecDepth 20000 in
set_option maxHeartbeats 4000000 in
theorem c_7 (D : va_G) (ar : Nat → ClassId) (b : Nat) : zn_Met D ar mX7_init 7 732 [(b, .inr (7, [zv_i 0, zv_i 0, .null, .null, .null]))] [.ref b] (fun v w => v = none ∧ ∃ l1 s1 p1 l2 s2 p2 pr, w = [(b, .inr (7, [zv_i (-1), zv_i 0, .ref l1, .ref l2, .ref pr])), (l1, .inr (4, [zv_i 0, .ref s1, .ref p1])), (s1, .inl (ar 0, 180, .inl (fun _ => zi_w 0))), (p1, .inl (ar 0, 180, .inl (fun _ => zi_w 0))), (l2, .inr (4, [zv_i 0, .ref s2, .ref p2])), (s2, .inl (ar 0, 90, .inl (fun _ => zi_w 0))), (p2, .inl (ar 0, 90, .inl (fun _ => zi_w 0))), (pr, .inl (ar 0, 6, .inl (fun _ => zi_w 0)))]) := by
  refine zn_of (by decide +kernel) (Nat.le_of_ble_eq_true rfl) ?_
  intro x C hr
  show zn_W D mX7_init x 0 [(0, .ref b)] [] [(b, .inr (7, [zv_i 0, zv_i 0, .null, .null, .null]))] 0 0
  refine zn_aload_n (pc := 0) C dX7_init_0 0 rfl ?_
  refine zn_obj (pc := 1) C dX7_init_1 (zt_mem 212 (by decide +kernel) rfl) zo_i zo_c rfl ⟨Nat.le_of_ble_eq_true rfl, Nat.le_of_ble_eq_true rfl⟩ ?_
  refine zn_aload_n (pc := 4) C dX7_init_4 0 rfl ?_
  refine zn_iconst (pc := 5) C dX7_init_5 ?_
  refine zn_put (i := 0) (ws' := [(b, .inr (7, [zv_i ((-1)), zv_i 0, .null, .null, .null]))]) (pc := 6) C 0 dX7_init_6 pnX7_9 rfl rfl rfl (Nat.le_of_ble_eq_true rfl) rfl ?_
  refine zn_aload_n (pc := 9) C dX7_init_9 0 rfl ?_
  refine zn_new (pc := 10) C dX7_init_10 nwX7_15 (Nat.le_of_ble_eq_true rfl) (Nat.le_of_ble_eq_true rfl) (fun q_1 => ?_)
  refine zn_dup (pc := 13) C dX7_init_13 rfl ?_
  refine zn_sipush (pc := 14) C dX7_init_14 (by decide) ?_
  refine zn_callI (wr := [(b, .inr (7, [zv_i ((-1)), zv_i 0, .null, .null, .null]))]) (As := [zv_i 180]) (rest := [.ref q_1, .ref b]) (pc := 17) C dX7_init_17 kX4_init jiX7_17 rfl ⟨Nat.le_of_ble_eq_true rfl, Nat.le_of_ble_eq_true rfl⟩ rfl (Nat.le_of_ble_eq_true rfl) (Nat.le_of_ble_eq_true rfl) (Nat.le_of_ble_eq_true rfl) rfl (c_4 D ar q_1 180 (by decide)) (fun v_ w_ h_ => ?_)
  obtain ⟨rfl, q_2, q_3, rfl⟩ := h_
  show zn_W D mX7_init x 20 [(0, .ref b)] [.ref q_1, .ref b] [(b, .inr (7, [zv_i ((-1)), zv_i 0, .null, .null, .null])), (q_1, .inr (4, [zv_i 0, .ref q_2, .ref q_3])), (q_2, .inl (ar 0, 180, .inl (fun _ => zi_w 0))), (q_3, .inl (ar 0, 180, .inl (fun _ => zi_w 0)))] _ _
  refine zn_putF (i := 0) (ws' := [(b, .inr (7, [zv_i ((-1)), zv_i 0, .ref q_1, .null, .null])), (q_1, .inr (4, [zv_i 0, .ref q_2, .ref q_3])), (q_2, .inl (ar 0, 180, .inl (fun _ => zi_w 0))), (q_3, .inl (ar 0, 180, .inl (fun _ => zi_w 0)))]) (pc := 20) C 2 dX7_init_20 pfX7_20 rfl rfl rfl rfl (Nat.le_of_ble_eq_true rfl) rfl ?_
  refine zn_aload_n (pc := 23) C dX7_init_23 0 rfl ?_
  refine zn_new (pc := 24) C dX7_init_24 nwX7_15 (Nat.le_of_ble_eq_true rfl) (Nat.le_of_ble_eq_true rfl) (fun q_4 => ?_)
  refine zn_dup (pc := 27) C dX7_init_27 rfl ?_
  refine zn_bipush (pc := 28) C dX7_init_28 (by decide) ?_
  refine zn_callI (wr := [(b, .inr (7, [zv_i ((-1)), zv_i 0, .ref q_1, .null, .null])), (q_1, .inr (4, [zv_i 0, .ref q_2, .ref q_3])), (q_2, .inl (ar 0, 180, .inl (fun _ => zi_w 0))), (q_3, .inl (ar 0, 180, .inl (fun _ => zi_w 0)))]) (As := [zv_i 90]) (rest := [.ref q_4, .ref b]) (pc := 30) C dX7_init_30 kX4_init jiX7_17 rfl ⟨Nat.le_of_ble_eq_true rfl, Nat.le_of_ble_eq_true rfl⟩ rfl (Nat.le_of_ble_eq_true rfl) (Nat.le_of_ble_eq_true rfl) (Nat.le_of_ble_eq_true rfl) rfl (c_4 D ar q_4 90 (by decide)) (fun v_ w_ h_ => ?_)
  obtain ⟨rfl, q_5, q_6, rfl⟩ := h_
  show zn_W D mX7_init x 33 [(0, .ref b)] [.ref q_4, .ref b] [(b, .inr (7, [zv_i ((-1)), zv_i 0, .ref q_1, .null, .null])), (q_1, .inr (4, [zv_i 0, .ref q_2, .ref q_3])), (q_2, .inl (ar 0, 180, .inl (fun _ => zi_w 0))), (q_3, .inl (ar 0, 180, .inl (fun _ => zi_w 0))), (q_4, .inr (4, [zv_i 0, .ref q_5, .ref q_6])), (q_5, .inl (ar 0, 90, .inl (fun _ => zi_w 0))), (q_6, .inl (ar 0, 90, .inl (fun _ => zi_w 0)))] _ _
  refine zn_putF (i := 0) (ws' := [(b, .inr (7, [zv_i ((-1)), zv_i 0, .ref q_1, .ref q_4, .null])), (q_1, .inr (4, [zv_i 0, .ref q_2, .ref q_3])), (q_2, .inl (ar 0, 180, .inl (fun _ => zi_w 0))), (q_3, .inl (ar 0, 180, .inl (fun _ => zi_w 0))), (q_4, .inr (4, [zv_i 0, .ref q_5, .ref q_6])), (q_5, .inl (ar 0, 90, .inl (fun _ => zi_w 0))), (q_6, .inl (ar 0, 90, .inl (fun _ => zi_w 0)))]) (pc := 33) C 3 dX7_init_33 pfX7_24 rfl rfl rfl rfl (Nat.le_of_ble_eq_true rfl) rfl ?_
  refine zn_aload_n (pc := 36) C dX7_init_36 0 rfl ?_
  refine zn_bipush (pc := 37) C dX7_init_37 (by decide) ?_
  refine zn_newa (N := 6) (Nm := 6) (a0 := (6, .inl (fun _ => zi_w 0))) (pc := 39) C 0 (by decide) rfl (zt_mem 86 (by decide +kernel) rfl) dX7_init_39 (by decide) (Nat.le_refl _) (by decide) (by decide) (fun _ => rfl) (Nat.le_of_ble_eq_true rfl) (Nat.le_of_ble_eq_true rfl) (fun q_7 => ?_)
  refine zn_putF (i := 0) (ws' := [(b, .inr (7, [zv_i ((-1)), zv_i 0, .ref q_1, .ref q_4, .ref q_7])), (q_1, .inr (4, [zv_i 0, .ref q_2, .ref q_3])), (q_2, .inl (ar 0, 180, .inl (fun _ => zi_w 0))), (q_3, .inl (ar 0, 180, .inl (fun _ => zi_w 0))), (q_4, .inr (4, [zv_i 0, .ref q_5, .ref q_6])), (q_5, .inl (ar 0, 90, .inl (fun _ => zi_w 0))), (q_6, .inl (ar 0, 90, .inl (fun _ => zi_w 0))), (q_7, .inl (ar 0, 6, .inl (fun _ => zi_w 0)))]) (pc := 41) C 4 dX7_init_41 pfX7_27 rfl rfl rfl rfl (Nat.le_of_ble_eq_true rfl) rfl ?_
  show zn_W D mX7_init x 44 [(0, .ref b)] [] [(b, .inr (7, [zv_i ((-1)), zv_i 0, .ref q_1, .ref q_4, .ref q_7])), (q_1, .inr (4, [zv_i 0, .ref q_2, .ref q_3])), (q_2, .inl (ar 0, 180, .inl (fun _ => zi_w 0))), (q_3, .inl (ar 0, 180, .inl (fun _ => zi_w 0))), (q_4, .inr (4, [zv_i 0, .ref q_5, .ref q_6])), (q_5, .inl (ar 0, 90, .inl (fun _ => zi_w 0))), (q_6, .inl (ar 0, 90, .inl (fun _ => zi_w 0))), (q_7, .inl (ar 0, 6, .inl (fun _ => zi_w 0)))] _ _
  refine zn_vret (pc := 44) C hr dX7_init_44 rfl ?_ ?_ ?_
  · exact Nat.le_of_ble_eq_true rfl
  · exact Nat.le_of_ble_eq_true rfl
  · exact ⟨rfl, q_1, q_2, q_3, q_4, q_5, q_6, q_7, rfl⟩
