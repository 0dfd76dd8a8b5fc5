set_option maxRecDepth 20000 in
set_option maxHeartbeats 4000000 in
theorem n_diameter (g : zg_G) (σ : zs_S) (a b : Int) (har : zi_r a) (hbr : zi_r b) (n : Int) (hl : σ 67 1 = n) (hn : 1 ≤ n ∧ n ≤ 80) : zm_Met g mX11_diameter σ [.ref (g.2.2.1 67), zv_i a, zv_i b] (fun v τ => v = some (zv_i (zi_b ((0 ≤ a ∧ a ≤ n) ∧ 50 ≤ b ∧ b ≤ 900))) ∧ zy_i ((0 ≤ a ∧ a ≤ n) ∧ 50 ≤ b ∧ b ≤ 900) (τ = zs_put σ 67 0 0) (τ = zs_put (zs_put σ 67 0 0) 68 a b)) := by
  refine zm_of (by decide +kernel) (Nat.le_of_ble_eq_true rfl) ?_
  intro k C hr
  show zw_W g mX11_diameter k 0 [(0, .ref (g.2.2.1 67)), (1, zv_i a), (2, zv_i b)] [] σ
  refine zr_aload_n (pc := 0) C dX11_diameter_0 0 rfl ?_
  refine zr_iconst (pc := 1) C dX11_diameter_1 ?_
  refine zr_put (pc := 2) C 0 0 rfl dX11_diameter_2 pX11_84 (by decide) (hs_67 _) rfl (fun τ_1 e_2 => ?_)
  have hl1 : τ_1 67 1 = n := by rw [e_2, zs_put_off (by decide)]; exact hl
  refine zr_iload_n (pc := 5) C dX11_diameter_5 1 rfl ?_
  refine zr_iconst (pc := 6) C dX11_diameter_6 ?_
  refine zr_aload_n (pc := 7) C dX11_diameter_7 0 rfl ?_
  refine zr_get (v := zv_i (τ_1 67 1)) (pc := 8) C 1 none dX11_diameter_8 fX11_77 (by decide) (hs_67 _) rfl rfl ?_
  refine zr_callS (As := [zv_i a, zv_i 0, zv_i (τ_1 67 1)]) (rest := []) (pc := 11) C dX11_diameter_11 kX11_in sX11_87 rfl (by decide) rfl (Nat.le_of_ble_eq_true rfl) (n_in g τ_1 a 0 (τ_1 67 1) (by omega) (by omega) (by omega)) (fun v_ τ_ h_ => ?_)
  obtain ⟨rfl, rfl⟩ := h_
  show zw_W g mX11_diameter k 14 [(0, .ref (g.2.2.1 67)), (1, zv_i a), (2, zv_i b)] [zv_i (zi_b (0 ≤ a ∧ a ≤ (τ_1 67 1)))] τ_1
  refine zr_if_eq_b (pc := 14) C 29 dX11_diameter_14 (by decide) (fun h_3 => ?_) (fun h_3 => ?_)
  · refine zr_iconst (pc := 29) C dX11_diameter_29 ?_
    exact zr_zret (pc := 30) C hr dX11_diameter_30 rfl (by decide) (⟨zq_0 (by omega), zy_n (by omega) e_2⟩)
  · refine zr_iload_n (pc := 17) C dX11_diameter_17 2 rfl ?_
    refine zr_bipush (pc := 18) C dX11_diameter_18 (by decide) ?_
    refine zr_sipush (pc := 20) C dX11_diameter_20 (by decide) ?_
    refine zr_callS (As := [zv_i b, zv_i 50, zv_i 900]) (rest := []) (pc := 23) C dX11_diameter_23 kX11_in sX11_87 rfl (by decide) rfl (Nat.le_of_ble_eq_true rfl) (n_in g τ_1 b 50 900 (by omega) (by omega) (by omega)) (fun v_ τ_ h_ => ?_)
    obtain ⟨rfl, rfl⟩ := h_
    show zw_W g mX11_diameter k 26 [(0, .ref (g.2.2.1 67)), (1, zv_i a), (2, zv_i b)] [zv_i (zi_b (50 ≤ b ∧ b ≤ 900))] τ_1
    refine zr_if_ne_b (pc := 26) C 31 dX11_diameter_26 (by decide) (fun h_4 => ?_) (fun h_4 => ?_)
    · refine zr_aload_n (pc := 31) C dX11_diameter_31 0 rfl ?_
      refine zr_get (v := .ref (g.2.2.1 68)) (pc := 32) C 2 (some (some 68)) dX11_diameter_32 fX11_7 (by decide) (hs_67 _) rfl rfl ?_
      refine zr_iload_n (pc := 35) C dX11_diameter_35 1 rfl ?_
      refine zr_iload_n (pc := 36) C dX11_diameter_36 2 rfl ?_
      refine zr_iastore (pc := 37) C dX11_diameter_37 (by decide) (hs_68 _) (by omega) (by decide) (fun τ_5 e_6 => ?_)
      refine zr_iconst (pc := 38) C dX11_diameter_38 ?_
      exact zr_zret (pc := 39) C hr dX11_diameter_39 rfl (by decide) (⟨zq_1 (by omega), zy_y (by omega) (by rw [e_6, e_2])⟩)
    · refine zr_iconst (pc := 29) C dX11_diameter_29 ?_
      exact zr_zret (pc := 30) C hr dX11_diameter_30 rfl (by decide) (⟨zq_0 (by omega), zy_n (by omega) e_2⟩)

set_option maxRecDepth 20000 in
set_option maxHeartbeats 4000000 in
theorem n_defect (g : zg_G) (σ : zs_S) (a b c : Int) (har : zi_r a) (hbr : zi_r b) (hcr : zi_r c) (n : Int) (hl : σ 67 1 = n) (hn : 1 ≤ n ∧ n ≤ 80) (hd : 0 ≤ σ 67 3 ∧ σ 67 3 ≤ 20) : zm_Met g mX11_defect σ [.ref (g.2.2.1 67), zv_i a, zv_i b, zv_i c] (fun v τ => v = some (zv_i (zi_b (((0 ≤ b ∧ b ≤ n) ∧ (0 ≤ a ∧ a ≤ b) ∧ (2 ≤ c ∧ c ≤ 3)) ∧ σ 67 3 < 20))) ∧ zy_i (((0 ≤ b ∧ b ≤ n) ∧ (0 ≤ a ∧ a ≤ b) ∧ (2 ≤ c ∧ c ≤ 3)) ∧ σ 67 3 < 20) (τ = zs_put σ 67 0 0) (τ 67 3 = σ 67 3 + 1 ∧ τ 67 1 = σ 67 1 ∧ τ 69 (σ 67 3) = a ∧ τ 70 (σ 67 3) = b ∧ τ 71 (σ 67 3) = c ∧ (∀ y, y ≠ σ 67 3 → τ 69 y = σ 69 y) ∧ (∀ y, y ≠ σ 67 3 → τ 70 y = σ 70 y) ∧ (∀ y, y ≠ σ 67 3 → τ 71 y = σ 71 y) ∧ zf_x σ τ [67, 69, 70, 71])) := by
  refine zm_of (by decide +kernel) (Nat.le_of_ble_eq_true rfl) ?_
  intro k C hr
  show zw_W g mX11_defect k 0 [(0, .ref (g.2.2.1 67)), (1, zv_i a), (2, zv_i b), (3, zv_i c)] [] σ
  refine zr_aload_n (pc := 0) C dX11_defect_0 0 rfl ?_
  refine zr_iconst (pc := 1) C dX11_defect_1 ?_
  refine zr_put (pc := 2) C 0 0 rfl dX11_defect_2 pX11_84 (by decide) (hs_67 _) rfl (fun τ_1 e_2 => ?_)
  have hl1 : τ_1 67 1 = n := by rw [e_2, zs_put_off (by decide)]; exact hl
  have hv1 : τ_1 67 3 = σ 67 3 := by rw [e_2, zs_put_off (by decide)]
  refine zr_aload_n (pc := 5) C dX11_defect_5 0 rfl ?_
  refine zr_get (v := zv_i (τ_1 67 3)) (pc := 6) C 3 none dX11_defect_6 fX11_91 (by decide) (hs_67 _) rfl rfl ?_
  refine zr_bipush (pc := 9) C dX11_defect_9 (by decide) ?_
  refine zr_icmp_eq (pc := 11) C 47 dX11_defect_11 (by decide) (by omega) (by omega) (fun h_3 => ?_) (fun h_3 => ?_)
  · refine zr_iconst (pc := 47) C dX11_defect_47 ?_
    exact zr_zret (pc := 48) C hr dX11_defect_48 rfl (by decide) (⟨zq_0 (by omega), zy_n (by omega) e_2⟩)
  · refine zr_iload_n (pc := 14) C dX11_defect_14 1 rfl ?_
    refine zr_iconst (pc := 15) C dX11_defect_15 ?_
    refine zr_aload_n (pc := 16) C dX11_defect_16 0 rfl ?_
    refine zr_get (v := zv_i (τ_1 67 1)) (pc := 17) C 1 none dX11_defect_17 fX11_77 (by decide) (hs_67 _) rfl rfl ?_
    refine zr_callS (As := [zv_i a, zv_i 0, zv_i (τ_1 67 1)]) (rest := []) (pc := 20) C dX11_defect_20 kX11_in sX11_87 rfl (by decide) rfl (Nat.le_of_ble_eq_true rfl) (n_in g τ_1 a 0 (τ_1 67 1) (by omega) (by omega) (by omega)) (fun v_ τ_ h_ => ?_)
    obtain ⟨rfl, rfl⟩ := h_
    show zw_W g mX11_defect k 23 [(0, .ref (g.2.2.1 67)), (1, zv_i a), (2, zv_i b), (3, zv_i c)] [zv_i (zi_b (0 ≤ a ∧ a ≤ (τ_1 67 1)))] τ_1
    refine zr_if_eq_b (pc := 23) C 47 dX11_defect_23 (by decide) (fun h_4 => ?_) (fun h_4 => ?_)
    · refine zr_iconst (pc := 47) C dX11_defect_47 ?_
      exact zr_zret (pc := 48) C hr dX11_defect_48 rfl (by decide) (⟨zq_0 (by omega), zy_n (by omega) e_2⟩)
    · refine zr_iload_n (pc := 26) C dX11_defect_26 2 rfl ?_
      refine zr_iload_n (pc := 27) C dX11_defect_27 1 rfl ?_
      refine zr_aload_n (pc := 28) C dX11_defect_28 0 rfl ?_
      refine zr_get (v := zv_i (τ_1 67 1)) (pc := 29) C 1 none dX11_defect_29 fX11_77 (by decide) (hs_67 _) rfl rfl ?_
      refine zr_callS (As := [zv_i b, zv_i a, zv_i (τ_1 67 1)]) (rest := []) (pc := 32) C dX11_defect_32 kX11_in sX11_87 rfl (by decide) rfl (Nat.le_of_ble_eq_true rfl) (n_in g τ_1 b a (τ_1 67 1) (by omega) (by omega) (by omega)) (fun v_ τ_ h_ => ?_)
      obtain ⟨rfl, rfl⟩ := h_
      show zw_W g mX11_defect k 35 [(0, .ref (g.2.2.1 67)), (1, zv_i a), (2, zv_i b), (3, zv_i c)] [zv_i (zi_b (a ≤ b ∧ b ≤ (τ_1 67 1)))] τ_1
      refine zr_if_eq_b (pc := 35) C 47 dX11_defect_35 (by decide) (fun h_5 => ?_) (fun h_5 => ?_)
      · refine zr_iconst (pc := 47) C dX11_defect_47 ?_
        exact zr_zret (pc := 48) C hr dX11_defect_48 rfl (by decide) (⟨zq_0 (by omega), zy_n (by omega) e_2⟩)
      · refine zr_iload_n (pc := 38) C dX11_defect_38 3 rfl ?_
        refine zr_iconst (pc := 39) C dX11_defect_39 ?_
        refine zr_iconst (pc := 40) C dX11_defect_40 ?_
        refine zr_callS (As := [zv_i c, zv_i 2, zv_i 3]) (rest := []) (pc := 41) C dX11_defect_41 kX11_in sX11_87 rfl (by decide) rfl (Nat.le_of_ble_eq_true rfl) (n_in g τ_1 c 2 3 (by omega) (by omega) (by omega)) (fun v_ τ_ h_ => ?_)
        obtain ⟨rfl, rfl⟩ := h_
        show zw_W g mX11_defect k 44 [(0, .ref (g.2.2.1 67)), (1, zv_i a), (2, zv_i b), (3, zv_i c)] [zv_i (zi_b (2 ≤ c ∧ c ≤ 3))] τ_1
        refine zr_if_ne_b (pc := 44) C 49 dX11_defect_44 (by decide) (fun h_6 => ?_) (fun h_6 => ?_)
        · refine zr_aload_n (pc := 49) C dX11_defect_49 0 rfl ?_
          refine zr_get (v := .ref (g.2.2.1 69)) (pc := 50) C 4 (some (some 69)) dX11_defect_50 fX11_13 (by decide) (hs_67 _) rfl rfl ?_
          refine zr_aload_n (pc := 53) C dX11_defect_53 0 rfl ?_
          refine zr_get (v := zv_i (τ_1 67 3)) (pc := 54) C 3 none dX11_defect_54 fX11_91 (by decide) (hs_67 _) rfl rfl ?_
          refine zr_iload_n (pc := 57) C dX11_defect_57 1 rfl ?_
          refine zr_iastore (pc := 58) C dX11_defect_58 (by decide) (hs_69 _) (by omega) (by decide) (fun τ_7 e_8 => ?_)
          have hv2 : τ_7 67 3 = σ 67 3 := by rw [e_8, zs_put_ne (by decide), hv1]
          refine zr_aload_n (pc := 59) C dX11_defect_59 0 rfl ?_
          refine zr_get (v := .ref (g.2.2.1 70)) (pc := 60) C 5 (some (some 70)) dX11_defect_60 fX11_16 (by decide) (hs_67 _) rfl rfl ?_
          refine zr_aload_n (pc := 63) C dX11_defect_63 0 rfl ?_
          refine zr_get (v := zv_i (τ_7 67 3)) (pc := 64) C 3 none dX11_defect_64 fX11_91 (by decide) (hs_67 _) rfl rfl ?_
          refine zr_iload_n (pc := 67) C dX11_defect_67 2 rfl ?_
          refine zr_iastore (pc := 68) C dX11_defect_68 (by decide) (hs_70 _) (by omega) (by decide) (fun τ_9 e_10 => ?_)
          have hv3 : τ_9 67 3 = σ 67 3 := by rw [e_10, zs_put_ne (by decide), hv2]
          refine zr_aload_n (pc := 69) C dX11_defect_69 0 rfl ?_
          refine zr_get (v := .ref (g.2.2.1 71)) (pc := 70) C 6 (some (some 71)) dX11_defect_70 fX11_19 (by decide) (hs_67 _) rfl rfl ?_
          refine zr_aload_n (pc := 73) C dX11_defect_73 0 rfl ?_
          refine zr_get (v := zv_i (τ_9 67 3)) (pc := 74) C 3 none dX11_defect_74 fX11_91 (by decide) (hs_67 _) rfl rfl ?_
          refine zr_iload_n (pc := 77) C dX11_defect_77 3 rfl ?_
          refine zr_iastore (pc := 78) C dX11_defect_78 (by decide) (hs_71 _) (by omega) (by decide) (fun τ_11 e_12 => ?_)
          have hv4 : τ_11 67 3 = σ 67 3 := by rw [e_12, zs_put_ne (by decide), hv3]
          refine zr_aload_n (pc := 79) C dX11_defect_79 0 rfl ?_
          refine zr_dup (pc := 80) C dX11_defect_80 rfl ?_
          refine zr_get (v := zv_i (τ_11 67 3)) (pc := 81) C 3 none dX11_defect_81 fX11_91 (by decide) (hs_67 _) rfl rfl ?_
          refine zr_iconst (pc := 84) C dX11_defect_84 ?_
          refine zr_iadd (pc := 85) C dX11_defect_85 ?_
          refine zr_put (pc := 86) C 3 3 rfl dX11_defect_86 pX11_91 (by decide) (hs_67 _) rfl (fun τ_13 e_14 => ?_)
          refine zr_iconst (pc := 89) C dX11_defect_89 ?_
          exact zr_zret (pc := 90) C hr dX11_defect_90 rfl (by decide) (⟨zq_1 (by omega), zy_y (by omega) (by
                    refine ⟨?_, ?_, ?_, ?_, ?_, ?_, ?_, ?_, ?_⟩
                    · rw [e_14, zs_put_self, hv4]
                    · rw [e_14, zs_put_off (by decide), e_12, zs_put_ne (by decide), e_10, zs_put_ne (by decide), e_8, zs_put_ne (by decide), e_2, zs_put_off (by decide)]
                    · rw [e_14, zs_put_ne (by decide), e_12, zs_put_ne (by decide), e_10, zs_put_ne (by decide), e_8, hv1, zs_put_self]
                    · rw [e_14, zs_put_ne (by decide), e_12, zs_put_ne (by decide), e_10, hv2, zs_put_self]
                    · rw [e_14, zs_put_ne (by decide), e_12, hv3, zs_put_self]
                    · intro y hy
                      rw [e_14, zs_put_ne (by decide), e_12, zs_put_ne (by decide), e_10, zs_put_ne (by decide), e_8, hv1, zs_put_off hy, e_2, zs_put_ne (by decide)]
                    · intro y hy
                      rw [e_14, zs_put_ne (by decide), e_12, zs_put_ne (by decide), e_10, hv2, zs_put_off hy, e_8, zs_put_ne (by decide), e_2, zs_put_ne (by decide)]
                    · intro y hy
                      rw [e_14, zs_put_ne (by decide), e_12, hv3, zs_put_off hy, e_10, zs_put_ne (by decide), e_8, zs_put_ne (by decide), e_2, zs_put_ne (by decide)]
                    · exact zf_p (zf_p (zf_p (zf_p (zf_p (zf_r σ _) e_2 (by decide)) e_8 (by decide)) e_10 (by decide)) e_12 (by decide)) e_14 (by decide))⟩)
        · refine zr_iconst (pc := 47) C dX11_defect_47 ?_
          exact zr_zret (pc := 48) C hr dX11_defect_48 rfl (by decide) (⟨zq_0 (by omega), zy_n (by omega) e_2⟩)

set_option maxRecDepth 20000 in
set_option maxHeartbeats 4000000 in
theorem l_nkind {g : zg_G} {k : zk_T} {Q : Option Value → zs_S → Prop} (C : zk_ok g mX11_logKind k) (hr : zk_ret g mX11_logKind Q k) (a b c : Int) (ha : 0 ≤ a ∧ a ≤ 5) (σ0 : zs_S) (hQ : ∀ τ, zf_x σ0 τ [74] → (∀ y, τ 74 y = if 76 * a ≤ y ∧ y < 76 * a + 76 then 0 else σ0 74 y) → Q (some (zv_i 1)) τ) : ∀ (N : Nat) (σ : zs_S) (m : Int), (76 - m).toNat < N → (0 ≤ m ∧ m ≤ 76) → (zf_x σ0 σ [74]) → (∀ y, σ 74 y = if 76 * a ≤ y ∧ y < 76 * a + m then 0 else σ0 74 y) → zw_W g mX11_logKind k 54 [(0, .ref (g.2.2.1 67)), (1, zv_i a), (2, zv_i b), (3, zv_i c), (4, zv_i m)] [] σ := by
  intro N
  induction N with
  | zero =>
    intro σ m hN
    exact absurd hN (by omega)
  | succ N ih =>
    intro σ m hN hm fr hA
    refine zr_iload (pc := 54) C dX11_logKind_54 4 rfl ?_
    refine zr_bipush (pc := 56) C dX11_logKind_56 (by decide) ?_
    refine zr_icmp_ge (pc := 58) C 80 dX11_logKind_58 (by decide) (by omega) (by omega) (fun h_1 => ?_) (fun h_1 => ?_)
    · refine zr_iconst (pc := 80) C dX11_logKind_80 ?_
      exact zr_zret (pc := 81) C hr dX11_logKind_81 rfl (by decide) (hQ σ fr (fun y => by rw [hA y, show m = 76 by omega]))
    · refine zr_aload_n (pc := 61) C dX11_logKind_61 0 rfl ?_
      refine zr_get (v := .ref (g.2.2.1 74)) (pc := 62) C 9 (some (some 74)) dX11_logKind_62 fX11_28 (by decide) (hs_67 _) rfl rfl ?_
      refine zr_bipush (pc := 65) C dX11_logKind_65 (by decide) ?_
      refine zr_iload_n (pc := 67) C dX11_logKind_67 1 rfl ?_
      refine zr_imul (pc := 68) C dX11_logKind_68 ?_
      refine zr_iload (pc := 69) C dX11_logKind_69 4 rfl ?_
      refine zr_iadd (pc := 71) C dX11_logKind_71 ?_
      refine zr_iconst (pc := 72) C dX11_logKind_72 ?_
      refine zr_iastore (pc := 73) C dX11_logKind_73 (by decide) (hs_74 _) (by omega) (by decide) (fun τ_2 e_3 => ?_)
      refine zr_iinc (L' := [(4, zv_i (m + 1)), (0, .ref (g.2.2.1 67)), (1, zv_i a), (2, zv_i b), (3, zv_i c)]) (pc := 74) C dX11_logKind_74 4 rfl (by decide) rfl ?_
      refine zr_goto (pc := 77) C 54 dX11_logKind_77 (by decide) ?_
      refine zr_sub [1, 2, 3, 4, 0] rfl ?_
      exact ih τ_2 (m + 1) (by omega) (by omega) (zf_p fr e_3 (by decide)) (fun y => by
        rw [e_3, zs_put_at]
        by_cases z : y = 76 * a + m
        · rw [if_pos z, if_pos (by omega)]
        · rw [if_neg z, hA y]
          by_cases z2 : 76 * a ≤ y ∧ y < 76 * a + m
          · rw [if_pos z2, if_pos (by omega)]
          · rw [if_neg z2, if_neg (by omega)])

set_option maxRecDepth 20000 in
set_option maxHeartbeats 4000000 in
theorem l_nsize {g : zg_G} {k : zk_T} {Q : Option Value → zs_S → Prop} (C : zk_ok g mX11_size k) (hr : zk_ret g mX11_size Q k) (a b c : Int) (ha : 0 ≤ a ∧ a ≤ 5) (σ0 : zs_S) (hQ : ∀ τ, zf_x σ0 τ [78] → (∀ y, τ 78 y = if 4 * a ≤ y ∧ y < 4 * a + 4 then 0 else σ0 78 y) → Q (some (zv_i 1)) τ) : ∀ (N : Nat) (σ : zs_S) (m : Int), (4 - m).toNat < N → (0 ≤ m ∧ m ≤ 4) → (zf_x σ0 σ [78]) → (∀ y, σ 78 y = if 4 * a ≤ y ∧ y < 4 * a + m then 0 else σ0 78 y) → zw_W g mX11_size k 57 [(0, .ref (g.2.2.1 67)), (1, zv_i a), (2, zv_i b), (3, zv_i c), (4, zv_i m)] [] σ := by
  intro N
  induction N with
  | zero =>
    intro σ m hN
    exact absurd hN (by omega)
  | succ N ih =>
    intro σ m hN hm fr hA
    refine zr_iload (pc := 57) C dX11_size_57 4 rfl ?_
    refine zr_iconst (pc := 59) C dX11_size_59 ?_
    refine zr_icmp_ge (pc := 60) C 81 dX11_size_60 (by decide) (by omega) (by omega) (fun h_1 => ?_) (fun h_1 => ?_)
    · refine zr_iconst (pc := 81) C dX11_size_81 ?_
      exact zr_zret (pc := 82) C hr dX11_size_82 rfl (by decide) (hQ σ fr (fun y => by rw [hA y, show m = 4 by omega]))
    · refine zr_aload_n (pc := 63) C dX11_size_63 0 rfl ?_
      refine zr_get (v := .ref (g.2.2.1 78)) (pc := 64) C 14 (some (some 78)) dX11_size_64 fX11_40 (by decide) (hs_67 _) rfl rfl ?_
      refine zr_iconst (pc := 67) C dX11_size_67 ?_
      refine zr_iload_n (pc := 68) C dX11_size_68 1 rfl ?_
      refine zr_imul (pc := 69) C dX11_size_69 ?_
      refine zr_iload (pc := 70) C dX11_size_70 4 rfl ?_
      refine zr_iadd (pc := 72) C dX11_size_72 ?_
      refine zr_iconst (pc := 73) C dX11_size_73 ?_
      refine zr_iastore (pc := 74) C dX11_size_74 (by decide) (hs_78 _) (by omega) (by decide) (fun τ_2 e_3 => ?_)
      refine zr_iinc (L' := [(4, zv_i (m + 1)), (0, .ref (g.2.2.1 67)), (1, zv_i a), (2, zv_i b), (3, zv_i c)]) (pc := 75) C dX11_size_75 4 rfl (by decide) rfl ?_
      refine zr_goto (pc := 78) C 57 dX11_size_78 (by decide) ?_
      refine zr_sub [1, 2, 3, 4, 0] rfl ?_
      exact ih τ_2 (m + 1) (by omega) (by omega) (zf_p fr e_3 (by decide)) (fun y => by
        rw [e_3, zs_put_at]
        by_cases z : y = 4 * a + m
        · rw [if_pos z, if_pos (by omega)]
        · rw [if_neg z, hA y]
          by_cases z2 : 4 * a ≤ y ∧ y < 4 * a + m
          · rw [if_pos z2, if_pos (by omega)]
          · rw [if_neg z2, if_neg (by omega)])

set_option maxRecDepth 20000 in
set_option maxHeartbeats 4000000 in
theorem n_logKind (g : zg_G) (σ : zs_S) (a b c : Int) (har : zi_r a) (hbr : zi_r b) (hcr : zi_r c)  : zm_Met g mX11_logKind σ [.ref (g.2.2.1 67), zv_i a, zv_i b, zv_i c] (fun v τ => v = some (zv_i (zi_b ((0 ≤ a ∧ a ≤ 5) ∧ (1 ≤ b ∧ b ≤ 60) ∧ (0 ≤ c ∧ c ≤ 900)))) ∧ zy_i ((0 ≤ a ∧ a ≤ 5) ∧ (1 ≤ b ∧ b ≤ 60) ∧ (0 ≤ c ∧ c ≤ 900)) (τ = zs_put σ 67 0 0) (τ 72 a = b ∧ τ 73 a = c ∧ (∀ y, y ≠ a → τ 72 y = σ 72 y) ∧ (∀ y, y ≠ a → τ 73 y = σ 73 y) ∧ (∀ y, τ 74 y = if 76 * a ≤ y ∧ y < 76 * a + 76 then 0 else σ 74 y) ∧ τ 67 1 = σ 67 1 ∧ τ 67 3 = σ 67 3 ∧ (∀ j, j ≠ 0 → τ 67 j = σ 67 j) ∧ zf_x σ τ [67, 72, 73, 74])) := by
  refine zm_of (by decide +kernel) (Nat.le_of_ble_eq_true rfl) ?_
  intro k C hr
  show zw_W g mX11_logKind k 0 [(0, .ref (g.2.2.1 67)), (1, zv_i a), (2, zv_i b), (3, zv_i c)] [] σ
  refine zr_aload_n (pc := 0) C dX11_logKind_0 0 rfl ?_
  refine zr_iconst (pc := 1) C dX11_logKind_1 ?_
  refine zr_put (pc := 2) C 0 0 rfl dX11_logKind_2 pX11_84 (by decide) (hs_67 _) rfl (fun τ_1 e_2 => ?_)
  refine zr_iload_n (pc := 5) C dX11_logKind_5 1 rfl ?_
  refine zr_iconst (pc := 6) C dX11_logKind_6 ?_
  refine zr_iconst (pc := 7) C dX11_logKind_7 ?_
  refine zr_callS (As := [zv_i a, zv_i 0, zv_i 5]) (rest := []) (pc := 8) C dX11_logKind_8 kX11_in sX11_87 rfl (by decide) rfl (Nat.le_of_ble_eq_true rfl) (n_in g τ_1 a 0 5 (by omega) (by omega) (by omega)) (fun v_ τ_ h_ => ?_)
  obtain ⟨rfl, rfl⟩ := h_
  show zw_W g mX11_logKind k 11 [(0, .ref (g.2.2.1 67)), (1, zv_i a), (2, zv_i b), (3, zv_i c)] [zv_i (zi_b (0 ≤ a ∧ a ≤ 5))] τ_1
  refine zr_if_eq_b (pc := 11) C 35 dX11_logKind_11 (by decide) (fun h_3 => ?_) (fun h_3 => ?_)
  · refine zr_iconst (pc := 35) C dX11_logKind_35 ?_
    exact zr_zret (pc := 36) C hr dX11_logKind_36 rfl (by decide) (⟨zq_0 (by omega), zy_n (by omega) e_2⟩)
  · refine zr_iload_n (pc := 14) C dX11_logKind_14 2 rfl ?_
    refine zr_iconst (pc := 15) C dX11_logKind_15 ?_
    refine zr_bipush (pc := 16) C dX11_logKind_16 (by decide) ?_
    refine zr_callS (As := [zv_i b, zv_i 1, zv_i 60]) (rest := []) (pc := 18) C dX11_logKind_18 kX11_in sX11_87 rfl (by decide) rfl (Nat.le_of_ble_eq_true rfl) (n_in g τ_1 b 1 60 (by omega) (by omega) (by omega)) (fun v_ τ_ h_ => ?_)
    obtain ⟨rfl, rfl⟩ := h_
    show zw_W g mX11_logKind k 21 [(0, .ref (g.2.2.1 67)), (1, zv_i a), (2, zv_i b), (3, zv_i c)] [zv_i (zi_b (1 ≤ b ∧ b ≤ 60))] τ_1
    refine zr_if_eq_b (pc := 21) C 35 dX11_logKind_21 (by decide) (fun h_4 => ?_) (fun h_4 => ?_)
    · refine zr_iconst (pc := 35) C dX11_logKind_35 ?_
      exact zr_zret (pc := 36) C hr dX11_logKind_36 rfl (by decide) (⟨zq_0 (by omega), zy_n (by omega) e_2⟩)
    · refine zr_iload_n (pc := 24) C dX11_logKind_24 3 rfl ?_
      refine zr_iconst (pc := 25) C dX11_logKind_25 ?_
      refine zr_sipush (pc := 26) C dX11_logKind_26 (by decide) ?_
      refine zr_callS (As := [zv_i c, zv_i 0, zv_i 900]) (rest := []) (pc := 29) C dX11_logKind_29 kX11_in sX11_87 rfl (by decide) rfl (Nat.le_of_ble_eq_true rfl) (n_in g τ_1 c 0 900 (by omega) (by omega) (by omega)) (fun v_ τ_ h_ => ?_)
      obtain ⟨rfl, rfl⟩ := h_
      show zw_W g mX11_logKind k 32 [(0, .ref (g.2.2.1 67)), (1, zv_i a), (2, zv_i b), (3, zv_i c)] [zv_i (zi_b (0 ≤ c ∧ c ≤ 900))] τ_1
      refine zr_if_ne_b (pc := 32) C 37 dX11_logKind_32 (by decide) (fun h_5 => ?_) (fun h_5 => ?_)
      · refine zr_aload_n (pc := 37) C dX11_logKind_37 0 rfl ?_
        refine zr_get (v := .ref (g.2.2.1 72)) (pc := 38) C 7 (some (some 72)) dX11_logKind_38 fX11_22 (by decide) (hs_67 _) rfl rfl ?_
        refine zr_iload_n (pc := 41) C dX11_logKind_41 1 rfl ?_
        refine zr_iload_n (pc := 42) C dX11_logKind_42 2 rfl ?_
        refine zr_iastore (pc := 43) C dX11_logKind_43 (by decide) (hs_72 _) (by omega) (by decide) (fun τ_6 e_7 => ?_)
        refine zr_aload_n (pc := 44) C dX11_logKind_44 0 rfl ?_
        refine zr_get (v := .ref (g.2.2.1 73)) (pc := 45) C 8 (some (some 73)) dX11_logKind_45 fX11_25 (by decide) (hs_67 _) rfl rfl ?_
        refine zr_iload_n (pc := 48) C dX11_logKind_48 1 rfl ?_
        refine zr_iload_n (pc := 49) C dX11_logKind_49 3 rfl ?_
        refine zr_iastore (pc := 50) C dX11_logKind_50 (by decide) (hs_73 _) (by omega) (by decide) (fun τ_8 e_9 => ?_)
        refine zr_iconst (pc := 51) C dX11_logKind_51 ?_
        refine zr_istore (L' := [(4, zv_i 0), (0, .ref (g.2.2.1 67)), (1, zv_i a), (2, zv_i b), (3, zv_i c)]) (pc := 52) C dX11_logKind_52 (by decide) rfl ?_
        refine zr_sub [1, 2, 3, 4, 0] rfl ?_
        exact l_nkind C hr a b c (by omega) τ_8 (fun τ z1 z2 => ⟨zq_1 (by omega), zy_y (by omega) ⟨by rw [z1 72 (by decide), e_9, zs_put_ne (by decide), e_7, zs_put_self], by rw [z1 73 (by decide), e_9, zs_put_self], fun y hy => by rw [z1 72 (by decide), e_9, zs_put_ne (by decide), e_7, zs_put_off hy, e_2, zs_put_ne (by decide)], fun y hy => by rw [z1 73 (by decide), e_9, zs_put_off hy, e_7, zs_put_ne (by decide), e_2, zs_put_ne (by decide)], fun y => by rw [z2 y, e_9, zs_put_ne (by decide), e_7, zs_put_ne (by decide), e_2, zs_put_ne (by decide)], by rw [z1 67 (by decide), e_9, zs_put_ne (by decide), e_7, zs_put_ne (by decide), e_2, zs_put_off (by decide)], by rw [z1 67 (by decide), e_9, zs_put_ne (by decide), e_7, zs_put_ne (by decide), e_2, zs_put_off (by decide)], fun j hj => by rw [z1 67 (by decide), e_9, zs_put_ne (by decide), e_7, zs_put_ne (by decide), e_2, zs_put_off hj], zf_t (zf_p (zf_p (zf_p (zf_r σ [67, 72, 73]) e_2 (by decide)) e_7 (by decide)) e_9 (by decide)) z1 (by simp) (by simp)⟩⟩) 77 τ_8 0 (by omega) (by omega) (zf_r τ_8 _) (fun y => by rw [if_neg (by omega)])
      · refine zr_iconst (pc := 35) C dX11_logKind_35 ?_
        exact zr_zret (pc := 36) C hr dX11_logKind_36 rfl (by decide) (⟨zq_0 (by omega), zy_n (by omega) e_2⟩)

set_option maxRecDepth 20000 in
set_option maxHeartbeats 4000000 in
theorem n_size (g : zg_G) (σ : zs_S) (a b c : Int) (har : zi_r a) (hbr : zi_r b) (hcr : zi_r c)  : zm_Met g mX11_size σ [.ref (g.2.2.1 67), zv_i a, zv_i b, zv_i c] (fun v τ => v = some (zv_i (zi_b (((0 ≤ a ∧ a ≤ 5) ∧ (50 ≤ b ∧ b ≤ 4000)) ∧ (50 ≤ c ∧ c ≤ 4000)))) ∧ zy_i (((0 ≤ a ∧ a ≤ 5) ∧ (50 ≤ b ∧ b ≤ 4000)) ∧ (50 ≤ c ∧ c ≤ 4000)) (τ = zs_put σ 67 0 0) (τ 76 a = b ∧ τ 77 a = c ∧ (∀ y, y ≠ a → τ 76 y = σ 76 y) ∧ (∀ y, y ≠ a → τ 77 y = σ 77 y) ∧ (∀ y, τ 78 y = if 4 * a ≤ y ∧ y < 4 * a + 4 then 0 else σ 78 y) ∧ τ 67 1 = σ 67 1 ∧ τ 67 3 = σ 67 3 ∧ (∀ j, j ≠ 0 → τ 67 j = σ 67 j) ∧ zf_x σ τ [67, 76, 77, 78])) := by
  refine zm_of (by decide +kernel) (Nat.le_of_ble_eq_true rfl) ?_
  intro k C hr
  show zw_W g mX11_size k 0 [(0, .ref (g.2.2.1 67)), (1, zv_i a), (2, zv_i b), (3, zv_i c)] [] σ
  refine zr_aload_n (pc := 0) C dX11_size_0 0 rfl ?_
  refine zr_iconst (pc := 1) C dX11_size_1 ?_
  refine zr_put (pc := 2) C 0 0 rfl dX11_size_2 pX11_84 (by decide) (hs_67 _) rfl (fun τ_1 e_2 => ?_)
  refine zr_iload_n (pc := 5) C dX11_size_5 1 rfl ?_
  refine zr_iconst (pc := 6) C dX11_size_6 ?_
  refine zr_iconst (pc := 7) C dX11_size_7 ?_
  refine zr_callS (As := [zv_i a, zv_i 0, zv_i 5]) (rest := []) (pc := 8) C dX11_size_8 kX11_in sX11_87 rfl (by decide) rfl (Nat.le_of_ble_eq_true rfl) (n_in g τ_1 a 0 5 (by omega) (by omega) (by omega)) (fun v_ τ_ h_ => ?_)
  obtain ⟨rfl, rfl⟩ := h_
  show zw_W g mX11_size k 11 [(0, .ref (g.2.2.1 67)), (1, zv_i a), (2, zv_i b), (3, zv_i c)] [zv_i (zi_b (0 ≤ a ∧ a ≤ 5))] τ_1
  refine zr_if_eq_b (pc := 11) C 38 dX11_size_11 (by decide) (fun h_3 => ?_) (fun h_3 => ?_)
  · refine zr_iconst (pc := 38) C dX11_size_38 ?_
    exact zr_zret (pc := 39) C hr dX11_size_39 rfl (by decide) (⟨zq_0 (by omega), zy_n (by omega) e_2⟩)
  · refine zr_iload_n (pc := 14) C dX11_size_14 2 rfl ?_
    refine zr_bipush (pc := 15) C dX11_size_15 (by decide) ?_
    refine zr_sipush (pc := 17) C dX11_size_17 (by decide) ?_
    refine zr_callS (As := [zv_i b, zv_i 50, zv_i 4000]) (rest := []) (pc := 20) C dX11_size_20 kX11_in sX11_87 rfl (by decide) rfl (Nat.le_of_ble_eq_true rfl) (n_in g τ_1 b 50 4000 (by omega) (by omega) (by omega)) (fun v_ τ_ h_ => ?_)
    obtain ⟨rfl, rfl⟩ := h_
    show zw_W g mX11_size k 23 [(0, .ref (g.2.2.1 67)), (1, zv_i a), (2, zv_i b), (3, zv_i c)] [zv_i (zi_b (50 ≤ b ∧ b ≤ 4000))] τ_1
    refine zr_if_eq_b (pc := 23) C 38 dX11_size_23 (by decide) (fun h_4 => ?_) (fun h_4 => ?_)
    · refine zr_iconst (pc := 38) C dX11_size_38 ?_
      exact zr_zret (pc := 39) C hr dX11_size_39 rfl (by decide) (⟨zq_0 (by omega), zy_n (by omega) e_2⟩)
    · refine zr_iload_n (pc := 26) C dX11_size_26 3 rfl ?_
      refine zr_bipush (pc := 27) C dX11_size_27 (by decide) ?_
      refine zr_sipush (pc := 29) C dX11_size_29 (by decide) ?_
      refine zr_callS (As := [zv_i c, zv_i 50, zv_i 4000]) (rest := []) (pc := 32) C dX11_size_32 kX11_in sX11_87 rfl (by decide) rfl (Nat.le_of_ble_eq_true rfl) (n_in g τ_1 c 50 4000 (by omega) (by omega) (by omega)) (fun v_ τ_ h_ => ?_)
      obtain ⟨rfl, rfl⟩ := h_
      show zw_W g mX11_size k 35 [(0, .ref (g.2.2.1 67)), (1, zv_i a), (2, zv_i b), (3, zv_i c)] [zv_i (zi_b (50 ≤ c ∧ c ≤ 4000))] τ_1
      refine zr_if_ne_b (pc := 35) C 40 dX11_size_35 (by decide) (fun h_5 => ?_) (fun h_5 => ?_)
      · refine zr_aload_n (pc := 40) C dX11_size_40 0 rfl ?_
        refine zr_get (v := .ref (g.2.2.1 76)) (pc := 41) C 12 (some (some 76)) dX11_size_41 fX11_34 (by decide) (hs_67 _) rfl rfl ?_
        refine zr_iload_n (pc := 44) C dX11_size_44 1 rfl ?_
        refine zr_iload_n (pc := 45) C dX11_size_45 2 rfl ?_
        refine zr_iastore (pc := 46) C dX11_size_46 (by decide) (hs_76 _) (by omega) (by decide) (fun τ_6 e_7 => ?_)
        refine zr_aload_n (pc := 47) C dX11_size_47 0 rfl ?_
        refine zr_get (v := .ref (g.2.2.1 77)) (pc := 48) C 13 (some (some 77)) dX11_size_48 fX11_37 (by decide) (hs_67 _) rfl rfl ?_
        refine zr_iload_n (pc := 51) C dX11_size_51 1 rfl ?_
        refine zr_iload_n (pc := 52) C dX11_size_52 3 rfl ?_
        refine zr_iastore (pc := 53) C dX11_size_53 (by decide) (hs_77 _) (by omega) (by decide) (fun τ_8 e_9 => ?_)
        refine zr_iconst (pc := 54) C dX11_size_54 ?_
        refine zr_istore (L' := [(4, zv_i 0), (0, .ref (g.2.2.1 67)), (1, zv_i a), (2, zv_i b), (3, zv_i c)]) (pc := 55) C dX11_size_55 (by decide) rfl ?_
        refine zr_sub [1, 2, 3, 4, 0] rfl ?_
        exact l_nsize C hr a b c (by omega) τ_8 (fun τ z1 z2 => ⟨zq_1 (by omega), zy_y (by omega) ⟨by rw [z1 76 (by decide), e_9, zs_put_ne (by decide), e_7, zs_put_self], by rw [z1 77 (by decide), e_9, zs_put_self], fun y hy => by rw [z1 76 (by decide), e_9, zs_put_ne (by decide), e_7, zs_put_off hy, e_2, zs_put_ne (by decide)], fun y hy => by rw [z1 77 (by decide), e_9, zs_put_off hy, e_7, zs_put_ne (by decide), e_2, zs_put_ne (by decide)], fun y => by rw [z2 y, e_9, zs_put_ne (by decide), e_7, zs_put_ne (by decide), e_2, zs_put_ne (by decide)], by rw [z1 67 (by decide), e_9, zs_put_ne (by decide), e_7, zs_put_ne (by decide), e_2, zs_put_off (by decide)], by rw [z1 67 (by decide), e_9, zs_put_ne (by decide), e_7, zs_put_ne (by decide), e_2, zs_put_off (by decide)], fun j hj => by rw [z1 67 (by decide), e_9, zs_put_ne (by decide), e_7, zs_put_ne (by decide), e_2, zs_put_off hj], zf_t (zf_p (zf_p (zf_p (zf_r σ [67, 76, 77]) e_2 (by decide)) e_7 (by decide)) e_9 (by decide)) z1 (by simp) (by simp)⟩⟩) 5 τ_8 0 (by omega) (by omega) (zf_r τ_8 _) (fun y => by rw [if_neg (by omega)])
      · refine zr_iconst (pc := 38) C dX11_size_38 ?_
        exact zr_zret (pc := 39) C hr dX11_size_39 rfl (by decide) (⟨zq_0 (by omega), zy_n (by omega) e_2⟩)

set_option maxRecDepth 20000 in
set_option maxHeartbeats 4000000 in
theorem n_priceOf (g : zg_G) (σ : zs_S) (a b c d : Int) (har : zi_r a) (hbr : zi_r b) (hcr : zi_r c) (hdr : zi_r d) (hk : ∀ j : Int, 0 ≤ j → j < 6 → 0 ≤ σ 72 j ∧ σ 72 j ≤ 60) : zm_Met g mX11_priceOf σ [.ref (g.2.2.1 67), zv_i a, zv_i b, zv_i c, zv_i d] (fun v τ => v = some (zv_i (zi_b (((0 ≤ a ∧ a ≤ 5) ∧ 0 < σ 72 a ∧ (0 ≤ b ∧ b ≤ 18)) ∧ (1 ≤ c ∧ c ≤ 3) ∧ (0 ≤ d ∧ d ≤ 1000000)))) ∧ zy_i (((0 ≤ a ∧ a ≤ 5) ∧ 0 < σ 72 a ∧ (0 ≤ b ∧ b ≤ 18)) ∧ (1 ≤ c ∧ c ≤ 3) ∧ (0 ≤ d ∧ d ≤ 1000000)) (τ = zs_put σ 67 0 0) (τ = zs_put (zs_put σ 67 0 0) 74 (76 * a + 4 * b + c) d)) := by
  refine zm_of (by decide +kernel) (Nat.le_of_ble_eq_true rfl) ?_
  intro k C hr
  show zw_W g mX11_priceOf k 0 [(0, .ref (g.2.2.1 67)), (1, zv_i a), (2, zv_i b), (3, zv_i c), (4, zv_i d)] [] σ
  refine zr_aload_n (pc := 0) C dX11_priceOf_0 0 rfl ?_
  refine zr_iconst (pc := 1) C dX11_priceOf_1 ?_
  refine zr_put (pc := 2) C 0 0 rfl dX11_priceOf_2 pX11_84 (by decide) (hs_67 _) rfl (fun τ_1 e_2 => ?_)
  have h72 : τ_1 72 a = σ 72 a := by rw [e_2, zs_put_ne (by decide)]
  refine zr_iload_n (pc := 5) C dX11_priceOf_5 1 rfl ?_
  refine zr_iconst (pc := 6) C dX11_priceOf_6 ?_
  refine zr_iconst (pc := 7) C dX11_priceOf_7 ?_
  refine zr_callS (As := [zv_i a, zv_i 0, zv_i 5]) (rest := []) (pc := 8) C dX11_priceOf_8 kX11_in sX11_87 rfl (by decide) rfl (Nat.le_of_ble_eq_true rfl) (n_in g τ_1 a 0 5 (by omega) (by omega) (by omega)) (fun v_ τ_ h_ => ?_)
  obtain ⟨rfl, rfl⟩ := h_
  show zw_W g mX11_priceOf k 11 [(0, .ref (g.2.2.1 67)), (1, zv_i a), (2, zv_i b), (3, zv_i c), (4, zv_i d)] [zv_i (zi_b (0 ≤ a ∧ a ≤ 5))] τ_1
  refine zr_if_eq_b (pc := 11) C 53 dX11_priceOf_11 (by decide) (fun h_3 => ?_) (fun h_3 => ?_)
  · refine zr_iconst (pc := 53) C dX11_priceOf_53 ?_
    exact zr_zret (pc := 54) C hr dX11_priceOf_54 rfl (by decide) (⟨zq_0 (by omega), zy_n (by omega) e_2⟩)
  · have kb := hk a (by omega) (by omega)
    refine zr_aload_n (pc := 14) C dX11_priceOf_14 0 rfl ?_
    refine zr_get (v := .ref (g.2.2.1 72)) (pc := 15) C 7 (some (some 72)) dX11_priceOf_15 fX11_22 (by decide) (hs_67 _) rfl rfl ?_
    refine zr_iload_n (pc := 18) C dX11_priceOf_18 1 rfl ?_
    refine zr_iaload (pc := 19) C dX11_priceOf_19 (by decide) (hs_72 _) (by omega) (by decide) ?_
    refine zr_if_eq (pc := 20) C 53 dX11_priceOf_20 (by decide) (by omega) (fun h_4 => ?_) (fun h_4 => ?_)
    · refine zr_iconst (pc := 53) C dX11_priceOf_53 ?_
      exact zr_zret (pc := 54) C hr dX11_priceOf_54 rfl (by decide) (⟨zq_0 (by omega), zy_n (by omega) e_2⟩)
    · refine zr_iload_n (pc := 23) C dX11_priceOf_23 2 rfl ?_
      refine zr_iconst (pc := 24) C dX11_priceOf_24 ?_
      refine zr_bipush (pc := 25) C dX11_priceOf_25 (by decide) ?_
      refine zr_callS (As := [zv_i b, zv_i 0, zv_i 18]) (rest := []) (pc := 27) C dX11_priceOf_27 kX11_in sX11_87 rfl (by decide) rfl (Nat.le_of_ble_eq_true rfl) (n_in g τ_1 b 0 18 (by omega) (by omega) (by omega)) (fun v_ τ_ h_ => ?_)
      obtain ⟨rfl, rfl⟩ := h_
      show zw_W g mX11_priceOf k 30 [(0, .ref (g.2.2.1 67)), (1, zv_i a), (2, zv_i b), (3, zv_i c), (4, zv_i d)] [zv_i (zi_b (0 ≤ b ∧ b ≤ 18))] τ_1
      refine zr_if_eq_b (pc := 30) C 53 dX11_priceOf_30 (by decide) (fun h_5 => ?_) (fun h_5 => ?_)
      · refine zr_iconst (pc := 53) C dX11_priceOf_53 ?_
        exact zr_zret (pc := 54) C hr dX11_priceOf_54 rfl (by decide) (⟨zq_0 (by omega), zy_n (by omega) e_2⟩)
      · refine zr_iload_n (pc := 33) C dX11_priceOf_33 3 rfl ?_
        refine zr_iconst (pc := 34) C dX11_priceOf_34 ?_
        refine zr_iconst (pc := 35) C dX11_priceOf_35 ?_
        refine zr_callS (As := [zv_i c, zv_i 1, zv_i 3]) (rest := []) (pc := 36) C dX11_priceOf_36 kX11_in sX11_87 rfl (by decide) rfl (Nat.le_of_ble_eq_true rfl) (n_in g τ_1 c 1 3 (by omega) (by omega) (by omega)) (fun v_ τ_ h_ => ?_)
        obtain ⟨rfl, rfl⟩ := h_
        show zw_W g mX11_priceOf k 39 [(0, .ref (g.2.2.1 67)), (1, zv_i a), (2, zv_i b), (3, zv_i c), (4, zv_i d)] [zv_i (zi_b (1 ≤ c ∧ c ≤ 3))] τ_1
        refine zr_if_eq_b (pc := 39) C 53 dX11_priceOf_39 (by decide) (fun h_6 => ?_) (fun h_6 => ?_)
        · refine zr_iconst (pc := 53) C dX11_priceOf_53 ?_
          exact zr_zret (pc := 54) C hr dX11_priceOf_54 rfl (by decide) (⟨zq_0 (by omega), zy_n (by omega) e_2⟩)
        · refine zr_iload (pc := 42) C dX11_priceOf_42 4 rfl ?_
          refine zr_iconst (pc := 44) C dX11_priceOf_44 ?_
          refine zr_ldc (v := 1000000) (pc := 45) C 1000000 dX11_priceOf_45 (zt_mem 777 (by decide +kernel) rfl) (by decide) ?_
          refine zr_callS (As := [zv_i d, zv_i 0, zv_i 1000000]) (rest := []) (pc := 47) C dX11_priceOf_47 kX11_in sX11_87 rfl (by decide) rfl (Nat.le_of_ble_eq_true rfl) (n_in g τ_1 d 0 1000000 (by omega) (by omega) (by omega)) (fun v_ τ_ h_ => ?_)
          obtain ⟨rfl, rfl⟩ := h_
          show zw_W g mX11_priceOf k 50 [(0, .ref (g.2.2.1 67)), (1, zv_i a), (2, zv_i b), (3, zv_i c), (4, zv_i d)] [zv_i (zi_b (0 ≤ d ∧ d ≤ 1000000))] τ_1
          refine zr_if_ne_b (pc := 50) C 55 dX11_priceOf_50 (by decide) (fun h_7 => ?_) (fun h_7 => ?_)
          · refine zr_aload_n (pc := 55) C dX11_priceOf_55 0 rfl ?_
            refine zr_get (v := .ref (g.2.2.1 74)) (pc := 56) C 9 (some (some 74)) dX11_priceOf_56 fX11_28 (by decide) (hs_67 _) rfl rfl ?_
            refine zr_bipush (pc := 59) C dX11_priceOf_59 (by decide) ?_
            refine zr_iload_n (pc := 61) C dX11_priceOf_61 1 rfl ?_
            refine zr_imul (pc := 62) C dX11_priceOf_62 ?_
            refine zr_iconst (pc := 63) C dX11_priceOf_63 ?_
            refine zr_iload_n (pc := 64) C dX11_priceOf_64 2 rfl ?_
            refine zr_imul (pc := 65) C dX11_priceOf_65 ?_
            refine zr_iadd (pc := 66) C dX11_priceOf_66 ?_
            refine zr_iload_n (pc := 67) C dX11_priceOf_67 3 rfl ?_
            refine zr_iadd (pc := 68) C dX11_priceOf_68 ?_
            refine zr_iload (pc := 69) C dX11_priceOf_69 4 rfl ?_
            refine zr_iastore (pc := 71) C dX11_priceOf_71 (by decide) (hs_74 _) (by omega) (by decide) (fun τ_8 e_9 => ?_)
            refine zr_iconst (pc := 72) C dX11_priceOf_72 ?_
            exact zr_zret (pc := 73) C hr dX11_priceOf_73 rfl (by decide) (⟨zq_1 (by omega), zy_y (by omega) (by rw [e_9, e_2])⟩)
          · refine zr_iconst (pc := 53) C dX11_priceOf_53 ?_
            exact zr_zret (pc := 54) C hr dX11_priceOf_54 rfl (by decide) (⟨zq_0 (by omega), zy_n (by omega) e_2⟩)

set_option maxRecDepth 20000 in
set_option maxHeartbeats 4000000 in
theorem n_boardPrice (g : zg_G) (σ : zs_S) (a b c : Int) (har : zi_r a) (hbr : zi_r b) (hcr : zi_r c) (hk : ∀ j : Int, 0 ≤ j → j < 6 → 0 ≤ σ 76 j ∧ σ 76 j ≤ 4000) : zm_Met g mX11_boardPrice σ [.ref (g.2.2.1 67), zv_i a, zv_i b, zv_i c] (fun v τ => v = some (zv_i (zi_b (((0 ≤ a ∧ a ≤ 5) ∧ 0 < σ 76 a) ∧ (1 ≤ b ∧ b ≤ 3) ∧ (0 ≤ c ∧ c ≤ 1000000)))) ∧ zy_i (((0 ≤ a ∧ a ≤ 5) ∧ 0 < σ 76 a) ∧ (1 ≤ b ∧ b ≤ 3) ∧ (0 ≤ c ∧ c ≤ 1000000)) (τ = zs_put σ 67 0 0) (τ = zs_put (zs_put σ 67 0 0) 78 (4 * a + b) c)) := by
  refine zm_of (by decide +kernel) (Nat.le_of_ble_eq_true rfl) ?_
  intro k C hr
  show zw_W g mX11_boardPrice k 0 [(0, .ref (g.2.2.1 67)), (1, zv_i a), (2, zv_i b), (3, zv_i c)] [] σ
  refine zr_aload_n (pc := 0) C dX11_boardPrice_0 0 rfl ?_
  refine zr_iconst (pc := 1) C dX11_boardPrice_1 ?_
  refine zr_put (pc := 2) C 0 0 rfl dX11_boardPrice_2 pX11_84 (by decide) (hs_67 _) rfl (fun τ_1 e_2 => ?_)
  have h76 : τ_1 76 a = σ 76 a := by rw [e_2, zs_put_ne (by decide)]
  refine zr_iload_n (pc := 5) C dX11_boardPrice_5 1 rfl ?_
  refine zr_iconst (pc := 6) C dX11_boardPrice_6 ?_
  refine zr_iconst (pc := 7) C dX11_boardPrice_7 ?_
  refine zr_callS (As := [zv_i a, zv_i 0, zv_i 5]) (rest := []) (pc := 8) C dX11_boardPrice_8 kX11_in sX11_87 rfl (by decide) rfl (Nat.le_of_ble_eq_true rfl) (n_in g τ_1 a 0 5 (by omega) (by omega) (by omega)) (fun v_ τ_ h_ => ?_)
  obtain ⟨rfl, rfl⟩ := h_
  show zw_W g mX11_boardPrice k 11 [(0, .ref (g.2.2.1 67)), (1, zv_i a), (2, zv_i b), (3, zv_i c)] [zv_i (zi_b (0 ≤ a ∧ a ≤ 5))] τ_1
  refine zr_if_eq_b (pc := 11) C 42 dX11_boardPrice_11 (by decide) (fun h_3 => ?_) (fun h_3 => ?_)
  · refine zr_iconst (pc := 42) C dX11_boardPrice_42 ?_
    exact zr_zret (pc := 43) C hr dX11_boardPrice_43 rfl (by decide) (⟨zq_0 (by omega), zy_n (by omega) e_2⟩)
  · have kb := hk a (by omega) (by omega)
    refine zr_aload_n (pc := 14) C dX11_boardPrice_14 0 rfl ?_
    refine zr_get (v := .ref (g.2.2.1 76)) (pc := 15) C 12 (some (some 76)) dX11_boardPrice_15 fX11_34 (by decide) (hs_67 _) rfl rfl ?_
    refine zr_iload_n (pc := 18) C dX11_boardPrice_18 1 rfl ?_
    refine zr_iaload (pc := 19) C dX11_boardPrice_19 (by decide) (hs_76 _) (by omega) (by decide) ?_
    refine zr_if_eq (pc := 20) C 42 dX11_boardPrice_20 (by decide) (by omega) (fun h_4 => ?_) (fun h_4 => ?_)
    · refine zr_iconst (pc := 42) C dX11_boardPrice_42 ?_
      exact zr_zret (pc := 43) C hr dX11_boardPrice_43 rfl (by decide) (⟨zq_0 (by omega), zy_n (by omega) e_2⟩)
    · refine zr_iload_n (pc := 23) C dX11_boardPrice_23 2 rfl ?_
      refine zr_iconst (pc := 24) C dX11_boardPrice_24 ?_
      refine zr_iconst (pc := 25) C dX11_boardPrice_25 ?_
      refine zr_callS (As := [zv_i b, zv_i 1, zv_i 3]) (rest := []) (pc := 26) C dX11_boardPrice_26 kX11_in sX11_87 rfl (by decide) rfl (Nat.le_of_ble_eq_true rfl) (n_in g τ_1 b 1 3 (by omega) (by omega) (by omega)) (fun v_ τ_ h_ => ?_)
      obtain ⟨rfl, rfl⟩ := h_
      show zw_W g mX11_boardPrice k 29 [(0, .ref (g.2.2.1 67)), (1, zv_i a), (2, zv_i b), (3, zv_i c)] [zv_i (zi_b (1 ≤ b ∧ b ≤ 3))] τ_1
      refine zr_if_eq_b (pc := 29) C 42 dX11_boardPrice_29 (by decide) (fun h_5 => ?_) (fun h_5 => ?_)
      · refine zr_iconst (pc := 42) C dX11_boardPrice_42 ?_
        exact zr_zret (pc := 43) C hr dX11_boardPrice_43 rfl (by decide) (⟨zq_0 (by omega), zy_n (by omega) e_2⟩)
      · refine zr_iload_n (pc := 32) C dX11_boardPrice_32 3 rfl ?_
        refine zr_iconst (pc := 33) C dX11_boardPrice_33 ?_
        refine zr_ldc (v := 1000000) (pc := 34) C 1000000 dX11_boardPrice_34 (zt_mem 777 (by decide +kernel) rfl) (by decide) ?_
        refine zr_callS (As := [zv_i c, zv_i 0, zv_i 1000000]) (rest := []) (pc := 36) C dX11_boardPrice_36 kX11_in sX11_87 rfl (by decide) rfl (Nat.le_of_ble_eq_true rfl) (n_in g τ_1 c 0 1000000 (by omega) (by omega) (by omega)) (fun v_ τ_ h_ => ?_)
        obtain ⟨rfl, rfl⟩ := h_
        show zw_W g mX11_boardPrice k 39 [(0, .ref (g.2.2.1 67)), (1, zv_i a), (2, zv_i b), (3, zv_i c)] [zv_i (zi_b (0 ≤ c ∧ c ≤ 1000000))] τ_1
        refine zr_if_ne_b (pc := 39) C 44 dX11_boardPrice_39 (by decide) (fun h_6 => ?_) (fun h_6 => ?_)
        · refine zr_aload_n (pc := 44) C dX11_boardPrice_44 0 rfl ?_
          refine zr_get (v := .ref (g.2.2.1 78)) (pc := 45) C 14 (some (some 78)) dX11_boardPrice_45 fX11_40 (by decide) (hs_67 _) rfl rfl ?_
          refine zr_iconst (pc := 48) C dX11_boardPrice_48 ?_
          refine zr_iload_n (pc := 49) C dX11_boardPrice_49 1 rfl ?_
          refine zr_imul (pc := 50) C dX11_boardPrice_50 ?_
          refine zr_iload_n (pc := 51) C dX11_boardPrice_51 2 rfl ?_
          refine zr_iadd (pc := 52) C dX11_boardPrice_52 ?_
          refine zr_iload_n (pc := 53) C dX11_boardPrice_53 3 rfl ?_
          refine zr_iastore (pc := 54) C dX11_boardPrice_54 (by decide) (hs_78 _) (by omega) (by decide) (fun τ_7 e_8 => ?_)
          refine zr_iconst (pc := 55) C dX11_boardPrice_55 ?_
          exact zr_zret (pc := 56) C hr dX11_boardPrice_56 rfl (by decide) (⟨zq_1 (by omega), zy_y (by omega) (by rw [e_8, e_2])⟩)
        · refine zr_iconst (pc := 42) C dX11_boardPrice_42 ?_
          exact zr_zret (pc := 43) C hr dX11_boardPrice_43 rfl (by decide) (⟨zq_0 (by omega), zy_n (by omega) e_2⟩)

set_option maxRecDepth 20000 in
set_option maxHeartbeats 4000000 in
theorem n_height (g : zg_G) (σ : zs_S) (a b : Int) (har : zi_r a) (hbr : zi_r b)  : zm_Met g mX11_height σ [.ref (g.2.2.1 67), zv_i a, zv_i b] (fun v τ => v = some (zv_i (zi_b ((0 ≤ a ∧ a ≤ 3) ∧ (300 ≤ b ∧ b ≤ 5000)))) ∧ zy_i ((0 ≤ a ∧ a ≤ 3) ∧ (300 ≤ b ∧ b ≤ 5000)) (τ = zs_put σ 67 0 0) (τ = zs_put (zs_put σ 67 0 0) 80 a b)) := by
  refine zm_of (by decide +kernel) (Nat.le_of_ble_eq_true rfl) ?_
  intro k C hr
  show zw_W g mX11_height k 0 [(0, .ref (g.2.2.1 67)), (1, zv_i a), (2, zv_i b)] [] σ
  refine zr_aload_n (pc := 0) C dX11_height_0 0 rfl ?_
  refine zr_iconst (pc := 1) C dX11_height_1 ?_
  refine zr_put (pc := 2) C 0 0 rfl dX11_height_2 pX11_84 (by decide) (hs_67 _) rfl (fun τ_1 e_2 => ?_)
  refine zr_iload_n (pc := 5) C dX11_height_5 1 rfl ?_
  refine zr_iconst (pc := 6) C dX11_height_6 ?_
  refine zr_iconst (pc := 7) C dX11_height_7 ?_
  refine zr_callS (As := [zv_i a, zv_i 0, zv_i 3]) (rest := []) (pc := 8) C dX11_height_8 kX11_in sX11_87 rfl (by decide) rfl (Nat.le_of_ble_eq_true rfl) (n_in g τ_1 a 0 3 (by omega) (by omega) (by omega)) (fun v_ τ_ h_ => ?_)
  obtain ⟨rfl, rfl⟩ := h_
  show zw_W g mX11_height k 11 [(0, .ref (g.2.2.1 67)), (1, zv_i a), (2, zv_i b)] [zv_i (zi_b (0 ≤ a ∧ a ≤ 3))] τ_1
  refine zr_if_eq_b (pc := 11) C 27 dX11_height_11 (by decide) (fun h_3 => ?_) (fun h_3 => ?_)
  · refine zr_iconst (pc := 27) C dX11_height_27 ?_
    exact zr_zret (pc := 28) C hr dX11_height_28 rfl (by decide) (⟨zq_0 (by omega), zy_n (by omega) e_2⟩)
  · refine zr_iload_n (pc := 14) C dX11_height_14 2 rfl ?_
    refine zr_sipush (pc := 15) C dX11_height_15 (by decide) ?_
    refine zr_sipush (pc := 18) C dX11_height_18 (by decide) ?_
    refine zr_callS (As := [zv_i b, zv_i 300, zv_i 5000]) (rest := []) (pc := 21) C dX11_height_21 kX11_in sX11_87 rfl (by decide) rfl (Nat.le_of_ble_eq_true rfl) (n_in g τ_1 b 300 5000 (by omega) (by omega) (by omega)) (fun v_ τ_ h_ => ?_)
    obtain ⟨rfl, rfl⟩ := h_
    show zw_W g mX11_height k 24 [(0, .ref (g.2.2.1 67)), (1, zv_i a), (2, zv_i b)] [zv_i (zi_b (300 ≤ b ∧ b ≤ 5000))] τ_1
    refine zr_if_ne_b (pc := 24) C 29 dX11_height_24 (by decide) (fun h_4 => ?_) (fun h_4 => ?_)
    · refine zr_aload_n (pc := 29) C dX11_height_29 0 rfl ?_
      refine zr_get (v := .ref (g.2.2.1 80)) (pc := 30) C 16 (some (some 80)) dX11_height_30 fX11_46 (by decide) (hs_67 _) rfl rfl ?_
      refine zr_iload_n (pc := 33) C dX11_height_33 1 rfl ?_
      refine zr_iload_n (pc := 34) C dX11_height_34 2 rfl ?_
      refine zr_iastore (pc := 35) C dX11_height_35 (by decide) (hs_80 _) (by omega) (by decide) (fun τ_5 e_6 => ?_)
      refine zr_iconst (pc := 36) C dX11_height_36 ?_
      exact zr_zret (pc := 37) C hr dX11_height_37 rfl (by decide) (⟨zq_1 (by omega), zy_y (by omega) (by rw [e_6, e_2])⟩)
    · refine zr_iconst (pc := 27) C dX11_height_27 ?_
      exact zr_zret (pc := 28) C hr dX11_height_28 rfl (by decide) (⟨zq_0 (by omega), zy_n (by omega) e_2⟩)

set_option maxRecDepth 20000 in
set_option maxHeartbeats 4000000 in
theorem n_kerf (g : zg_G) (σ : zs_S) (a : Int) (har : zi_r a)  : zm_Met g mX11_kerf σ [.ref (g.2.2.1 67), zv_i a] (fun v τ => v = some (zv_i (zi_b (0 ≤ a ∧ a ≤ 100))) ∧ zy_i (0 ≤ a ∧ a ≤ 100) (τ = zs_put σ 67 0 0) (τ = zs_put (zs_put σ 67 0 0) 67 17 a)) := by
  refine zm_of (by decide +kernel) (Nat.le_of_ble_eq_true rfl) ?_
  intro k C hr
  show zw_W g mX11_kerf k 0 [(0, .ref (g.2.2.1 67)), (1, zv_i a)] [] σ
  refine zr_aload_n (pc := 0) C dX11_kerf_0 0 rfl ?_
  refine zr_iconst (pc := 1) C dX11_kerf_1 ?_
  refine zr_put (pc := 2) C 0 0 rfl dX11_kerf_2 pX11_84 (by decide) (hs_67 _) rfl (fun τ_1 e_2 => ?_)
  refine zr_iload_n (pc := 5) C dX11_kerf_5 1 rfl ?_
  refine zr_iconst (pc := 6) C dX11_kerf_6 ?_
  refine zr_bipush (pc := 7) C dX11_kerf_7 (by decide) ?_
  refine zr_callS (As := [zv_i a, zv_i 0, zv_i 100]) (rest := []) (pc := 9) C dX11_kerf_9 kX11_in sX11_87 rfl (by decide) rfl (Nat.le_of_ble_eq_true rfl) (n_in g τ_1 a 0 100 (by omega) (by omega) (by omega)) (fun v_ τ_ h_ => ?_)
  obtain ⟨rfl, rfl⟩ := h_
  show zw_W g mX11_kerf k 12 [(0, .ref (g.2.2.1 67)), (1, zv_i a)] [zv_i (zi_b (0 ≤ a ∧ a ≤ 100))] τ_1
  refine zr_if_ne_b (pc := 12) C 17 dX11_kerf_12 (by decide) (fun h_3 => ?_) (fun h_3 => ?_)
  · refine zr_aload_n (pc := 17) C dX11_kerf_17 0 rfl ?_
    refine zr_iload_n (pc := 18) C dX11_kerf_18 1 rfl ?_
    refine zr_put (pc := 19) C 17 17 rfl dX11_kerf_19 pX11_121 (by decide) (hs_67 _) rfl (fun τ_4 e_5 => ?_)
    refine zr_iconst (pc := 22) C dX11_kerf_22 ?_
    exact zr_zret (pc := 23) C hr dX11_kerf_23 rfl (by decide) (⟨zq_1 (by omega), zy_y (by omega) (by rw [e_5, e_2])⟩)
  · refine zr_iconst (pc := 15) C dX11_kerf_15 ?_
    exact zr_zret (pc := 16) C hr dX11_kerf_16 rfl (by decide) (⟨zq_0 (by omega), zy_n (by omega) e_2⟩)

set_option maxRecDepth 20000 in
set_option maxHeartbeats 4000000 in
theorem n_need (g : zg_G) (σ : zs_S) (a b : Int) (har : zi_r a) (hbr : zi_r b)  : zm_Met g mX11_need σ [.ref (g.2.2.1 67), zv_i a, zv_i b] (fun v τ => v = some (zv_i (zi_b ((0 ≤ a ∧ a ≤ 5) ∧ (0 ≤ b ∧ b ≤ 1000)))) ∧ zy_i ((0 ≤ a ∧ a ≤ 5) ∧ (0 ≤ b ∧ b ≤ 1000)) (τ = zs_put σ 67 0 0) (τ = zs_put (zs_put σ 67 0 0) 79 a b)) := by
  refine zm_of (by decide +kernel) (Nat.le_of_ble_eq_true rfl) ?_
  intro k C hr
  show zw_W g mX11_need k 0 [(0, .ref (g.2.2.1 67)), (1, zv_i a), (2, zv_i b)] [] σ
  refine zr_aload_n (pc := 0) C dX11_need_0 0 rfl ?_
  refine zr_iconst (pc := 1) C dX11_need_1 ?_
  refine zr_put (pc := 2) C 0 0 rfl dX11_need_2 pX11_84 (by decide) (hs_67 _) rfl (fun τ_1 e_2 => ?_)
  refine zr_iload_n (pc := 5) C dX11_need_5 1 rfl ?_
  refine zr_iconst (pc := 6) C dX11_need_6 ?_
  refine zr_iconst (pc := 7) C dX11_need_7 ?_
  refine zr_callS (As := [zv_i a, zv_i 0, zv_i 5]) (rest := []) (pc := 8) C dX11_need_8 kX11_in sX11_87 rfl (by decide) rfl (Nat.le_of_ble_eq_true rfl) (n_in g τ_1 a 0 5 (by omega) (by omega) (by omega)) (fun v_ τ_ h_ => ?_)
  obtain ⟨rfl, rfl⟩ := h_
  show zw_W g mX11_need k 11 [(0, .ref (g.2.2.1 67)), (1, zv_i a), (2, zv_i b)] [zv_i (zi_b (0 ≤ a ∧ a ≤ 5))] τ_1
  refine zr_if_eq_b (pc := 11) C 25 dX11_need_11 (by decide) (fun h_3 => ?_) (fun h_3 => ?_)
  · refine zr_iconst (pc := 25) C dX11_need_25 ?_
    exact zr_zret (pc := 26) C hr dX11_need_26 rfl (by decide) (⟨zq_0 (by omega), zy_n (by omega) e_2⟩)
  · refine zr_iload_n (pc := 14) C dX11_need_14 2 rfl ?_
    refine zr_iconst (pc := 15) C dX11_need_15 ?_
    refine zr_sipush (pc := 16) C dX11_need_16 (by decide) ?_
    refine zr_callS (As := [zv_i b, zv_i 0, zv_i 1000]) (rest := []) (pc := 19) C dX11_need_19 kX11_in sX11_87 rfl (by decide) rfl (Nat.le_of_ble_eq_true rfl) (n_in g τ_1 b 0 1000 (by omega) (by omega) (by omega)) (fun v_ τ_ h_ => ?_)
    obtain ⟨rfl, rfl⟩ := h_
    show zw_W g mX11_need k 22 [(0, .ref (g.2.2.1 67)), (1, zv_i a), (2, zv_i b)] [zv_i (zi_b (0 ≤ b ∧ b ≤ 1000))] τ_1
    refine zr_if_ne_b (pc := 22) C 27 dX11_need_22 (by decide) (fun h_4 => ?_) (fun h_4 => ?_)
    · refine zr_aload_n (pc := 27) C dX11_need_27 0 rfl ?_
      refine zr_get (v := .ref (g.2.2.1 79)) (pc := 28) C 15 (some (some 79)) dX11_need_28 fX11_43 (by decide) (hs_67 _) rfl rfl ?_
      refine zr_iload_n (pc := 31) C dX11_need_31 1 rfl ?_
      refine zr_iload_n (pc := 32) C dX11_need_32 2 rfl ?_
      refine zr_iastore (pc := 33) C dX11_need_33 (by decide) (hs_79 _) (by omega) (by decide) (fun τ_5 e_6 => ?_)
      refine zr_iconst (pc := 34) C dX11_need_34 ?_
      exact zr_zret (pc := 35) C hr dX11_need_35 rfl (by decide) (⟨zq_1 (by omega), zy_y (by omega) (by rw [e_6, e_2])⟩)
    · refine zr_iconst (pc := 25) C dX11_need_25 ?_
      exact zr_zret (pc := 26) C hr dX11_need_26 rfl (by decide) (⟨zq_0 (by omega), zy_n (by omega) e_2⟩)

set_option maxRecDepth 20000 in
set_option maxHeartbeats 4000000 in
theorem n_ladder (g : zg_G) (σ : zs_S) (a b c : Int) (har : zi_r a) (hbr : zi_r b) (hcr : zi_r c)  : zm_Met g mX11_ladder σ [.ref (g.2.2.1 67), zv_i a, zv_i b, zv_i c] (fun v τ => v = some (zv_i (zi_b ((0 ≤ a ∧ a ≤ 3) ∧ (0 ≤ b ∧ b ≤ 100000) ∧ (0 ≤ c ∧ c ≤ 100000)))) ∧ zy_i ((0 ≤ a ∧ a ≤ 3) ∧ (0 ≤ b ∧ b ≤ 100000) ∧ (0 ≤ c ∧ c ≤ 100000)) (τ = zs_put σ 67 0 0) (τ = zs_put (zs_put (zs_put σ 67 0 0) 81 a b) 82 a c)) := by
  refine zm_of (by decide +kernel) (Nat.le_of_ble_eq_true rfl) ?_
  intro k C hr
  show zw_W g mX11_ladder k 0 [(0, .ref (g.2.2.1 67)), (1, zv_i a), (2, zv_i b), (3, zv_i c)] [] σ
  refine zr_aload_n (pc := 0) C dX11_ladder_0 0 rfl ?_
  refine zr_iconst (pc := 1) C dX11_ladder_1 ?_
  refine zr_put (pc := 2) C 0 0 rfl dX11_ladder_2 pX11_84 (by decide) (hs_67 _) rfl (fun τ_1 e_2 => ?_)
  refine zr_iload_n (pc := 5) C dX11_ladder_5 1 rfl ?_
  refine zr_iconst (pc := 6) C dX11_ladder_6 ?_
  refine zr_iconst (pc := 7) C dX11_ladder_7 ?_
  refine zr_callS (As := [zv_i a, zv_i 0, zv_i 3]) (rest := []) (pc := 8) C dX11_ladder_8 kX11_in sX11_87 rfl (by decide) rfl (Nat.le_of_ble_eq_true rfl) (n_in g τ_1 a 0 3 (by omega) (by omega) (by omega)) (fun v_ τ_ h_ => ?_)
  obtain ⟨rfl, rfl⟩ := h_
  show zw_W g mX11_ladder k 11 [(0, .ref (g.2.2.1 67)), (1, zv_i a), (2, zv_i b), (3, zv_i c)] [zv_i (zi_b (0 ≤ a ∧ a ≤ 3))] τ_1
  refine zr_if_eq_b (pc := 11) C 34 dX11_ladder_11 (by decide) (fun h_3 => ?_) (fun h_3 => ?_)
  · refine zr_iconst (pc := 34) C dX11_ladder_34 ?_
    exact zr_zret (pc := 35) C hr dX11_ladder_35 rfl (by decide) (⟨zq_0 (by omega), zy_n (by omega) e_2⟩)
  · refine zr_iload_n (pc := 14) C dX11_ladder_14 2 rfl ?_
    refine zr_iconst (pc := 15) C dX11_ladder_15 ?_
    refine zr_ldc (v := 100000) (pc := 16) C 100000 dX11_ladder_16 (zt_mem 843 (by decide +kernel) rfl) (by decide) ?_
    refine zr_callS (As := [zv_i b, zv_i 0, zv_i 100000]) (rest := []) (pc := 18) C dX11_ladder_18 kX11_in sX11_87 rfl (by decide) rfl (Nat.le_of_ble_eq_true rfl) (n_in g τ_1 b 0 100000 (by omega) (by omega) (by omega)) (fun v_ τ_ h_ => ?_)
    obtain ⟨rfl, rfl⟩ := h_
    show zw_W g mX11_ladder k 21 [(0, .ref (g.2.2.1 67)), (1, zv_i a), (2, zv_i b), (3, zv_i c)] [zv_i (zi_b (0 ≤ b ∧ b ≤ 100000))] τ_1
    refine zr_if_eq_b (pc := 21) C 34 dX11_ladder_21 (by decide) (fun h_4 => ?_) (fun h_4 => ?_)
    · refine zr_iconst (pc := 34) C dX11_ladder_34 ?_
      exact zr_zret (pc := 35) C hr dX11_ladder_35 rfl (by decide) (⟨zq_0 (by omega), zy_n (by omega) e_2⟩)
    · refine zr_iload_n (pc := 24) C dX11_ladder_24 3 rfl ?_
      refine zr_iconst (pc := 25) C dX11_ladder_25 ?_
      refine zr_ldc (v := 100000) (pc := 26) C 100000 dX11_ladder_26 (zt_mem 843 (by decide +kernel) rfl) (by decide) ?_
      refine zr_callS (As := [zv_i c, zv_i 0, zv_i 100000]) (rest := []) (pc := 28) C dX11_ladder_28 kX11_in sX11_87 rfl (by decide) rfl (Nat.le_of_ble_eq_true rfl) (n_in g τ_1 c 0 100000 (by omega) (by omega) (by omega)) (fun v_ τ_ h_ => ?_)
      obtain ⟨rfl, rfl⟩ := h_
      show zw_W g mX11_ladder k 31 [(0, .ref (g.2.2.1 67)), (1, zv_i a), (2, zv_i b), (3, zv_i c)] [zv_i (zi_b (0 ≤ c ∧ c ≤ 100000))] τ_1
      refine zr_if_ne_b (pc := 31) C 36 dX11_ladder_31 (by decide) (fun h_5 => ?_) (fun h_5 => ?_)
      · refine zr_aload_n (pc := 36) C dX11_ladder_36 0 rfl ?_
        refine zr_get (v := .ref (g.2.2.1 81)) (pc := 37) C 18 (some (some 81)) dX11_ladder_37 fX11_49 (by decide) (hs_67 _) rfl rfl ?_
        refine zr_iload_n (pc := 40) C dX11_ladder_40 1 rfl ?_
        refine zr_iload_n (pc := 41) C dX11_ladder_41 2 rfl ?_
        refine zr_iastore (pc := 42) C dX11_ladder_42 (by decide) (hs_81 _) (by omega) (by decide) (fun τ_6 e_7 => ?_)
        refine zr_aload_n (pc := 43) C dX11_ladder_43 0 rfl ?_
        refine zr_get (v := .ref (g.2.2.1 82)) (pc := 44) C 19 (some (some 82)) dX11_ladder_44 fX11_52 (by decide) (hs_67 _) rfl rfl ?_
        refine zr_iload_n (pc := 47) C dX11_ladder_47 1 rfl ?_
        refine zr_iload_n (pc := 48) C dX11_ladder_48 3 rfl ?_
        refine zr_iastore (pc := 49) C dX11_ladder_49 (by decide) (hs_82 _) (by omega) (by decide) (fun τ_8 e_9 => ?_)
        refine zr_iconst (pc := 50) C dX11_ladder_50 ?_
        exact zr_zret (pc := 51) C hr dX11_ladder_51 rfl (by decide) (⟨zq_1 (by omega), zy_y (by omega) (by rw [e_9, e_7, e_2])⟩)
      · refine zr_iconst (pc := 34) C dX11_ladder_34 ?_
        exact zr_zret (pc := 35) C hr dX11_ladder_35 rfl (by decide) (⟨zq_0 (by omega), zy_n (by omega) e_2⟩)

set_option maxRecDepth 20000 in
set_option maxHeartbeats 4000000 in
theorem n_needNow (g : zg_G) (σ : zs_S) (a : Int) (har : zi_r a) : zm_Met g mX11_needNow σ [.ref (g.2.2.1 67), zv_i a] (fun v τ => v = some (zv_i (if 0 ≤ a ∧ a ≤ 5 then σ 79 a else -1)) ∧ τ = (zs_put σ 67 0 0)) := by
  refine zm_of (by decide +kernel) (Nat.le_of_ble_eq_true rfl) ?_
  intro k C hr
  show zw_W g mX11_needNow k 0 [(0, .ref (g.2.2.1 67)), (1, zv_i a)] [] σ
  refine zr_aload_n (pc := 0) C dX11_needNow_0 0 rfl ?_
  refine zr_iconst (pc := 1) C dX11_needNow_1 ?_
  refine zr_put (pc := 2) C 0 0 rfl dX11_needNow_2 pX11_84 (by decide) (hs_67 _) rfl (fun τ_1 e_2 => ?_)
  refine zr_iload_n (pc := 5) C dX11_needNow_5 1 rfl ?_
  refine zr_iconst (pc := 6) C dX11_needNow_6 ?_
  refine zr_iconst (pc := 7) C dX11_needNow_7 ?_
  refine zr_callS (As := [zv_i a, zv_i 0, zv_i 5]) (rest := []) (pc := 8) C dX11_needNow_8 kX11_in sX11_87 rfl (by decide) rfl (Nat.le_of_ble_eq_true rfl) (n_in g τ_1 a 0 5 (by omega) (by omega) (by omega)) (fun v_ τ_ h_ => ?_)
  obtain ⟨rfl, rfl⟩ := h_
  show zw_W g mX11_needNow k 11 [(0, .ref (g.2.2.1 67)), (1, zv_i a)] [zv_i (zi_b (0 ≤ a ∧ a ≤ 5))] τ_1
  refine zr_if_eq_b (pc := 11) C 23 dX11_needNow_11 (by decide) (fun h_3 => ?_) (fun h_3 => ?_)
  · refine zr_iconst (pc := 23) C dX11_needNow_23 ?_
    exact zr_iret (pc := 24) C hr dX11_needNow_24 rfl (⟨zq_i (by rw [if_neg (by omega)]), e_2⟩)
  · refine zr_aload_n (pc := 14) C dX11_needNow_14 0 rfl ?_
    refine zr_get (v := .ref (g.2.2.1 79)) (pc := 15) C 15 (some (some 79)) dX11_needNow_15 fX11_43 (by decide) (hs_67 _) rfl rfl ?_
    refine zr_iload_n (pc := 18) C dX11_needNow_18 1 rfl ?_
    refine zr_iaload (pc := 19) C dX11_needNow_19 (by decide) (hs_79 _) (by omega) (by decide) ?_
    refine zr_goto (pc := 20) C 24 dX11_needNow_20 (by decide) ?_
    exact zr_iret (pc := 24) C hr dX11_needNow_24 rfl (⟨zq_i (by rw [if_pos (by omega), e_2, zs_put_ne (by decide)]), e_2⟩)

set_option maxRecDepth 20000 in
set_option maxHeartbeats 4000000 in
theorem n_logs (g : zg_G) (σ : zs_S)  : zm_Met g mX11_logs σ [.ref (g.2.2.1 67)] (fun v τ => v = some (zv_i (σ 67 10)) ∧ τ = (zs_put σ 67 0 0)) := by
  refine zm_of (by decide +kernel) (Nat.le_of_ble_eq_true rfl) ?_
  intro k C hr
  show zw_W g mX11_logs k 0 [(0, .ref (g.2.2.1 67))] [] σ
  refine zr_aload_n (pc := 0) C dX11_logs_0 0 rfl ?_
  refine zr_iconst (pc := 1) C dX11_logs_1 ?_
  refine zr_put (pc := 2) C 0 0 rfl dX11_logs_2 pX11_84 (by decide) (hs_67 _) rfl (fun τ_1 e_2 => ?_)
  refine zr_aload_n (pc := 5) C dX11_logs_5 0 rfl ?_
  refine zr_get (v := zv_i (τ_1 67 10)) (pc := 6) C 10 none dX11_logs_6 fX11_102 (by decide) (hs_67 _) rfl rfl ?_
  exact zr_iret (pc := 9) C hr dX11_logs_9 rfl (⟨zq_i (by rw [e_2, zs_put_off (by decide)]), e_2⟩)

set_option maxRecDepth 20000 in
set_option maxHeartbeats 4000000 in
theorem n_boards (g : zg_G) (σ : zs_S)  : zm_Met g mX11_boards σ [.ref (g.2.2.1 67)] (fun v τ => v = some (zv_i (σ 67 20)) ∧ τ = (zs_put σ 67 0 0)) := by
  refine zm_of (by decide +kernel) (Nat.le_of_ble_eq_true rfl) ?_
  intro k C hr
  show zw_W g mX11_boards k 0 [(0, .ref (g.2.2.1 67))] [] σ
  refine zr_aload_n (pc := 0) C dX11_boards_0 0 rfl ?_
  refine zr_iconst (pc := 1) C dX11_boards_1 ?_
  refine zr_put (pc := 2) C 0 0 rfl dX11_boards_2 pX11_84 (by decide) (hs_67 _) rfl (fun τ_1 e_2 => ?_)
  refine zr_aload_n (pc := 5) C dX11_boards_5 0 rfl ?_
  refine zr_get (v := zv_i (τ_1 67 20)) (pc := 6) C 20 none dX11_boards_6 fX11_155 (by decide) (hs_67 _) rfl rfl ?_
  exact zr_iret (pc := 9) C hr dX11_boards_9 rfl (⟨zq_i (by rw [e_2, zs_put_off (by decide)]), e_2⟩)

set_option maxRecDepth 20000 in
set_option maxHeartbeats 4000000 in
theorem n_cant (g : zg_G) (σ : zs_S)  : zm_Met g mX11_cant σ [.ref (g.2.2.1 67)] (fun v τ => v = some (zv_i (σ 67 21)) ∧ τ = (zs_put σ 67 0 0)) := by
  refine zm_of (by decide +kernel) (Nat.le_of_ble_eq_true rfl) ?_
  intro k C hr
  show zw_W g mX11_cant k 0 [(0, .ref (g.2.2.1 67))] [] σ
  refine zr_aload_n (pc := 0) C dX11_cant_0 0 rfl ?_
  refine zr_iconst (pc := 1) C dX11_cant_1 ?_
  refine zr_put (pc := 2) C 0 0 rfl dX11_cant_2 pX11_84 (by decide) (hs_67 _) rfl (fun τ_1 e_2 => ?_)
  refine zr_aload_n (pc := 5) C dX11_cant_5 0 rfl ?_
  refine zr_get (v := zv_i (τ_1 67 21)) (pc := 6) C 21 none dX11_cant_6 fX11_81 (by decide) (hs_67 _) rfl rfl ?_
  exact zr_iret (pc := 9) C hr dX11_cant_9 rfl (⟨zq_i (by rw [e_2, zs_put_off (by decide)]), e_2⟩)

set_option maxRecDepth 20000 in
set_option maxHeartbeats 4000000 in
theorem n_thrown (g : zg_G) (σ : zs_S)  : zm_Met g mX11_thrown σ [.ref (g.2.2.1 67)] (fun v τ => v = some (zv_i (σ 67 0)) ∧ σ = τ) := by
  refine zm_of (by decide +kernel) (Nat.le_of_ble_eq_true rfl) ?_
  intro k C hr
  show zw_W g mX11_thrown k 0 [(0, .ref (g.2.2.1 67))] [] σ
  refine zr_aload_n (pc := 0) C dX11_thrown_0 0 rfl ?_
  refine zr_get (v := zv_i (σ 67 0)) (pc := 1) C 0 none dX11_thrown_1 fX11_84 (by decide) (hs_67 _) rfl rfl ?_
  exact zr_iret (pc := 4) C hr dX11_thrown_4 rfl (⟨rfl, rfl⟩)

set_option maxRecDepth 20000 in
set_option maxHeartbeats 4000000 in
theorem n_log (g : zg_G) (σ : zs_S) (a c : Int) (har : zi_r a) (hcr : zi_r c) (hc : 0 ≤ σ 67 10 ∧ σ 67 10 ≤ 81) : zm_Met g mX11_log σ [.ref (g.2.2.1 67), zv_i a, zv_i c] (fun v τ => v = some (zv_i (if (0 ≤ a ∧ a ≤ σ 67 10 - 1) ∧ (0 ≤ c ∧ c ≤ 5) then σ 75 (6 * a + c) else 0)) ∧ τ = zs_put σ 67 0 (zi_b (¬ ((0 ≤ a ∧ a ≤ σ 67 10 - 1) ∧ (0 ≤ c ∧ c ≤ 5))))) := by
  refine zm_of (by decide +kernel) (Nat.le_of_ble_eq_true rfl) ?_
  intro k C hr
  show zw_W g mX11_log k 0 [(0, .ref (g.2.2.1 67)), (1, zv_i a), (2, zv_i c)] [] σ
  refine zr_aload_n (pc := 0) C dX11_log_0 0 rfl ?_
  refine zr_iload_n (pc := 1) C dX11_log_1 1 rfl ?_
  refine zr_iconst (pc := 2) C dX11_log_2 ?_
  refine zr_aload_n (pc := 3) C dX11_log_3 0 rfl ?_
  refine zr_get (v := zv_i (σ 67 10)) (pc := 4) C 10 none dX11_log_4 fX11_102 (by decide) (hs_67 _) rfl rfl ?_
  refine zr_iconst (pc := 7) C dX11_log_7 ?_
  refine zr_isub (pc := 8) C dX11_log_8 ?_
  refine zr_callS (As := [zv_i a, zv_i 0, zv_i ((σ 67 10) - 1)]) (rest := [.ref (g.2.2.1 67)]) (pc := 9) C dX11_log_9 kX11_in sX11_87 rfl (by decide) rfl (Nat.le_of_ble_eq_true rfl) (n_in g σ a 0 ((σ 67 10) - 1) (by omega) (by omega) (by omega)) (fun v_ τ_ h_ => ?_)
  obtain ⟨rfl, rfl⟩ := h_
  show zw_W g mX11_log k 12 [(0, .ref (g.2.2.1 67)), (1, zv_i a), (2, zv_i c)] [zv_i (zi_b (0 ≤ a ∧ a ≤ ((σ 67 10) - 1))), .ref (g.2.2.1 67)] σ
  refine zr_if_eq_b (pc := 12) C 28 dX11_log_12 (by decide) (fun h_1 => ?_) (fun h_1 => ?_)
  · refine zr_iconst (pc := 28) C dX11_log_28 ?_
    refine zr_put (pc := 29) C 0 0 rfl dX11_log_29 pX11_84 (by decide) (hs_67 _) rfl (fun τ_2 e_3 => ?_)
    have h0 : τ_2 67 0 = 1 := by rw [e_3, zs_put_self]
    refine zr_aload_n (pc := 32) C dX11_log_32 0 rfl ?_
    refine zr_get (v := zv_i (τ_2 67 0)) (pc := 33) C 0 none dX11_log_33 fX11_84 (by decide) (hs_67 _) rfl rfl ?_
    refine zr_iconst (pc := 36) C dX11_log_36 ?_
    refine zr_icmp_ne (pc := 37) C 44 dX11_log_37 (by decide) (by omega) (by omega) (fun h_4 => ?_) (fun h_4 => ?_)
    · exact absurd h0 h_4
    · refine zr_iconst (pc := 40) C dX11_log_40 ?_
      refine zr_goto (pc := 41) C 55 dX11_log_41 (by decide) ?_
      exact zr_iret (pc := 55) C hr dX11_log_55 rfl (⟨zq_i (by rw [if_neg (by omega)]), by rw [e_3, zi_bt (by omega)]⟩)
  · refine zr_iload_n (pc := 15) C dX11_log_15 2 rfl ?_
    refine zr_iconst (pc := 16) C dX11_log_16 ?_
    refine zr_iconst (pc := 17) C dX11_log_17 ?_
    refine zr_callS (As := [zv_i c, zv_i 0, zv_i 5]) (rest := [.ref (g.2.2.1 67)]) (pc := 18) C dX11_log_18 kX11_in sX11_87 rfl (by decide) rfl (Nat.le_of_ble_eq_true rfl) (n_in g σ c 0 5 (by omega) (by omega) (by omega)) (fun v_ τ_ h_ => ?_)
    obtain ⟨rfl, rfl⟩ := h_
    show zw_W g mX11_log k 21 [(0, .ref (g.2.2.1 67)), (1, zv_i a), (2, zv_i c)] [zv_i (zi_b (0 ≤ c ∧ c ≤ 5)), .ref (g.2.2.1 67)] σ
    refine zr_if_eq_b (pc := 21) C 28 dX11_log_21 (by decide) (fun h_5 => ?_) (fun h_5 => ?_)
    · refine zr_iconst (pc := 28) C dX11_log_28 ?_
      refine zr_put (pc := 29) C 0 0 rfl dX11_log_29 pX11_84 (by decide) (hs_67 _) rfl (fun τ_6 e_7 => ?_)
      have h0 : τ_6 67 0 = 1 := by rw [e_7, zs_put_self]
      refine zr_aload_n (pc := 32) C dX11_log_32 0 rfl ?_
      refine zr_get (v := zv_i (τ_6 67 0)) (pc := 33) C 0 none dX11_log_33 fX11_84 (by decide) (hs_67 _) rfl rfl ?_
      refine zr_iconst (pc := 36) C dX11_log_36 ?_
      refine zr_icmp_ne (pc := 37) C 44 dX11_log_37 (by decide) (by omega) (by omega) (fun h_8 => ?_) (fun h_8 => ?_)
      · exact absurd h0 h_8
      · refine zr_iconst (pc := 40) C dX11_log_40 ?_
        refine zr_goto (pc := 41) C 55 dX11_log_41 (by decide) ?_
        exact zr_iret (pc := 55) C hr dX11_log_55 rfl (⟨zq_i (by rw [if_neg (by omega)]), by rw [e_7, zi_bt (by omega)]⟩)
    · refine zr_iconst (pc := 24) C dX11_log_24 ?_
      refine zr_goto (pc := 25) C 29 dX11_log_25 (by decide) ?_
      refine zr_put (pc := 29) C 0 0 rfl dX11_log_29 pX11_84 (by decide) (hs_67 _) rfl (fun τ_9 e_10 => ?_)
      have h0 : τ_9 67 0 = 0 := by rw [e_10, zs_put_self]
      refine zr_aload_n (pc := 32) C dX11_log_32 0 rfl ?_
      refine zr_get (v := zv_i (τ_9 67 0)) (pc := 33) C 0 none dX11_log_33 fX11_84 (by decide) (hs_67 _) rfl rfl ?_
      refine zr_iconst (pc := 36) C dX11_log_36 ?_
      refine zr_icmp_ne (pc := 37) C 44 dX11_log_37 (by decide) (by omega) (by omega) (fun h_11 => ?_) (fun h_11 => ?_)
      · refine zr_aload_n (pc := 44) C dX11_log_44 0 rfl ?_
        refine zr_get (v := .ref (g.2.2.1 75)) (pc := 45) C 11 (some (some 75)) dX11_log_45 fX11_31 (by decide) (hs_67 _) rfl rfl ?_
        refine zr_bipush (pc := 48) C dX11_log_48 (by decide) ?_
        refine zr_iload_n (pc := 50) C dX11_log_50 1 rfl ?_
        refine zr_imul (pc := 51) C dX11_log_51 ?_
        refine zr_iload_n (pc := 52) C dX11_log_52 2 rfl ?_
        refine zr_iadd (pc := 53) C dX11_log_53 ?_
        refine zr_iaload (pc := 54) C dX11_log_54 (by decide) (hs_75 _) (by omega) (by decide) ?_
        exact zr_iret (pc := 55) C hr dX11_log_55 rfl (⟨zq_i (by rw [if_pos (by omega), e_10, zs_put_ne (by decide)]), by rw [e_10, zi_bf (by omega)]⟩)
      · exact absurd (h0.symm.trans h_11) (by decide)

set_option maxRecDepth 20000 in
set_option maxHeartbeats 4000000 in
theorem n_board (g : zg_G) (σ : zs_S) (a c : Int) (har : zi_r a) (hcr : zi_r c) (hc : 0 ≤ σ 67 20 ∧ σ 67 20 ≤ 600) : zm_Met g mX11_board σ [.ref (g.2.2.1 67), zv_i a, zv_i c] (fun v τ => v = some (zv_i (if (0 ≤ a ∧ a ≤ σ 67 20 - 1) ∧ (0 ≤ c ∧ c ≤ 3) then σ 83 (4 * a + c) else 0)) ∧ τ = zs_put σ 67 0 (zi_b (¬ ((0 ≤ a ∧ a ≤ σ 67 20 - 1) ∧ (0 ≤ c ∧ c ≤ 3))))) := by
  refine zm_of (by decide +kernel) (Nat.le_of_ble_eq_true rfl) ?_
  intro k C hr
  show zw_W g mX11_board k 0 [(0, .ref (g.2.2.1 67)), (1, zv_i a), (2, zv_i c)] [] σ
  refine zr_aload_n (pc := 0) C dX11_board_0 0 rfl ?_
  refine zr_iload_n (pc := 1) C dX11_board_1 1 rfl ?_
  refine zr_iconst (pc := 2) C dX11_board_2 ?_
  refine zr_aload_n (pc := 3) C dX11_board_3 0 rfl ?_
  refine zr_get (v := zv_i (σ 67 20)) (pc := 4) C 20 none dX11_board_4 fX11_155 (by decide) (hs_67 _) rfl rfl ?_
  refine zr_iconst (pc := 7) C dX11_board_7 ?_
  refine zr_isub (pc := 8) C dX11_board_8 ?_
  refine zr_callS (As := [zv_i a, zv_i 0, zv_i ((σ 67 20) - 1)]) (rest := [.ref (g.2.2.1 67)]) (pc := 9) C dX11_board_9 kX11_in sX11_87 rfl (by decide) rfl (Nat.le_of_ble_eq_true rfl) (n_in g σ a 0 ((σ 67 20) - 1) (by omega) (by omega) (by omega)) (fun v_ τ_ h_ => ?_)
  obtain ⟨rfl, rfl⟩ := h_
  show zw_W g mX11_board k 12 [(0, .ref (g.2.2.1 67)), (1, zv_i a), (2, zv_i c)] [zv_i (zi_b (0 ≤ a ∧ a ≤ ((σ 67 20) - 1))), .ref (g.2.2.1 67)] σ
  refine zr_if_eq_b (pc := 12) C 28 dX11_board_12 (by decide) (fun h_1 => ?_) (fun h_1 => ?_)
  · refine zr_iconst (pc := 28) C dX11_board_28 ?_
    refine zr_put (pc := 29) C 0 0 rfl dX11_board_29 pX11_84 (by decide) (hs_67 _) rfl (fun τ_2 e_3 => ?_)
    have h0 : τ_2 67 0 = 1 := by rw [e_3, zs_put_self]
    refine zr_aload_n (pc := 32) C dX11_board_32 0 rfl ?_
    refine zr_get (v := zv_i (τ_2 67 0)) (pc := 33) C 0 none dX11_board_33 fX11_84 (by decide) (hs_67 _) rfl rfl ?_
    refine zr_iconst (pc := 36) C dX11_board_36 ?_
    refine zr_icmp_ne (pc := 37) C 44 dX11_board_37 (by decide) (by omega) (by omega) (fun h_4 => ?_) (fun h_4 => ?_)
    · exact absurd h0 h_4
    · refine zr_iconst (pc := 40) C dX11_board_40 ?_
      refine zr_goto (pc := 41) C 54 dX11_board_41 (by decide) ?_
      exact zr_iret (pc := 54) C hr dX11_board_54 rfl (⟨zq_i (by rw [if_neg (by omega)]), by rw [e_3, zi_bt (by omega)]⟩)
  · refine zr_iload_n (pc := 15) C dX11_board_15 2 rfl ?_
    refine zr_iconst (pc := 16) C dX11_board_16 ?_
    refine zr_iconst (pc := 17) C dX11_board_17 ?_
    refine zr_callS (As := [zv_i c, zv_i 0, zv_i 3]) (rest := [.ref (g.2.2.1 67)]) (pc := 18) C dX11_board_18 kX11_in sX11_87 rfl (by decide) rfl (Nat.le_of_ble_eq_true rfl) (n_in g σ c 0 3 (by omega) (by omega) (by omega)) (fun v_ τ_ h_ => ?_)
    obtain ⟨rfl, rfl⟩ := h_
    show zw_W g mX11_board k 21 [(0, .ref (g.2.2.1 67)), (1, zv_i a), (2, zv_i c)] [zv_i (zi_b (0 ≤ c ∧ c ≤ 3)), .ref (g.2.2.1 67)] σ
    refine zr_if_eq_b (pc := 21) C 28 dX11_board_21 (by decide) (fun h_5 => ?_) (fun h_5 => ?_)
    · refine zr_iconst (pc := 28) C dX11_board_28 ?_
      refine zr_put (pc := 29) C 0 0 rfl dX11_board_29 pX11_84 (by decide) (hs_67 _) rfl (fun τ_6 e_7 => ?_)
      have h0 : τ_6 67 0 = 1 := by rw [e_7, zs_put_self]
      refine zr_aload_n (pc := 32) C dX11_board_32 0 rfl ?_
      refine zr_get (v := zv_i (τ_6 67 0)) (pc := 33) C 0 none dX11_board_33 fX11_84 (by decide) (hs_67 _) rfl rfl ?_
      refine zr_iconst (pc := 36) C dX11_board_36 ?_
      refine zr_icmp_ne (pc := 37) C 44 dX11_board_37 (by decide) (by omega) (by omega) (fun h_8 => ?_) (fun h_8 => ?_)
      · exact absurd h0 h_8
      · refine zr_iconst (pc := 40) C dX11_board_40 ?_
        refine zr_goto (pc := 41) C 54 dX11_board_41 (by decide) ?_
        exact zr_iret (pc := 54) C hr dX11_board_54 rfl (⟨zq_i (by rw [if_neg (by omega)]), by rw [e_7, zi_bt (by omega)]⟩)
    · refine zr_iconst (pc := 24) C dX11_board_24 ?_
      refine zr_goto (pc := 25) C 29 dX11_board_25 (by decide) ?_
      refine zr_put (pc := 29) C 0 0 rfl dX11_board_29 pX11_84 (by decide) (hs_67 _) rfl (fun τ_9 e_10 => ?_)
      have h0 : τ_9 67 0 = 0 := by rw [e_10, zs_put_self]
      refine zr_aload_n (pc := 32) C dX11_board_32 0 rfl ?_
      refine zr_get (v := zv_i (τ_9 67 0)) (pc := 33) C 0 none dX11_board_33 fX11_84 (by decide) (hs_67 _) rfl rfl ?_
      refine zr_iconst (pc := 36) C dX11_board_36 ?_
      refine zr_icmp_ne (pc := 37) C 44 dX11_board_37 (by decide) (by omega) (by omega) (fun h_11 => ?_) (fun h_11 => ?_)
      · refine zr_aload_n (pc := 44) C dX11_board_44 0 rfl ?_
        refine zr_get (v := .ref (g.2.2.1 83)) (pc := 45) C 22 (some (some 83)) dX11_board_45 fX11_55 (by decide) (hs_67 _) rfl rfl ?_
        refine zr_iconst (pc := 48) C dX11_board_48 ?_
        refine zr_iload_n (pc := 49) C dX11_board_49 1 rfl ?_
        refine zr_imul (pc := 50) C dX11_board_50 ?_
        refine zr_iload_n (pc := 51) C dX11_board_51 2 rfl ?_
        refine zr_iadd (pc := 52) C dX11_board_52 ?_
        refine zr_iaload (pc := 53) C dX11_board_53 (by decide) (hs_83 _) (by omega) (by decide) ?_
        exact zr_iret (pc := 54) C hr dX11_board_54 rfl (⟨zq_i (by rw [if_pos (by omega), e_10, zs_put_ne (by decide)]), by rw [e_10, zi_bf (by omega)]⟩)
      · exact absurd (h0.symm.trans h_11) (by decide)
