theorem zr_same {g : zg_G} {M : zm_T} {k : zk_T} {pc : Nat} {L : List (Nat × Value)} {S : List Value} {σ : zs_S} (C : zk_ok g M k) {x y : Int} {off : Int} (tgt : Nat) (hd : decode M.2.1 pc = .ok (.if_icmp .eq off, 3)) (ht : (pc : Int) + off = (tgt : Int)) (hxy : y = x) (K : zw_W g M k tgt L S σ) : zw_W g M k pc L (zv_i y :: zv_i x :: S) σ := by
  subst hxy
  obtain ⟨p, l, e, R, s, m, args, below, meth, c, cells, slots, Q, A⟩ := k
  obtain ⟨hx, hb, hml, hown, hts, hK, hA, hf1, hf2, hc1, hc2, hN⟩ := C
  intro H locs ls hP hS hl
  exact lv_icmp_eq hx hb hd ht (fun h => K H locs ls hP hS hl) (fun h => absurd rfl h)
theorem zy_x {c P : Prop} {σ τ : zs_S} {cs : List Nat} (h : zy_i c (σ = τ) P) (hP : P → zf_x σ τ cs) : zf_x σ τ cs := by
  by_cases z : c
  · exact hP (h.2 z)
  · obtain rfl := h.1 z
    exact zf_r _ _
/-- where a case of the law ends -/
def lw_N (g : zg_G) (n : Int) (bb Ls : Nat) (xs : Nat → Int32) (i : Int) : Prop := ∀ (k : zk_T) (τ : zs_S) (b q u p : Nat), zk_ok g mL_law k → lw_k bb Ls xs (i + 1) k → rl_R τ n b q u p → zw_W g mL_law k 961 [(0, .ref bb), (1, .ref (g.2.2.1 0)), (2, .ref (g.2.2.1 67)), (3, .ref (g.2.2.1 90)), (4, zv_i i)] [] τ
theorem vL_34 : zl_V RL 34 10 mX10_diameter := ⟨(RX10, TX10, 6), rfl, rfl, (zt_mem 328 (by decide +kernel) rfl), (zt_mem 329 (by decide +kernel) rfl), (zt_mem 330 (by decide +kernel) rfl)⟩
theorem vL_38 : zl_V RL 38 11 mX11_diameter := ⟨(RX11, TX11, 29), rfl, rfl, (zt_mem 758 (by decide +kernel) rfl), (zt_mem 759 (by decide +kernel) rfl), (zt_mem 760 (by decide +kernel) rfl)⟩
theorem vL_39 : zl_V RL 39 10 mX10_defect := ⟨(RX10, TX10, 6), rfl, rfl, (zt_mem 332 (by decide +kernel) rfl), (zt_mem 333 (by decide +kernel) rfl), (zt_mem 334 (by decide +kernel) rfl)⟩
theorem vL_43 : zl_V RL 43 11 mX11_defect := ⟨(RX11, TX11, 29), rfl, rfl, (zt_mem 765 (by decide +kernel) rfl), (zt_mem 766 (by decide +kernel) rfl), (zt_mem 767 (by decide +kernel) rfl)⟩
theorem vL_44 : zl_V RL 44 10 mX10_logKind := ⟨(RX10, TX10, 6), rfl, rfl, (zt_mem 343 (by decide +kernel) rfl), (zt_mem 344 (by decide +kernel) rfl), (zt_mem 345 (by decide +kernel) rfl)⟩
theorem vL_47 : zl_V RL 47 11 mX11_logKind := ⟨(RX11, TX11, 29), rfl, rfl, (zt_mem 769 (by decide +kernel) rfl), (zt_mem 770 (by decide +kernel) rfl), (zt_mem 771 (by decide +kernel) rfl)⟩
theorem vL_48 : zl_V RL 48 10 mX10_priceOf := ⟨(RX10, TX10, 6), rfl, rfl, (zt_mem 354 (by decide +kernel) rfl), (zt_mem 355 (by decide +kernel) rfl), (zt_mem 356 (by decide +kernel) rfl)⟩
theorem vL_52 : zl_V RL 52 11 mX11_priceOf := ⟨(RX11, TX11, 29), rfl, rfl, (zt_mem 773 (by decide +kernel) rfl), (zt_mem 774 (by decide +kernel) rfl), (zt_mem 775 (by decide +kernel) rfl)⟩
theorem vL_53 : zl_V RL 53 10 mX10_buck := ⟨(RX10, TX10, 6), rfl, rfl, (zt_mem 366 (by decide +kernel) rfl), (zt_mem 367 (by decide +kernel) rfl), (zt_mem 368 (by decide +kernel) rfl)⟩
theorem vL_57 : zl_V RL 57 11 mX11_buck := ⟨(RX11, TX11, 29), rfl, rfl, (zt_mem 778 (by decide +kernel) rfl), (zt_mem 779 (by decide +kernel) rfl), (zt_mem 780 (by decide +kernel) rfl)⟩
theorem vL_60 : zl_V RL 60 10 mX10_byHand := ⟨(RX10, TX10, 6), rfl, rfl, (zt_mem 407 (by decide +kernel) rfl), (zt_mem 408 (by decide +kernel) rfl), (zt_mem 409 (by decide +kernel) rfl)⟩
theorem vL_64 : zl_V RL 64 11 mX11_byHand := ⟨(RX11, TX11, 29), rfl, rfl, (zt_mem 806 (by decide +kernel) rfl), (zt_mem 807 (by decide +kernel) rfl), (zt_mem 808 (by decide +kernel) rfl)⟩
theorem vL_65 : zl_V RL 65 10 mX10_logs := ⟨(RX10, TX10, 6), rfl, rfl, (zt_mem 415 (by decide +kernel) rfl), (zt_mem 416 (by decide +kernel) rfl), (zt_mem 417 (by decide +kernel) rfl)⟩
theorem vL_68 : zl_V RL 68 11 mX11_logs := ⟨(RX11, TX11, 29), rfl, rfl, (zt_mem 811 (by decide +kernel) rfl), (zt_mem 812 (by decide +kernel) rfl), (zt_mem 813 (by decide +kernel) rfl)⟩
theorem vL_72 : zl_V RL 72 11 mX11_log := ⟨(RX11, TX11, 29), rfl, rfl, (zt_mem 815 (by decide +kernel) rfl), (zt_mem 816 (by decide +kernel) rfl), (zt_mem 817 (by decide +kernel) rfl)⟩
theorem vL_73 : zl_V RL 73 11 mX11_thrown := ⟨(RX11, TX11, 29), rfl, rfl, (zt_mem 754 (by decide +kernel) rfl), (zt_mem 755 (by decide +kernel) rfl), (zt_mem 756 (by decide +kernel) rfl)⟩
theorem vL_76 : zl_V RL 76 10 mX10_size := ⟨(RX10, TX10, 6), rfl, rfl, (zt_mem 419 (by decide +kernel) rfl), (zt_mem 420 (by decide +kernel) rfl), (zt_mem 421 (by decide +kernel) rfl)⟩
theorem vL_79 : zl_V RL 79 11 mX11_size := ⟨(RX11, TX11, 29), rfl, rfl, (zt_mem 819 (by decide +kernel) rfl), (zt_mem 820 (by decide +kernel) rfl), (zt_mem 821 (by decide +kernel) rfl)⟩
theorem vL_80 : zl_V RL 80 10 mX10_boardPrice := ⟨(RX10, TX10, 6), rfl, rfl, (zt_mem 428 (by decide +kernel) rfl), (zt_mem 429 (by decide +kernel) rfl), (zt_mem 430 (by decide +kernel) rfl)⟩
theorem vL_83 : zl_V RL 83 11 mX11_boardPrice := ⟨(RX11, TX11, 29), rfl, rfl, (zt_mem 823 (by decide +kernel) rfl), (zt_mem 824 (by decide +kernel) rfl), (zt_mem 825 (by decide +kernel) rfl)⟩
theorem vL_84 : zl_V RL 84 10 mX10_height := ⟨(RX10, TX10, 6), rfl, rfl, (zt_mem 440 (by decide +kernel) rfl), (zt_mem 441 (by decide +kernel) rfl), (zt_mem 442 (by decide +kernel) rfl)⟩
theorem vL_87 : zl_V RL 87 11 mX11_height := ⟨(RX11, TX11, 29), rfl, rfl, (zt_mem 827 (by decide +kernel) rfl), (zt_mem 828 (by decide +kernel) rfl), (zt_mem 829 (by decide +kernel) rfl)⟩
theorem vL_88 : zl_V RL 88 10 mX10_kerf := ⟨(RX10, TX10, 6), rfl, rfl, (zt_mem 444 (by decide +kernel) rfl), (zt_mem 445 (by decide +kernel) rfl), (zt_mem 446 (by decide +kernel) rfl)⟩
theorem vL_92 : zl_V RL 92 11 mX11_kerf := ⟨(RX11, TX11, 29), rfl, rfl, (zt_mem 831 (by decide +kernel) rfl), (zt_mem 832 (by decide +kernel) rfl), (zt_mem 833 (by decide +kernel) rfl)⟩
theorem vL_93 : zl_V RL 93 10 mX10_need := ⟨(RX10, TX10, 6), rfl, rfl, (zt_mem 448 (by decide +kernel) rfl), (zt_mem 449 (by decide +kernel) rfl), (zt_mem 450 (by decide +kernel) rfl)⟩
theorem vL_96 : zl_V RL 96 11 mX11_need := ⟨(RX11, TX11, 29), rfl, rfl, (zt_mem 835 (by decide +kernel) rfl), (zt_mem 836 (by decide +kernel) rfl), (zt_mem 837 (by decide +kernel) rfl)⟩
theorem vL_97 : zl_V RL 97 10 mX10_ladder := ⟨(RX10, TX10, 6), rfl, rfl, (zt_mem 452 (by decide +kernel) rfl), (zt_mem 453 (by decide +kernel) rfl), (zt_mem 454 (by decide +kernel) rfl)⟩
theorem vL_100 : zl_V RL 100 11 mX11_ladder := ⟨(RX11, TX11, 29), rfl, rfl, (zt_mem 839 (by decide +kernel) rfl), (zt_mem 840 (by decide +kernel) rfl), (zt_mem 841 (by decide +kernel) rfl)⟩
theorem vL_101 : zl_V RL 101 10 mX10_needNow := ⟨(RX10, TX10, 6), rfl, rfl, (zt_mem 457 (by decide +kernel) rfl), (zt_mem 458 (by decide +kernel) rfl), (zt_mem 459 (by decide +kernel) rfl)⟩
theorem vL_104 : zl_V RL 104 11 mX11_needNow := ⟨(RX11, TX11, 29), rfl, rfl, (zt_mem 844 (by decide +kernel) rfl), (zt_mem 845 (by decide +kernel) rfl), (zt_mem 846 (by decide +kernel) rfl)⟩
theorem vL_108 : zl_V RL 108 11 mX11_saw := ⟨(RX11, TX11, 29), rfl, rfl, (zt_mem 848 (by decide +kernel) rfl), (zt_mem 849 (by decide +kernel) rfl), (zt_mem 850 (by decide +kernel) rfl)⟩
theorem vL_109 : zl_V RL 109 10 mX10_boards := ⟨(RX10, TX10, 6), rfl, rfl, (zt_mem 461 (by decide +kernel) rfl), (zt_mem 462 (by decide +kernel) rfl), (zt_mem 463 (by decide +kernel) rfl)⟩
theorem vL_112 : zl_V RL 112 11 mX11_boards := ⟨(RX11, TX11, 29), rfl, rfl, (zt_mem 887 (by decide +kernel) rfl), (zt_mem 888 (by decide +kernel) rfl), (zt_mem 889 (by decide +kernel) rfl)⟩
theorem vL_115 : zl_V RL 115 11 mX11_board := ⟨(RX11, TX11, 29), rfl, rfl, (zt_mem 891 (by decide +kernel) rfl), (zt_mem 892 (by decide +kernel) rfl), (zt_mem 893 (by decide +kernel) rfl)⟩
theorem vL_116 : zl_V RL 116 10 mX10_cant := ⟨(RX10, TX10, 6), rfl, rfl, (zt_mem 473 (by decide +kernel) rfl), (zt_mem 474 (by decide +kernel) rfl), (zt_mem 475 (by decide +kernel) rfl)⟩
theorem vL_119 : zl_V RL 119 11 mX11_cant := ⟨(RX11, TX11, 29), rfl, rfl, (zt_mem 895 (by decide +kernel) rfl), (zt_mem 896 (by decide +kernel) rfl), (zt_mem 897 (by decide +kernel) rfl)⟩
theorem vL_120 : zl_V RL 120 10 mX10_fits := ⟨(RX10, TX10, 6), rfl, rfl, (zt_mem 477 (by decide +kernel) rfl), (zt_mem 478 (by decide +kernel) rfl), (zt_mem 479 (by decide +kernel) rfl)⟩
theorem vL_123 : zl_V RL 123 11 mX11_fits := ⟨(RX11, TX11, 29), rfl, rfl, (zt_mem 899 (by decide +kernel) rfl), (zt_mem 900 (by decide +kernel) rfl), (zt_mem 901 (by decide +kernel) rfl)⟩
set_option maxRecDepth 20000 in
set_option maxHeartbeats 4000000 in
theorem n_defect2 (g : zg_G) (σ : zs_S) (a b c : Int) (har : zi_r a) (hbr : zi_r b) (hcr : zi_r c) (n : Int) (hl : σ 67 1 = n) (hn : 1 ≤ n ∧ n ≤ 80) (hd : 0 ≤ σ 67 3 ∧ σ 67 3 ≤ 20) : zm_Met g mX11_defect σ [.ref (g.2.2.1 67), zv_i a, zv_i b, zv_i c] (fun v τ => v = some (zv_i (zi_b (((0 ≤ b ∧ b ≤ n) ∧ (0 ≤ a ∧ a ≤ b) ∧ (2 ≤ c ∧ c ≤ 3)) ∧ σ 67 3 < 20))) ∧ zy_i (((0 ≤ b ∧ b ≤ n) ∧ (0 ≤ a ∧ a ≤ b) ∧ (2 ≤ c ∧ c ≤ 3)) ∧ σ 67 3 < 20) (τ = zs_put σ 67 0 0) (τ 67 3 = σ 67 3 + 1 ∧ τ 67 1 = σ 67 1 ∧ τ 69 (σ 67 3) = a ∧ τ 70 (σ 67 3) = b ∧ τ 71 (σ 67 3) = c ∧ (∀ y, y ≠ σ 67 3 → τ 69 y = σ 69 y) ∧ (∀ y, y ≠ σ 67 3 → τ 70 y = σ 70 y) ∧ (∀ y, y ≠ σ 67 3 → τ 71 y = σ 71 y) ∧ zf_x σ τ [67, 69, 70, 71] ∧ (∀ y, y ≠ 0 → y ≠ 3 → τ 67 y = σ 67 y))) := by
  refine zm_of (by decide +kernel) (Nat.le_of_ble_eq_true rfl) ?_
  intro k C hr
  show zw_W g mX11_defect k 0 [(0, .ref (g.2.2.1 67)), (1, zv_i a), (2, zv_i b), (3, zv_i c)] [] σ
  refine zr_aload_n (pc := 0) C dX11_defect_0 0 rfl ?_
  refine zr_iconst (pc := 1) C dX11_defect_1 ?_
  refine zr_put (pc := 2) C 0 0 rfl dX11_defect_2 pX11_84 (by decide) (hs_67 _) rfl (fun τ_1 e_2 => ?_)
  have hl1 : τ_1 67 1 = n := by rw [e_2, zs_put_off (by decide)]; exact hl
  have hv1 : τ_1 67 3 = σ 67 3 := by rw [e_2, zs_put_off (by decide)]
  refine zr_aload_n (pc := 5) C dX11_defect_5 0 rfl ?_
  refine zr_get (v := zv_i (τ_1 67 3)) (pc := 6) C 3 none dX11_defect_6 fX11_91 (by decide) (hs_67 _) rfl rfl ?_
  refine zr_bipush (pc := 9) C dX11_defect_9 (by decide) ?_
  refine zr_icmp_eq (pc := 11) C 47 dX11_defect_11 (by decide) (by omega) (by omega) (fun h_3 => ?_) (fun h_3 => ?_)
  · refine zr_iconst (pc := 47) C dX11_defect_47 ?_
    exact zr_zret (pc := 48) C hr dX11_defect_48 rfl (by decide) (⟨zq_0 (by omega), zy_n (by omega) e_2⟩)
  · refine zr_iload_n (pc := 14) C dX11_defect_14 1 rfl ?_
    refine zr_iconst (pc := 15) C dX11_defect_15 ?_
    refine zr_aload_n (pc := 16) C dX11_defect_16 0 rfl ?_
    refine zr_get (v := zv_i (τ_1 67 1)) (pc := 17) C 1 none dX11_defect_17 fX11_77 (by decide) (hs_67 _) rfl rfl ?_
    refine zr_callS (As := [zv_i a, zv_i 0, zv_i (τ_1 67 1)]) (rest := []) (pc := 20) C dX11_defect_20 kX11_in sX11_87 rfl (by decide) rfl (Nat.le_of_ble_eq_true rfl) (n_in g τ_1 a 0 (τ_1 67 1) (by omega) (by omega) (by omega)) (fun v_ τ_ h_ => ?_)
    obtain ⟨rfl, rfl⟩ := h_
    show zw_W g mX11_defect k 23 [(0, .ref (g.2.2.1 67)), (1, zv_i a), (2, zv_i b), (3, zv_i c)] [zv_i (zi_b (0 ≤ a ∧ a ≤ (τ_1 67 1)))] τ_1
    refine zr_if_eq_b (pc := 23) C 47 dX11_defect_23 (by decide) (fun h_4 => ?_) (fun h_4 => ?_)
    · refine zr_iconst (pc := 47) C dX11_defect_47 ?_
      exact zr_zret (pc := 48) C hr dX11_defect_48 rfl (by decide) (⟨zq_0 (by omega), zy_n (by omega) e_2⟩)
    · refine zr_iload_n (pc := 26) C dX11_defect_26 2 rfl ?_
      refine zr_iload_n (pc := 27) C dX11_defect_27 1 rfl ?_
      refine zr_aload_n (pc := 28) C dX11_defect_28 0 rfl ?_
      refine zr_get (v := zv_i (τ_1 67 1)) (pc := 29) C 1 none dX11_defect_29 fX11_77 (by decide) (hs_67 _) rfl rfl ?_
      refine zr_callS (As := [zv_i b, zv_i a, zv_i (τ_1 67 1)]) (rest := []) (pc := 32) C dX11_defect_32 kX11_in sX11_87 rfl (by decide) rfl (Nat.le_of_ble_eq_true rfl) (n_in g τ_1 b a (τ_1 67 1) (by omega) (by omega) (by omega)) (fun v_ τ_ h_ => ?_)
      obtain ⟨rfl, rfl⟩ := h_
      show zw_W g mX11_defect k 35 [(0, .ref (g.2.2.1 67)), (1, zv_i a), (2, zv_i b), (3, zv_i c)] [zv_i (zi_b (a ≤ b ∧ b ≤ (τ_1 67 1)))] τ_1
      refine zr_if_eq_b (pc := 35) C 47 dX11_defect_35 (by decide) (fun h_5 => ?_) (fun h_5 => ?_)
      · refine zr_iconst (pc := 47) C dX11_defect_47 ?_
        exact zr_zret (pc := 48) C hr dX11_defect_48 rfl (by decide) (⟨zq_0 (by omega), zy_n (by omega) e_2⟩)
      · refine zr_iload_n (pc := 38) C dX11_defect_38 3 rfl ?_
        refine zr_iconst (pc := 39) C dX11_defect_39 ?_
        refine zr_iconst (pc := 40) C dX11_defect_40 ?_
        refine zr_callS (As := [zv_i c, zv_i 2, zv_i 3]) (rest := []) (pc := 41) C dX11_defect_41 kX11_in sX11_87 rfl (by decide) rfl (Nat.le_of_ble_eq_true rfl) (n_in g τ_1 c 2 3 (by omega) (by omega) (by omega)) (fun v_ τ_ h_ => ?_)
        obtain ⟨rfl, rfl⟩ := h_
        show zw_W g mX11_defect k 44 [(0, .ref (g.2.2.1 67)), (1, zv_i a), (2, zv_i b), (3, zv_i c)] [zv_i (zi_b (2 ≤ c ∧ c ≤ 3))] τ_1
        refine zr_if_ne_b (pc := 44) C 49 dX11_defect_44 (by decide) (fun h_6 => ?_) (fun h_6 => ?_)
        · refine zr_aload_n (pc := 49) C dX11_defect_49 0 rfl ?_
          refine zr_get (v := .ref (g.2.2.1 69)) (pc := 50) C 4 (some (some 69)) dX11_defect_50 fX11_13 (by decide) (hs_67 _) rfl rfl ?_
          refine zr_aload_n (pc := 53) C dX11_defect_53 0 rfl ?_
          refine zr_get (v := zv_i (τ_1 67 3)) (pc := 54) C 3 none dX11_defect_54 fX11_91 (by decide) (hs_67 _) rfl rfl ?_
          refine zr_iload_n (pc := 57) C dX11_defect_57 1 rfl ?_
          refine zr_iastore (pc := 58) C dX11_defect_58 (by decide) (hs_69 _) (by omega) (by decide) (fun τ_7 e_8 => ?_)
          have hv2 : τ_7 67 3 = σ 67 3 := by rw [e_8, zs_put_ne (by decide), hv1]
          refine zr_aload_n (pc := 59) C dX11_defect_59 0 rfl ?_
          refine zr_get (v := .ref (g.2.2.1 70)) (pc := 60) C 5 (some (some 70)) dX11_defect_60 fX11_16 (by decide) (hs_67 _) rfl rfl ?_
          refine zr_aload_n (pc := 63) C dX11_defect_63 0 rfl ?_
          refine zr_get (v := zv_i (τ_7 67 3)) (pc := 64) C 3 none dX11_defect_64 fX11_91 (by decide) (hs_67 _) rfl rfl ?_
          refine zr_iload_n (pc := 67) C dX11_defect_67 2 rfl ?_
          refine zr_iastore (pc := 68) C dX11_defect_68 (by decide) (hs_70 _) (by omega) (by decide) (fun τ_9 e_10 => ?_)
          have hv3 : τ_9 67 3 = σ 67 3 := by rw [e_10, zs_put_ne (by decide), hv2]
          refine zr_aload_n (pc := 69) C dX11_defect_69 0 rfl ?_
          refine zr_get (v := .ref (g.2.2.1 71)) (pc := 70) C 6 (some (some 71)) dX11_defect_70 fX11_19 (by decide) (hs_67 _) rfl rfl ?_
          refine zr_aload_n (pc := 73) C dX11_defect_73 0 rfl ?_
          refine zr_get (v := zv_i (τ_9 67 3)) (pc := 74) C 3 none dX11_defect_74 fX11_91 (by decide) (hs_67 _) rfl rfl ?_
          refine zr_iload_n (pc := 77) C dX11_defect_77 3 rfl ?_
          refine zr_iastore (pc := 78) C dX11_defect_78 (by decide) (hs_71 _) (by omega) (by decide) (fun τ_11 e_12 => ?_)
          have hv4 : τ_11 67 3 = σ 67 3 := by rw [e_12, zs_put_ne (by decide), hv3]
          refine zr_aload_n (pc := 79) C dX11_defect_79 0 rfl ?_
          refine zr_dup (pc := 80) C dX11_defect_80 rfl ?_
          refine zr_get (v := zv_i (τ_11 67 3)) (pc := 81) C 3 none dX11_defect_81 fX11_91 (by decide) (hs_67 _) rfl rfl ?_
          refine zr_iconst (pc := 84) C dX11_defect_84 ?_
          refine zr_iadd (pc := 85) C dX11_defect_85 ?_
          refine zr_put (pc := 86) C 3 3 rfl dX11_defect_86 pX11_91 (by decide) (hs_67 _) rfl (fun τ_13 e_14 => ?_)
          refine zr_iconst (pc := 89) C dX11_defect_89 ?_
          exact zr_zret (pc := 90) C hr dX11_defect_90 rfl (by decide) (⟨zq_1 (by omega), zy_y (by omega) (by
                    refine ⟨?_, ?_, ?_, ?_, ?_, ?_, ?_, ?_, ?_, ?_⟩
                    · rw [e_14, zs_put_self, hv4]
                    · rw [e_14, zs_put_off (by decide), e_12, zs_put_ne (by decide), e_10, zs_put_ne (by decide), e_8, zs_put_ne (by decide), e_2, zs_put_off (by decide)]
                    · rw [e_14, zs_put_ne (by decide), e_12, zs_put_ne (by decide), e_10, zs_put_ne (by decide), e_8, hv1, zs_put_self]
                    · rw [e_14, zs_put_ne (by decide), e_12, zs_put_ne (by decide), e_10, hv2, zs_put_self]
                    · rw [e_14, zs_put_ne (by decide), e_12, hv3, zs_put_self]
                    · intro y hy
                      rw [e_14, zs_put_ne (by decide), e_12, zs_put_ne (by decide), e_10, zs_put_ne (by decide), e_8, hv1, zs_put_off hy, e_2, zs_put_ne (by decide)]
                    · intro y hy
                      rw [e_14, zs_put_ne (by decide), e_12, zs_put_ne (by decide), e_10, hv2, zs_put_off hy, e_8, zs_put_ne (by decide), e_2, zs_put_ne (by decide)]
                    · intro y hy
                      rw [e_14, zs_put_ne (by decide), e_12, hv3, zs_put_off hy, e_10, zs_put_ne (by decide), e_8, zs_put_ne (by decide), e_2, zs_put_ne (by decide)]
                    · exact zf_p (zf_p (zf_p (zf_p (zf_p (zf_r σ _) e_2 (by decide)) e_8 (by decide)) e_10 (by decide)) e_12 (by decide)) e_14 (by decide)
                    · intro y h0 h3
                      rw [e_14, zs_put_off h3, e_12, zs_put_ne (by decide), e_10, zs_put_ne (by decide), e_8, zs_put_ne (by decide), e_2, zs_put_off h0])⟩)
        · refine zr_iconst (pc := 47) C dX11_defect_47 ?_
          exact zr_zret (pc := 48) C hr dX11_defect_48 rfl (by decide) (⟨zq_0 (by omega), zy_n (by omega) e_2⟩)


set_option maxRecDepth 20000 in
set_option maxHeartbeats 4000000 in
theorem lc_diam {g : zg_G} {k : zk_T} (C : zk_ok g mL_law k) (n : Int) (hg : (g.2.2.2 : Int) = n) (bb Ls : Nat) (xs : Nat → Int32) (i : Int) (hi : 1 ≤ i ∧ i + 5 ≤ Ls) (hL : Ls ≤ 2561) (hk : lw_k bb Ls xs i k) (b q u p : Nat) (σ : zs_S) (hR : rl_R σ n b q u p) (hex : lw_N g n bb Ls xs i)  : zw_W g mL_law k 144 [(0, .ref bb), (1, .ref (g.2.2.1 0)), (2, .ref (g.2.2.1 67)), (3, .ref (g.2.2.1 90)), (4, zv_i i)] [] σ := by
  obtain ⟨hA, hS, h23, hLo, ⟨⟨gb, gq, gqb, g4, g5⟩, gp, gu, gup, g6, g7⟩, h20, hPt, hJ⟩ := id hR
  obtain ⟨a1, a2, a3, a4, a5, a6, a7, a8⟩ := id hA
  obtain ⟨s1, s2, s3, s4⟩ := id hS
  refine zr_aload_n (pc := 144) C dL_law_144 1 rfl ?_
  refine zr_aload_n (pc := 145) C dL_law_145 0 rfl ?_
  refine zr_iload (pc := 146) C dL_law_146 4 rfl ?_
  refine zr_iconst (pc := 148) C dL_law_148 ?_
  refine zr_iadd (pc := 149) C dL_law_149 ?_
  refine zr_sld (pc := 150) C hk dL_law_150 (by omega) hL ?_
  refine zr_aload_n (pc := 151) C dL_law_151 0 rfl ?_
  refine zr_iload (pc := 152) C dL_law_152 4 rfl ?_
  refine zr_iconst (pc := 154) C dL_law_154 ?_
  refine zr_iadd (pc := 155) C dL_law_155 ?_
  refine zr_sld (pc := 156) C hk dL_law_156 (by omega) hL ?_
  refine zr_callV (As := [zv_i (sx xs (i + 1)), zv_i (sx xs (i + 2))]) (rest := []) (b := 0) (pc := 157) C dL_law_157 kX10_diameter vL_34 rfl (by decide) (by decide) (hs_0 _) rfl (Nat.le_of_ble_eq_true rfl) (s_diameter g σ (sx xs (i + 1)) (sx xs (i + 2)) (sx_r _ _) (sx_r _ _) n hg a1) (fun v_ τ_ h_ => ?_)
  obtain ⟨rfl, hy1⟩ := h_
  generalize τ_ = τ1 at hy1 ⊢
  have f1 : zf_x σ τ1 [3] := zy_x hy1 (fun e => zf_p (zf_r _ _) e (by decide))
  show zw_W g mL_law k 160 [(0, .ref bb), (1, .ref (g.2.2.1 0)), (2, .ref (g.2.2.1 67)), (3, .ref (g.2.2.1 90)), (4, zv_i i)] [zv_i (zi_b ((0 ≤ (sx xs (i + 1)) ∧ (sx xs (i + 1)) ≤ n) ∧ 50 ≤ (sx xs (i + 2)) ∧ (sx xs (i + 2)) ≤ 900))] τ1
  refine zr_aload_n (pc := 160) C dL_law_160 2 rfl ?_
  refine zr_aload_n (pc := 161) C dL_law_161 0 rfl ?_
  refine zr_iload (pc := 162) C dL_law_162 4 rfl ?_
  refine zr_iconst (pc := 164) C dL_law_164 ?_
  refine zr_iadd (pc := 165) C dL_law_165 ?_
  refine zr_sld (pc := 166) C hk dL_law_166 (by omega) hL ?_
  refine zr_aload_n (pc := 167) C dL_law_167 0 rfl ?_
  refine zr_iload (pc := 168) C dL_law_168 4 rfl ?_
  refine zr_iconst (pc := 170) C dL_law_170 ?_
  refine zr_iadd (pc := 171) C dL_law_171 ?_
  refine zr_sld (pc := 172) C hk dL_law_172 (by omega) hL ?_
  refine zr_callV (As := [zv_i (sx xs (i + 1)), zv_i (sx xs (i + 2))]) (rest := [zv_i (zi_b ((0 ≤ (sx xs (i + 1)) ∧ (sx xs (i + 1)) ≤ n) ∧ 50 ≤ (sx xs (i + 2)) ∧ (sx xs (i + 2)) ≤ 900))]) (b := 67) (pc := 173) C dL_law_173 kX11_diameter vL_38 rfl (by decide) (by decide) (hs_67 _) rfl (Nat.le_of_ble_eq_true rfl) (n_diameter g τ1 (sx xs (i + 1)) (sx xs (i + 2)) (sx_r _ _) (sx_r _ _) n (by rw [f1 67 (by decide)]; exact a3) ⟨a1.1, a1.2.1⟩) (fun v_ τ_ h_ => ?_)
  obtain ⟨rfl, hy2⟩ := h_
  generalize τ_ = τ2 at hy2 ⊢
  show zw_W g mL_law k 176 [(0, .ref bb), (1, .ref (g.2.2.1 0)), (2, .ref (g.2.2.1 67)), (3, .ref (g.2.2.1 90)), (4, zv_i i)] [zv_i (zi_b ((0 ≤ (sx xs (i + 1)) ∧ (sx xs (i + 1)) ≤ n) ∧ 50 ≤ (sx xs (i + 2)) ∧ (sx xs (i + 2)) ≤ 900)), zv_i (zi_b ((0 ≤ (sx xs (i + 1)) ∧ (sx xs (i + 1)) ≤ n) ∧ 50 ≤ (sx xs (i + 2)) ∧ (sx xs (i + 2)) ≤ 900))] τ2
  refine zr_same (pc := 176) C 961 dL_law_176 (by decide) (rfl) ?_
  refine hex k τ2 b q u p C (lw_km hk (by omega)) ?_
  by_cases hC : (0 ≤ (sx xs (i + 1)) ∧ (sx xs (i + 1)) ≤ n) ∧ 50 ≤ (sx xs (i + 2)) ∧ (sx xs (i + 2)) ≤ 900
  · have y1 := hy1.2 hC
    have y2 := hy2.2 hC
    exact rl_diam hR hC (fun j => by rw [y2, zs_put_ne (by decide), zs_put_ne (by decide), y1, zs_put_at]) (fun j => by rw [y2, zs_put_at, zs_put_ne (by decide), y1, zs_put_ne (by decide)]) (fun c c1 c2 c3 j => by rw [y2, zs_put_ne c2, zs_put_ne c3, y1, zs_put_ne c1]) (fun y h => by rw [y2, zs_put_ne (by decide), zs_put_off h, y1, zs_put_ne (by decide)])
  · obtain rfl := hy1.1 hC
    rw [hy2.1 hC]
    exact rl_0 hR 0

set_option maxRecDepth 20000 in
set_option maxHeartbeats 4000000 in
theorem lc_def {g : zg_G} {k : zk_T} (C : zk_ok g mL_law k) (n : Int) (hg : (g.2.2.2 : Int) = n) (bb Ls : Nat) (xs : Nat → Int32) (i : Int) (hi : 1 ≤ i ∧ i + 5 ≤ Ls) (hL : Ls ≤ 2561) (hk : lw_k bb Ls xs i k) (b q u p : Nat) (σ : zs_S) (hR : rl_R σ n b q u p) (hex : lw_N g n bb Ls xs i)  : zw_W g mL_law k 181 [(0, .ref bb), (1, .ref (g.2.2.1 0)), (2, .ref (g.2.2.1 67)), (3, .ref (g.2.2.1 90)), (4, zv_i i)] [] σ := by
  obtain ⟨hA, hS, h23, hLo, ⟨⟨gb, gq, gqb, g4, g5⟩, gp, gu, gup, g6, g7⟩, h20, hPt, hJ⟩ := id hR
  obtain ⟨a1, a2, a3, a4, a5, a6, a7, a8⟩ := id hA
  obtain ⟨s1, s2, s3, s4⟩ := id hS
  refine zr_aload_n (pc := 181) C dL_law_181 1 rfl ?_
  refine zr_aload_n (pc := 182) C dL_law_182 0 rfl ?_
  refine zr_iload (pc := 183) C dL_law_183 4 rfl ?_
  refine zr_iconst (pc := 185) C dL_law_185 ?_
  refine zr_iadd (pc := 186) C dL_law_186 ?_
  refine zr_sld (pc := 187) C hk dL_law_187 (by omega) hL ?_
  refine zr_aload_n (pc := 188) C dL_law_188 0 rfl ?_
  refine zr_iload (pc := 189) C dL_law_189 4 rfl ?_
  refine zr_iconst (pc := 191) C dL_law_191 ?_
  refine zr_iadd (pc := 192) C dL_law_192 ?_
  refine zr_sld (pc := 193) C hk dL_law_193 (by omega) hL ?_
  refine zr_aload_n (pc := 194) C dL_law_194 0 rfl ?_
  refine zr_iload (pc := 195) C dL_law_195 4 rfl ?_
  refine zr_iconst (pc := 197) C dL_law_197 ?_
  refine zr_iadd (pc := 198) C dL_law_198 ?_
  refine zr_sld (pc := 199) C hk dL_law_199 (by omega) hL ?_
  refine zr_callV (As := [zv_i (sx xs (i + 1)), zv_i (sx xs (i + 2)), zv_i (sx xs (i + 3))]) (rest := []) (b := 0) (pc := 200) C dL_law_200 kX10_defect vL_39 rfl (by decide) (by decide) (hs_0 _) rfl (Nat.le_of_ble_eq_true rfl) (s_defect g σ (sx xs (i + 1)) (sx xs (i + 2)) (sx xs (i + 3)) (sx_r _ _) (sx_r _ _) (sx_r _ _) n hg a1 (by omega)) (fun v_ τ_ h_ => ?_)
  obtain ⟨rfl, hy1⟩ := h_
  generalize τ_ = τ1 at hy1 ⊢
  have f1 : zf_x σ τ1 [2, 4] := zy_x hy1 (fun e => e.2.2.2)
  have e67 : τ1 67 3 = σ 67 3 := f1 67 (by decide) 3
  have e68 : τ1 67 3 = σ 2 3 := by rw [e67, h23]
  show zw_W g mL_law k 203 [(0, .ref bb), (1, .ref (g.2.2.1 0)), (2, .ref (g.2.2.1 67)), (3, .ref (g.2.2.1 90)), (4, zv_i i)] [zv_i (zi_b (((0 ≤ (sx xs (i + 2)) ∧ (sx xs (i + 2)) ≤ n) ∧ (0 ≤ (sx xs (i + 1)) ∧ (sx xs (i + 1)) ≤ (sx xs (i + 2))) ∧ (2 ≤ (sx xs (i + 3)) ∧ (sx xs (i + 3)) ≤ 3)) ∧ σ 2 3 < 20))] τ1
  refine zr_aload_n (pc := 203) C dL_law_203 2 rfl ?_
  refine zr_aload_n (pc := 204) C dL_law_204 0 rfl ?_
  refine zr_iload (pc := 205) C dL_law_205 4 rfl ?_
  refine zr_iconst (pc := 207) C dL_law_207 ?_
  refine zr_iadd (pc := 208) C dL_law_208 ?_
  refine zr_sld (pc := 209) C hk dL_law_209 (by omega) hL ?_
  refine zr_aload_n (pc := 210) C dL_law_210 0 rfl ?_
  refine zr_iload (pc := 211) C dL_law_211 4 rfl ?_
  refine zr_iconst (pc := 213) C dL_law_213 ?_
  refine zr_iadd (pc := 214) C dL_law_214 ?_
  refine zr_sld (pc := 215) C hk dL_law_215 (by omega) hL ?_
  refine zr_aload_n (pc := 216) C dL_law_216 0 rfl ?_
  refine zr_iload (pc := 217) C dL_law_217 4 rfl ?_
  refine zr_iconst (pc := 219) C dL_law_219 ?_
  refine zr_iadd (pc := 220) C dL_law_220 ?_
  refine zr_sld (pc := 221) C hk dL_law_221 (by omega) hL ?_
  refine zr_callV (As := [zv_i (sx xs (i + 1)), zv_i (sx xs (i + 2)), zv_i (sx xs (i + 3))]) (rest := [zv_i (zi_b (((0 ≤ (sx xs (i + 2)) ∧ (sx xs (i + 2)) ≤ n) ∧ (0 ≤ (sx xs (i + 1)) ∧ (sx xs (i + 1)) ≤ (sx xs (i + 2))) ∧ (2 ≤ (sx xs (i + 3)) ∧ (sx xs (i + 3)) ≤ 3)) ∧ σ 2 3 < 20))]) (b := 67) (pc := 222) C dL_law_222 kX11_defect vL_43 rfl (by decide) (by decide) (hs_67 _) rfl (Nat.le_of_ble_eq_true rfl) (n_defect2 g τ1 (sx xs (i + 1)) (sx xs (i + 2)) (sx xs (i + 3)) (sx_r _ _) (sx_r _ _) (sx_r _ _) n (by rw [f1 67 (by decide)]; exact a3) ⟨a1.1, a1.2.1⟩ (by rw [e67]; exact a6)) (fun v_ τ_ h_ => ?_)
  obtain ⟨rfl, hy2⟩ := h_
  generalize τ_ = τ2 at hy2 ⊢
  show zw_W g mL_law k 225 [(0, .ref bb), (1, .ref (g.2.2.1 0)), (2, .ref (g.2.2.1 67)), (3, .ref (g.2.2.1 90)), (4, zv_i i)] [zv_i (zi_b (((0 ≤ (sx xs (i + 2)) ∧ (sx xs (i + 2)) ≤ n) ∧ (0 ≤ (sx xs (i + 1)) ∧ (sx xs (i + 1)) ≤ (sx xs (i + 2))) ∧ (2 ≤ (sx xs (i + 3)) ∧ (sx xs (i + 3)) ≤ 3)) ∧ τ1 67 3 < 20)), zv_i (zi_b (((0 ≤ (sx xs (i + 2)) ∧ (sx xs (i + 2)) ≤ n) ∧ (0 ≤ (sx xs (i + 1)) ∧ (sx xs (i + 1)) ≤ (sx xs (i + 2))) ∧ (2 ≤ (sx xs (i + 3)) ∧ (sx xs (i + 3)) ≤ 3)) ∧ σ 2 3 < 20))] τ2
  refine zr_same (pc := 225) C 961 dL_law_225 (by decide) (zi_bb (by rw [e68])) ?_
  refine hex k τ2 b q u p C (lw_km hk (by omega)) ?_
  by_cases hC : ((0 ≤ (sx xs (i + 2)) ∧ (sx xs (i + 2)) ≤ n) ∧ (0 ≤ (sx xs (i + 1)) ∧ (sx xs (i + 1)) ≤ (sx xs (i + 2))) ∧ (2 ≤ (sx xs (i + 3)) ∧ (sx xs (i + 3)) ≤ 3)) ∧ σ 2 3 < 20
  · obtain ⟨x1, x2, x3, x4⟩ := hy1.2 hC
    obtain ⟨y1, y2, y3, y4, y5, y6, y7, y8, y9, y10⟩ := hy2.2 (by rw [e68]; exact hC)
    rw [e67] at y1 y3 y4 y5 y6 y7 y8
    exact rl_def hR hC (by rw [y9 2 (by decide)]; exact x1) (by rw [y9 2 (by decide)]; exact x2) (fun j => by rw [y9 4 (by decide)]; exact x3 j) y1 ⟨y3, y4, y5⟩ (fun y h => ⟨by rw [y6 y h, x4 69 (by decide)], by rw [y7 y h, x4 70 (by decide)], by rw [y8 y h, x4 71 (by decide)]⟩) (fun c c1 c2 c3 c4 c5 c6 j => by rw [y9 c (by simp only [List.mem_cons, List.not_mem_nil, or_false]; omega), x4 c (by simp only [List.mem_cons, List.not_mem_nil, or_false]; omega)]) (fun y h h3 => by rw [y10 y h h3, x4 67 (by decide)])
  · obtain rfl := hy1.1 hC
    rw [hy2.1 (by rw [e68]; exact hC)]
    exact rl_0 hR 0

set_option maxRecDepth 20000 in
set_option maxHeartbeats 4000000 in
theorem lc_kind {g : zg_G} {k : zk_T} (C : zk_ok g mL_law k) (n : Int) (hg : (g.2.2.2 : Int) = n) (bb Ls : Nat) (xs : Nat → Int32) (i : Int) (hi : 1 ≤ i ∧ i + 5 ≤ Ls) (hL : Ls ≤ 2561) (hk : lw_k bb Ls xs i k) (b q u p : Nat) (σ : zs_S) (hR : rl_R σ n b q u p) (hex : lw_N g n bb Ls xs i)  : zw_W g mL_law k 230 [(0, .ref bb), (1, .ref (g.2.2.1 0)), (2, .ref (g.2.2.1 67)), (3, .ref (g.2.2.1 90)), (4, zv_i i)] [] σ := by
  obtain ⟨hA, hS, h23, hLo, ⟨⟨gb, gq, gqb, g4, g5⟩, gp, gu, gup, g6, g7⟩, h20, hPt, hJ⟩ := id hR
  obtain ⟨a1, a2, a3, a4, a5, a6, a7, a8⟩ := id hA
  obtain ⟨s1, s2, s3, s4⟩ := id hS
  refine zr_aload_n (pc := 230) C dL_law_230 1 rfl ?_
  refine zr_aload_n (pc := 231) C dL_law_231 0 rfl ?_
  refine zr_iload (pc := 232) C dL_law_232 4 rfl ?_
  refine zr_iconst (pc := 234) C dL_law_234 ?_
  refine zr_iadd (pc := 235) C dL_law_235 ?_
  refine zr_sld (pc := 236) C hk dL_law_236 (by omega) hL ?_
  refine zr_aload_n (pc := 237) C dL_law_237 0 rfl ?_
  refine zr_iload (pc := 238) C dL_law_238 4 rfl ?_
  refine zr_iconst (pc := 240) C dL_law_240 ?_
  refine zr_iadd (pc := 241) C dL_law_241 ?_
  refine zr_sld (pc := 242) C hk dL_law_242 (by omega) hL ?_
  refine zr_aload_n (pc := 243) C dL_law_243 0 rfl ?_
  refine zr_iload (pc := 244) C dL_law_244 4 rfl ?_
  refine zr_iconst (pc := 246) C dL_law_246 ?_
  refine zr_iadd (pc := 247) C dL_law_247 ?_
  refine zr_sld (pc := 248) C hk dL_law_248 (by omega) hL ?_
  refine zr_callV (As := [zv_i (sx xs (i + 1)), zv_i (sx xs (i + 2)), zv_i (sx xs (i + 3))]) (rest := []) (b := 0) (pc := 249) C dL_law_249 kX10_logKind vL_44 rfl (by decide) (by decide) (hs_0 _) rfl (Nat.le_of_ble_eq_true rfl) (s_logKind g σ (sx xs (i + 1)) (sx xs (i + 2)) (sx xs (i + 3)) (sx_r _ _) (sx_r _ _) (sx_r _ _)) (fun v_ τ_ h_ => ?_)
  obtain ⟨rfl, hy1⟩ := h_
  generalize τ_ = τ1 at hy1 ⊢
  
  show zw_W g mL_law k 252 [(0, .ref bb), (1, .ref (g.2.2.1 0)), (2, .ref (g.2.2.1 67)), (3, .ref (g.2.2.1 90)), (4, zv_i i)] [zv_i (zi_b ((0 ≤ (sx xs (i + 1)) ∧ (sx xs (i + 1)) ≤ 5) ∧ (1 ≤ (sx xs (i + 2)) ∧ (sx xs (i + 2)) ≤ 60) ∧ (0 ≤ (sx xs (i + 3)) ∧ (sx xs (i + 3)) ≤ 900)))] τ1
  refine zr_aload_n (pc := 252) C dL_law_252 2 rfl ?_
  refine zr_aload_n (pc := 253) C dL_law_253 0 rfl ?_
  refine zr_iload (pc := 254) C dL_law_254 4 rfl ?_
  refine zr_iconst (pc := 256) C dL_law_256 ?_
  refine zr_iadd (pc := 257) C dL_law_257 ?_
  refine zr_sld (pc := 258) C hk dL_law_258 (by omega) hL ?_
  refine zr_aload_n (pc := 259) C dL_law_259 0 rfl ?_
  refine zr_iload (pc := 260) C dL_law_260 4 rfl ?_
  refine zr_iconst (pc := 262) C dL_law_262 ?_
  refine zr_iadd (pc := 263) C dL_law_263 ?_
  refine zr_sld (pc := 264) C hk dL_law_264 (by omega) hL ?_
  refine zr_aload_n (pc := 265) C dL_law_265 0 rfl ?_
  refine zr_iload (pc := 266) C dL_law_266 4 rfl ?_
  refine zr_iconst (pc := 268) C dL_law_268 ?_
  refine zr_iadd (pc := 269) C dL_law_269 ?_
  refine zr_sld (pc := 270) C hk dL_law_270 (by omega) hL ?_
  refine zr_callV (As := [zv_i (sx xs (i + 1)), zv_i (sx xs (i + 2)), zv_i (sx xs (i + 3))]) (rest := [zv_i (zi_b ((0 ≤ (sx xs (i + 1)) ∧ (sx xs (i + 1)) ≤ 5) ∧ (1 ≤ (sx xs (i + 2)) ∧ (sx xs (i + 2)) ≤ 60) ∧ (0 ≤ (sx xs (i + 3)) ∧ (sx xs (i + 3)) ≤ 900)))]) (b := 67) (pc := 271) C dL_law_271 kX11_logKind vL_47 rfl (by decide) (by decide) (hs_67 _) rfl (Nat.le_of_ble_eq_true rfl) (n_logKind g τ1 (sx xs (i + 1)) (sx xs (i + 2)) (sx xs (i + 3)) (sx_r _ _) (sx_r _ _) (sx_r _ _)) (fun v_ τ_ h_ => ?_)
  obtain ⟨rfl, hy2⟩ := h_
  generalize τ_ = τ2 at hy2 ⊢
  show zw_W g mL_law k 274 [(0, .ref bb), (1, .ref (g.2.2.1 0)), (2, .ref (g.2.2.1 67)), (3, .ref (g.2.2.1 90)), (4, zv_i i)] [zv_i (zi_b ((0 ≤ (sx xs (i + 1)) ∧ (sx xs (i + 1)) ≤ 5) ∧ (1 ≤ (sx xs (i + 2)) ∧ (sx xs (i + 2)) ≤ 60) ∧ (0 ≤ (sx xs (i + 3)) ∧ (sx xs (i + 3)) ≤ 900))), zv_i (zi_b ((0 ≤ (sx xs (i + 1)) ∧ (sx xs (i + 1)) ≤ 5) ∧ (1 ≤ (sx xs (i + 2)) ∧ (sx xs (i + 2)) ≤ 60) ∧ (0 ≤ (sx xs (i + 3)) ∧ (sx xs (i + 3)) ≤ 900)))] τ2
  refine zr_same (pc := 274) C 961 dL_law_274 (by decide) (rfl) ?_
  refine hex k τ2 b q u p C (lw_km hk (by omega)) ?_
  by_cases hC : (0 ≤ (sx xs (i + 1)) ∧ (sx xs (i + 1)) ≤ 5) ∧ (1 ≤ (sx xs (i + 2)) ∧ (sx xs (i + 2)) ≤ 60) ∧ (0 ≤ (sx xs (i + 3)) ∧ (sx xs (i + 3)) ≤ 900)
  · obtain ⟨x1, x2, x3, x4⟩ := hy1.2 hC
    obtain ⟨y1, y2, y3, y4, y5, y6, y7, y8, y9⟩ := hy2.2 hC
    exact rl_kind hR hC (by rw [y9 _ (by simp only [List.mem_cons, List.not_mem_nil, or_false]; omega)]; exact x1) (by rw [y9 _ (by simp only [List.mem_cons, List.not_mem_nil, or_false]; omega)]; exact x2) (fun j j1 j2 => by rw [y9 _ (by simp only [List.mem_cons, List.not_mem_nil, or_false]; omega)]; exact x3 j j1 j2) ⟨y1, y2⟩ (fun y h => ⟨by rw [y3 y h, x4 72 (by simp only [List.mem_cons, List.not_mem_nil, or_false]; omega)], by rw [y4 y h, x4 73 (by simp only [List.mem_cons, List.not_mem_nil, or_false]; omega)]⟩) (fun y => by rw [y5 y, x4 74 (by simp only [List.mem_cons, List.not_mem_nil, or_false]; omega)]) (fun c c1 c2 c3 c4 c5 c6 j => by rw [y9 c (by simp only [List.mem_cons, List.not_mem_nil, or_false]; omega), x4 c (by simp only [List.mem_cons, List.not_mem_nil, or_false]; omega)]) (fun y h => by rw [y8 y h, x4 67 (by simp only [List.mem_cons, List.not_mem_nil, or_false]; omega)])
  · obtain rfl := hy1.1 hC
    rw [hy2.1 hC]
    exact rl_0 hR 0

set_option maxRecDepth 20000 in
set_option maxHeartbeats 4000000 in
theorem lc_size {g : zg_G} {k : zk_T} (C : zk_ok g mL_law k) (n : Int) (hg : (g.2.2.2 : Int) = n) (bb Ls : Nat) (xs : Nat → Int32) (i : Int) (hi : 1 ≤ i ∧ i + 5 ≤ Ls) (hL : Ls ≤ 2561) (hk : lw_k bb Ls xs i k) (b q u p : Nat) (σ : zs_S) (hR : rl_R σ n b q u p) (hex : lw_N g n bb Ls xs i)  : zw_W g mL_law k 491 [(0, .ref bb), (1, .ref (g.2.2.1 0)), (2, .ref (g.2.2.1 67)), (3, .ref (g.2.2.1 90)), (4, zv_i i)] [] σ := by
  obtain ⟨hA, hS, h23, hLo, ⟨⟨gb, gq, gqb, g4, g5⟩, gp, gu, gup, g6, g7⟩, h20, hPt, hJ⟩ := id hR
  obtain ⟨a1, a2, a3, a4, a5, a6, a7, a8⟩ := id hA
  obtain ⟨s1, s2, s3, s4⟩ := id hS
  refine zr_aload_n (pc := 491) C dL_law_491 1 rfl ?_
  refine zr_aload_n (pc := 492) C dL_law_492 0 rfl ?_
  refine zr_iload (pc := 493) C dL_law_493 4 rfl ?_
  refine zr_iconst (pc := 495) C dL_law_495 ?_
  refine zr_iadd (pc := 496) C dL_law_496 ?_
  refine zr_sld (pc := 497) C hk dL_law_497 (by omega) hL ?_
  refine zr_aload_n (pc := 498) C dL_law_498 0 rfl ?_
  refine zr_iload (pc := 499) C dL_law_499 4 rfl ?_
  refine zr_iconst (pc := 501) C dL_law_501 ?_
  refine zr_iadd (pc := 502) C dL_law_502 ?_
  refine zr_sld (pc := 503) C hk dL_law_503 (by omega) hL ?_
  refine zr_aload_n (pc := 504) C dL_law_504 0 rfl ?_
  refine zr_iload (pc := 505) C dL_law_505 4 rfl ?_
  refine zr_iconst (pc := 507) C dL_law_507 ?_
  refine zr_iadd (pc := 508) C dL_law_508 ?_
  refine zr_sld (pc := 509) C hk dL_law_509 (by omega) hL ?_
  refine zr_callV (As := [zv_i (sx xs (i + 1)), zv_i (sx xs (i + 2)), zv_i (sx xs (i + 3))]) (rest := []) (b := 0) (pc := 510) C dL_law_510 kX10_size vL_76 rfl (by decide) (by decide) (hs_0 _) rfl (Nat.le_of_ble_eq_true rfl) (s_size g σ (sx xs (i + 1)) (sx xs (i + 2)) (sx xs (i + 3)) (sx_r _ _) (sx_r _ _) (sx_r _ _)) (fun v_ τ_ h_ => ?_)
  obtain ⟨rfl, hy1⟩ := h_
  generalize τ_ = τ1 at hy1 ⊢
  
  show zw_W g mL_law k 513 [(0, .ref bb), (1, .ref (g.2.2.1 0)), (2, .ref (g.2.2.1 67)), (3, .ref (g.2.2.1 90)), (4, zv_i i)] [zv_i (zi_b (((0 ≤ (sx xs (i + 1)) ∧ (sx xs (i + 1)) ≤ 5) ∧ (50 ≤ (sx xs (i + 2)) ∧ (sx xs (i + 2)) ≤ 4000)) ∧ (50 ≤ (sx xs (i + 3)) ∧ (sx xs (i + 3)) ≤ 4000)))] τ1
  refine zr_aload_n (pc := 513) C dL_law_513 2 rfl ?_
  refine zr_aload_n (pc := 514) C dL_law_514 0 rfl ?_
  refine zr_iload (pc := 515) C dL_law_515 4 rfl ?_
  refine zr_iconst (pc := 517) C dL_law_517 ?_
  refine zr_iadd (pc := 518) C dL_law_518 ?_
  refine zr_sld (pc := 519) C hk dL_law_519 (by omega) hL ?_
  refine zr_aload_n (pc := 520) C dL_law_520 0 rfl ?_
  refine zr_iload (pc := 521) C dL_law_521 4 rfl ?_
  refine zr_iconst (pc := 523) C dL_law_523 ?_
  refine zr_iadd (pc := 524) C dL_law_524 ?_
  refine zr_sld (pc := 525) C hk dL_law_525 (by omega) hL ?_
  refine zr_aload_n (pc := 526) C dL_law_526 0 rfl ?_
  refine zr_iload (pc := 527) C dL_law_527 4 rfl ?_
  refine zr_iconst (pc := 529) C dL_law_529 ?_
  refine zr_iadd (pc := 530) C dL_law_530 ?_
  refine zr_sld (pc := 531) C hk dL_law_531 (by omega) hL ?_
  refine zr_callV (As := [zv_i (sx xs (i + 1)), zv_i (sx xs (i + 2)), zv_i (sx xs (i + 3))]) (rest := [zv_i (zi_b (((0 ≤ (sx xs (i + 1)) ∧ (sx xs (i + 1)) ≤ 5) ∧ (50 ≤ (sx xs (i + 2)) ∧ (sx xs (i + 2)) ≤ 4000)) ∧ (50 ≤ (sx xs (i + 3)) ∧ (sx xs (i + 3)) ≤ 4000)))]) (b := 67) (pc := 532) C dL_law_532 kX11_size vL_79 rfl (by decide) (by decide) (hs_67 _) rfl (Nat.le_of_ble_eq_true rfl) (n_size g τ1 (sx xs (i + 1)) (sx xs (i + 2)) (sx xs (i + 3)) (sx_r _ _) (sx_r _ _) (sx_r _ _)) (fun v_ τ_ h_ => ?_)
  obtain ⟨rfl, hy2⟩ := h_
  generalize τ_ = τ2 at hy2 ⊢
  show zw_W g mL_law k 535 [(0, .ref bb), (1, .ref (g.2.2.1 0)), (2, .ref (g.2.2.1 67)), (3, .ref (g.2.2.1 90)), (4, zv_i i)] [zv_i (zi_b (((0 ≤ (sx xs (i + 1)) ∧ (sx xs (i + 1)) ≤ 5) ∧ (50 ≤ (sx xs (i + 2)) ∧ (sx xs (i + 2)) ≤ 4000)) ∧ (50 ≤ (sx xs (i + 3)) ∧ (sx xs (i + 3)) ≤ 4000))), zv_i (zi_b (((0 ≤ (sx xs (i + 1)) ∧ (sx xs (i + 1)) ≤ 5) ∧ (50 ≤ (sx xs (i + 2)) ∧ (sx xs (i + 2)) ≤ 4000)) ∧ (50 ≤ (sx xs (i + 3)) ∧ (sx xs (i + 3)) ≤ 4000)))] τ2
  refine zr_same (pc := 535) C 961 dL_law_535 (by decide) (rfl) ?_
  refine hex k τ2 b q u p C (lw_km hk (by omega)) ?_
  by_cases hC : ((0 ≤ (sx xs (i + 1)) ∧ (sx xs (i + 1)) ≤ 5) ∧ (50 ≤ (sx xs (i + 2)) ∧ (sx xs (i + 2)) ≤ 4000)) ∧ (50 ≤ (sx xs (i + 3)) ∧ (sx xs (i + 3)) ≤ 4000)
  · obtain ⟨x1, x2, x3, x4⟩ := hy1.2 hC
    obtain ⟨y1, y2, y3, y4, y5, y6, y7, y8, y9⟩ := hy2.2 hC
    exact rl_size hR hC (by rw [y9 _ (by simp only [List.mem_cons, List.not_mem_nil, or_false]; omega)]; exact x1) (by rw [y9 _ (by simp only [List.mem_cons, List.not_mem_nil, or_false]; omega)]; exact x2) (fun j j1 j2 => by rw [y9 _ (by simp only [List.mem_cons, List.not_mem_nil, or_false]; omega)]; exact x3 j j1 j2) ⟨y1, y2⟩ (fun y h => ⟨by rw [y3 y h, x4 76 (by simp only [List.mem_cons, List.not_mem_nil, or_false]; omega)], by rw [y4 y h, x4 77 (by simp only [List.mem_cons, List.not_mem_nil, or_false]; omega)]⟩) (fun y => by rw [y5 y, x4 78 (by simp only [List.mem_cons, List.not_mem_nil, or_false]; omega)]) (fun c c1 c2 c3 c4 c5 c6 j => by rw [y9 c (by simp only [List.mem_cons, List.not_mem_nil, or_false]; omega), x4 c (by simp only [List.mem_cons, List.not_mem_nil, or_false]; omega)]) (fun y h => by rw [y8 y h, x4 67 (by simp only [List.mem_cons, List.not_mem_nil, or_false]; omega)])
  · obtain rfl := hy1.1 hC
    rw [hy2.1 hC]
    exact rl_0 hR 0

set_option maxRecDepth 20000 in
set_option maxHeartbeats 4000000 in
theorem lc_price {g : zg_G} {k : zk_T} (C : zk_ok g mL_law k) (n : Int) (hg : (g.2.2.2 : Int) = n) (bb Ls : Nat) (xs : Nat → Int32) (i : Int) (hi : 1 ≤ i ∧ i + 5 ≤ Ls) (hL : Ls ≤ 2561) (hk : lw_k bb Ls xs i k) (b q u p : Nat) (σ : zs_S) (hR : rl_R σ n b q u p) (hex : lw_N g n bb Ls xs i)  : zw_W g mL_law k 279 [(0, .ref bb), (1, .ref (g.2.2.1 0)), (2, .ref (g.2.2.1 67)), (3, .ref (g.2.2.1 90)), (4, zv_i i)] [] σ := by
  obtain ⟨hA, hS, h23, hLo, ⟨⟨gb, gq, gqb, g4, g5⟩, gp, gu, gup, g6, g7⟩, h20, hPt, hJ⟩ := id hR
  obtain ⟨a1, a2, a3, a4, a5, a6, a7, a8⟩ := id hA
  obtain ⟨s1, s2, s3, s4⟩ := id hS
  refine zr_aload_n (pc := 279) C dL_law_279 1 rfl ?_
  refine zr_aload_n (pc := 280) C dL_law_280 0 rfl ?_
  refine zr_iload (pc := 281) C dL_law_281 4 rfl ?_
  refine zr_iconst (pc := 283) C dL_law_283 ?_
  refine zr_iadd (pc := 284) C dL_law_284 ?_
  refine zr_sld (pc := 285) C hk dL_law_285 (by omega) hL ?_
  refine zr_aload_n (pc := 286) C dL_law_286 0 rfl ?_
  refine zr_iload (pc := 287) C dL_law_287 4 rfl ?_
  refine zr_iconst (pc := 289) C dL_law_289 ?_
  refine zr_iadd (pc := 290) C dL_law_290 ?_
  refine zr_sld (pc := 291) C hk dL_law_291 (by omega) hL ?_
  refine zr_aload_n (pc := 292) C dL_law_292 0 rfl ?_
  refine zr_iload (pc := 293) C dL_law_293 4 rfl ?_
  refine zr_iconst (pc := 295) C dL_law_295 ?_
  refine zr_iadd (pc := 296) C dL_law_296 ?_
  refine zr_sld (pc := 297) C hk dL_law_297 (by omega) hL ?_
  refine zr_aload_n (pc := 298) C dL_law_298 0 rfl ?_
  refine zr_iload (pc := 299) C dL_law_299 4 rfl ?_
  refine zr_iconst (pc := 301) C dL_law_301 ?_
  refine zr_iadd (pc := 302) C dL_law_302 ?_
  refine zr_sld (pc := 303) C hk dL_law_303 (by omega) hL ?_
  refine zr_callV (As := [zv_i (sx xs (i + 1)), zv_i (sx xs (i + 2)), zv_i (sx xs (i + 3)), zv_i (sx xs (i + 4))]) (rest := []) (b := 0) (pc := 304) C dL_law_304 kX10_priceOf vL_48 rfl (by decide) (by decide) (hs_0 _) rfl (Nat.le_of_ble_eq_true rfl) (s_priceOf g σ (sx xs (i + 1)) (sx xs (i + 2)) (sx xs (i + 3)) (sx xs (i + 4)) (sx_r _ _) (sx_r _ _) (sx_r _ _) (sx_r _ _) a2) (fun v_ τ_ h_ => ?_)
  obtain ⟨rfl, hy1⟩ := h_
  generalize τ_ = τ1 at hy1 ⊢
  have f1 : ∀ c : Nat, 67 ≤ c → ∀ j, τ1 c j = σ c j := by
    intro c0 hc0 j
    by_cases z : ((0 ≤ (sx xs (i + 1)) ∧ (sx xs (i + 1)) ≤ 5) ∧ 0 < σ (8 + 2 * (sx xs (i + 1)).toNat) 0 ∧ (0 ≤ (sx xs (i + 2)) ∧ (sx xs (i + 2)) ≤ 18)) ∧ (1 ≤ (sx xs (i + 3)) ∧ (sx xs (i + 3)) ≤ 3) ∧ (0 ≤ (sx xs (i + 4)) ∧ (sx xs (i + 4)) ≤ 1000000)
    · rw [hy1.2 z, zs_put_ne (by omega)]
    · rw [← hy1.1 z]
  have e72 : 0 ≤ (sx xs (i + 1)) ∧ (sx xs (i + 1)) ≤ 5 → τ1 72 (sx xs (i + 1)) = σ (8 + 2 * (sx xs (i + 1)).toNat) 0 := fun z => by
    rw [f1 72 (by decide)]
    exact (a5 _ z.1 (by omega)).1
  have hQ : (((0 ≤ (sx xs (i + 1)) ∧ (sx xs (i + 1)) ≤ 5) ∧ 0 < τ1 72 (sx xs (i + 1)) ∧ (0 ≤ (sx xs (i + 2)) ∧ (sx xs (i + 2)) ≤ 18)) ∧ (1 ≤ (sx xs (i + 3)) ∧ (sx xs (i + 3)) ≤ 3) ∧ (0 ≤ (sx xs (i + 4)) ∧ (sx xs (i + 4)) ≤ 1000000)) ↔ (((0 ≤ (sx xs (i + 1)) ∧ (sx xs (i + 1)) ≤ 5) ∧ 0 < σ (8 + 2 * (sx xs (i + 1)).toNat) 0 ∧ (0 ≤ (sx xs (i + 2)) ∧ (sx xs (i + 2)) ≤ 18)) ∧ (1 ≤ (sx xs (i + 3)) ∧ (sx xs (i + 3)) ≤ 3) ∧ (0 ≤ (sx xs (i + 4)) ∧ (sx xs (i + 4)) ≤ 1000000)) := ⟨fun ⟨⟨h1, h2, h3⟩, h4⟩ => ⟨⟨h1, by rw [← e72 h1]; exact h2, h3⟩, h4⟩, fun ⟨⟨h1, h2, h3⟩, h4⟩ => ⟨⟨h1, by rw [e72 h1]; exact h2, h3⟩, h4⟩⟩
  show zw_W g mL_law k 307 [(0, .ref bb), (1, .ref (g.2.2.1 0)), (2, .ref (g.2.2.1 67)), (3, .ref (g.2.2.1 90)), (4, zv_i i)] [zv_i (zi_b (((0 ≤ (sx xs (i + 1)) ∧ (sx xs (i + 1)) ≤ 5) ∧ 0 < σ (8 + 2 * (sx xs (i + 1)).toNat) 0 ∧ (0 ≤ (sx xs (i + 2)) ∧ (sx xs (i + 2)) ≤ 18)) ∧ (1 ≤ (sx xs (i + 3)) ∧ (sx xs (i + 3)) ≤ 3) ∧ (0 ≤ (sx xs (i + 4)) ∧ (sx xs (i + 4)) ≤ 1000000)))] τ1
  refine zr_aload_n (pc := 307) C dL_law_307 2 rfl ?_
  refine zr_aload_n (pc := 308) C dL_law_308 0 rfl ?_
  refine zr_iload (pc := 309) C dL_law_309 4 rfl ?_
  refine zr_iconst (pc := 311) C dL_law_311 ?_
  refine zr_iadd (pc := 312) C dL_law_312 ?_
  refine zr_sld (pc := 313) C hk dL_law_313 (by omega) hL ?_
  refine zr_aload_n (pc := 314) C dL_law_314 0 rfl ?_
  refine zr_iload (pc := 315) C dL_law_315 4 rfl ?_
  refine zr_iconst (pc := 317) C dL_law_317 ?_
  refine zr_iadd (pc := 318) C dL_law_318 ?_
  refine zr_sld (pc := 319) C hk dL_law_319 (by omega) hL ?_
  refine zr_aload_n (pc := 320) C dL_law_320 0 rfl ?_
  refine zr_iload (pc := 321) C dL_law_321 4 rfl ?_
  refine zr_iconst (pc := 323) C dL_law_323 ?_
  refine zr_iadd (pc := 324) C dL_law_324 ?_
  refine zr_sld (pc := 325) C hk dL_law_325 (by omega) hL ?_
  refine zr_aload_n (pc := 326) C dL_law_326 0 rfl ?_
  refine zr_iload (pc := 327) C dL_law_327 4 rfl ?_
  refine zr_iconst (pc := 329) C dL_law_329 ?_
  refine zr_iadd (pc := 330) C dL_law_330 ?_
  refine zr_sld (pc := 331) C hk dL_law_331 (by omega) hL ?_
  refine zr_callV (As := [zv_i (sx xs (i + 1)), zv_i (sx xs (i + 2)), zv_i (sx xs (i + 3)), zv_i (sx xs (i + 4))]) (rest := [zv_i (zi_b (((0 ≤ (sx xs (i + 1)) ∧ (sx xs (i + 1)) ≤ 5) ∧ 0 < σ (8 + 2 * (sx xs (i + 1)).toNat) 0 ∧ (0 ≤ (sx xs (i + 2)) ∧ (sx xs (i + 2)) ≤ 18)) ∧ (1 ≤ (sx xs (i + 3)) ∧ (sx xs (i + 3)) ≤ 3) ∧ (0 ≤ (sx xs (i + 4)) ∧ (sx xs (i + 4)) ≤ 1000000)))]) (b := 67) (pc := 332) C dL_law_332 kX11_priceOf vL_52 rfl (by decide) (by decide) (hs_67 _) rfl (Nat.le_of_ble_eq_true rfl) (n_priceOf g τ1 (sx xs (i + 1)) (sx xs (i + 2)) (sx xs (i + 3)) (sx xs (i + 4)) (sx_r _ _) (sx_r _ _) (sx_r _ _) (sx_r _ _) (fun j j1 j2 => by rw [f1 72 (by decide), (a5 j j1 j2).1]; exact (a2 j j1 j2).1)) (fun v_ τ_ h_ => ?_)
  obtain ⟨rfl, hy2⟩ := h_
  generalize τ_ = τ2 at hy2 ⊢
  show zw_W g mL_law k 335 [(0, .ref bb), (1, .ref (g.2.2.1 0)), (2, .ref (g.2.2.1 67)), (3, .ref (g.2.2.1 90)), (4, zv_i i)] [zv_i (zi_b (((0 ≤ (sx xs (i + 1)) ∧ (sx xs (i + 1)) ≤ 5) ∧ 0 < τ1 72 (sx xs (i + 1)) ∧ (0 ≤ (sx xs (i + 2)) ∧ (sx xs (i + 2)) ≤ 18)) ∧ (1 ≤ (sx xs (i + 3)) ∧ (sx xs (i + 3)) ≤ 3) ∧ (0 ≤ (sx xs (i + 4)) ∧ (sx xs (i + 4)) ≤ 1000000))), zv_i (zi_b (((0 ≤ (sx xs (i + 1)) ∧ (sx xs (i + 1)) ≤ 5) ∧ 0 < σ (8 + 2 * (sx xs (i + 1)).toNat) 0 ∧ (0 ≤ (sx xs (i + 2)) ∧ (sx xs (i + 2)) ≤ 18)) ∧ (1 ≤ (sx xs (i + 3)) ∧ (sx xs (i + 3)) ≤ 3) ∧ (0 ≤ (sx xs (i + 4)) ∧ (sx xs (i + 4)) ≤ 1000000)))] τ2
  refine zr_same (pc := 335) C 961 dL_law_335 (by decide) (zi_bb hQ) ?_
  refine hex k τ2 b q u p C (lw_km hk (by omega)) ?_
  by_cases hC : ((0 ≤ (sx xs (i + 1)) ∧ (sx xs (i + 1)) ≤ 5) ∧ 0 < σ (8 + 2 * (sx xs (i + 1)).toNat) 0 ∧ (0 ≤ (sx xs (i + 2)) ∧ (sx xs (i + 2)) ≤ 18)) ∧ (1 ≤ (sx xs (i + 3)) ∧ (sx xs (i + 3)) ≤ 3) ∧ (0 ≤ (sx xs (i + 4)) ∧ (sx xs (i + 4)) ≤ 1000000)
  · have x1 := hy1.2 hC
    have y1 := hy2.2 (hQ.mpr hC)
    exact rl_price hR ⟨⟨hC.1.1, hC.1.2.2⟩, hC.2⟩ (fun j => by rw [y1, zs_put_ne (by omega), zs_put_ne (by omega), x1, zs_put_at]) (fun j => by rw [y1, zs_put_at, zs_put_ne (by decide), x1, zs_put_ne (by omega)]) (fun c c1 c2 c3 j => by rw [y1, zs_put_ne c3, zs_put_ne c2, x1, zs_put_ne c1]) (fun y h => by rw [y1, zs_put_ne (by decide), zs_put_off h, x1, zs_put_ne (by omega)])
  · obtain rfl := hy1.1 hC
    rw [hy2.1 (fun z => hC (hQ.mp z))]
    exact rl_0 hR 0

set_option maxRecDepth 20000 in
set_option maxHeartbeats 4000000 in
theorem lc_bprice {g : zg_G} {k : zk_T} (C : zk_ok g mL_law k) (n : Int) (hg : (g.2.2.2 : Int) = n) (bb Ls : Nat) (xs : Nat → Int32) (i : Int) (hi : 1 ≤ i ∧ i + 5 ≤ Ls) (hL : Ls ≤ 2561) (hk : lw_k bb Ls xs i k) (b q u p : Nat) (σ : zs_S) (hR : rl_R σ n b q u p) (hex : lw_N g n bb Ls xs i)  : zw_W g mL_law k 540 [(0, .ref bb), (1, .ref (g.2.2.1 0)), (2, .ref (g.2.2.1 67)), (3, .ref (g.2.2.1 90)), (4, zv_i i)] [] σ := by
  obtain ⟨hA, hS, h23, hLo, ⟨⟨gb, gq, gqb, g4, g5⟩, gp, gu, gup, g6, g7⟩, h20, hPt, hJ⟩ := id hR
  obtain ⟨a1, a2, a3, a4, a5, a6, a7, a8⟩ := id hA
  obtain ⟨s1, s2, s3, s4⟩ := id hS
  refine zr_aload_n (pc := 540) C dL_law_540 1 rfl ?_
  refine zr_aload_n (pc := 541) C dL_law_541 0 rfl ?_
  refine zr_iload (pc := 542) C dL_law_542 4 rfl ?_
  refine zr_iconst (pc := 544) C dL_law_544 ?_
  refine zr_iadd (pc := 545) C dL_law_545 ?_
  refine zr_sld (pc := 546) C hk dL_law_546 (by omega) hL ?_
  refine zr_aload_n (pc := 547) C dL_law_547 0 rfl ?_
  refine zr_iload (pc := 548) C dL_law_548 4 rfl ?_
  refine zr_iconst (pc := 550) C dL_law_550 ?_
  refine zr_iadd (pc := 551) C dL_law_551 ?_
  refine zr_sld (pc := 552) C hk dL_law_552 (by omega) hL ?_
  refine zr_aload_n (pc := 553) C dL_law_553 0 rfl ?_
  refine zr_iload (pc := 554) C dL_law_554 4 rfl ?_
  refine zr_iconst (pc := 556) C dL_law_556 ?_
  refine zr_iadd (pc := 557) C dL_law_557 ?_
  refine zr_sld (pc := 558) C hk dL_law_558 (by omega) hL ?_
  refine zr_callV (As := [zv_i (sx xs (i + 1)), zv_i (sx xs (i + 2)), zv_i (sx xs (i + 3))]) (rest := []) (b := 0) (pc := 559) C dL_law_559 kX10_boardPrice vL_80 rfl (by decide) (by decide) (hs_0 _) rfl (Nat.le_of_ble_eq_true rfl) (s_boardPrice g σ (sx xs (i + 1)) (sx xs (i + 2)) (sx xs (i + 3)) (sx_r _ _) (sx_r _ _) (sx_r _ _) s1) (fun v_ τ_ h_ => ?_)
  obtain ⟨rfl, hy1⟩ := h_
  generalize τ_ = τ1 at hy1 ⊢
  have f1 : ∀ c : Nat, 67 ≤ c → ∀ j, τ1 c j = σ c j := by
    intro c0 hc0 j
    by_cases z : ((0 ≤ (sx xs (i + 1)) ∧ (sx xs (i + 1)) ≤ 5) ∧ 0 < σ (28 + 2 * (sx xs (i + 1)).toNat) 0) ∧ (1 ≤ (sx xs (i + 2)) ∧ (sx xs (i + 2)) ≤ 3) ∧ (0 ≤ (sx xs (i + 3)) ∧ (sx xs (i + 3)) ≤ 1000000)
    · rw [hy1.2 z, zs_put_ne (by omega)]
    · rw [← hy1.1 z]
  have e72 : 0 ≤ (sx xs (i + 1)) ∧ (sx xs (i + 1)) ≤ 5 → τ1 76 (sx xs (i + 1)) = σ (28 + 2 * (sx xs (i + 1)).toNat) 0 := fun z => by
    rw [f1 76 (by decide)]
    exact (s2 _ z.1 (by omega)).1
  have hQ : (((0 ≤ (sx xs (i + 1)) ∧ (sx xs (i + 1)) ≤ 5) ∧ 0 < τ1 76 (sx xs (i + 1))) ∧ (1 ≤ (sx xs (i + 2)) ∧ (sx xs (i + 2)) ≤ 3) ∧ (0 ≤ (sx xs (i + 3)) ∧ (sx xs (i + 3)) ≤ 1000000)) ↔ (((0 ≤ (sx xs (i + 1)) ∧ (sx xs (i + 1)) ≤ 5) ∧ 0 < σ (28 + 2 * (sx xs (i + 1)).toNat) 0) ∧ (1 ≤ (sx xs (i + 2)) ∧ (sx xs (i + 2)) ≤ 3) ∧ (0 ≤ (sx xs (i + 3)) ∧ (sx xs (i + 3)) ≤ 1000000)) := ⟨fun ⟨⟨h1, h2⟩, h4⟩ => ⟨⟨h1, by rw [← e72 h1]; exact h2⟩, h4⟩, fun ⟨⟨h1, h2⟩, h4⟩ => ⟨⟨h1, by rw [e72 h1]; exact h2⟩, h4⟩⟩
  show zw_W g mL_law k 562 [(0, .ref bb), (1, .ref (g.2.2.1 0)), (2, .ref (g.2.2.1 67)), (3, .ref (g.2.2.1 90)), (4, zv_i i)] [zv_i (zi_b (((0 ≤ (sx xs (i + 1)) ∧ (sx xs (i + 1)) ≤ 5) ∧ 0 < σ (28 + 2 * (sx xs (i + 1)).toNat) 0) ∧ (1 ≤ (sx xs (i + 2)) ∧ (sx xs (i + 2)) ≤ 3) ∧ (0 ≤ (sx xs (i + 3)) ∧ (sx xs (i + 3)) ≤ 1000000)))] τ1
  refine zr_aload_n (pc := 562) C dL_law_562 2 rfl ?_
  refine zr_aload_n (pc := 563) C dL_law_563 0 rfl ?_
  refine zr_iload (pc := 564) C dL_law_564 4 rfl ?_
  refine zr_iconst (pc := 566) C dL_law_566 ?_
  refine zr_iadd (pc := 567) C dL_law_567 ?_
  refine zr_sld (pc := 568) C hk dL_law_568 (by omega) hL ?_
  refine zr_aload_n (pc := 569) C dL_law_569 0 rfl ?_
  refine zr_iload (pc := 570) C dL_law_570 4 rfl ?_
  refine zr_iconst (pc := 572) C dL_law_572 ?_
  refine zr_iadd (pc := 573) C dL_law_573 ?_
  refine zr_sld (pc := 574) C hk dL_law_574 (by omega) hL ?_
  refine zr_aload_n (pc := 575) C dL_law_575 0 rfl ?_
  refine zr_iload (pc := 576) C dL_law_576 4 rfl ?_
  refine zr_iconst (pc := 578) C dL_law_578 ?_
  refine zr_iadd (pc := 579) C dL_law_579 ?_
  refine zr_sld (pc := 580) C hk dL_law_580 (by omega) hL ?_
  refine zr_callV (As := [zv_i (sx xs (i + 1)), zv_i (sx xs (i + 2)), zv_i (sx xs (i + 3))]) (rest := [zv_i (zi_b (((0 ≤ (sx xs (i + 1)) ∧ (sx xs (i + 1)) ≤ 5) ∧ 0 < σ (28 + 2 * (sx xs (i + 1)).toNat) 0) ∧ (1 ≤ (sx xs (i + 2)) ∧ (sx xs (i + 2)) ≤ 3) ∧ (0 ≤ (sx xs (i + 3)) ∧ (sx xs (i + 3)) ≤ 1000000)))]) (b := 67) (pc := 581) C dL_law_581 kX11_boardPrice vL_83 rfl (by decide) (by decide) (hs_67 _) rfl (Nat.le_of_ble_eq_true rfl) (n_boardPrice g τ1 (sx xs (i + 1)) (sx xs (i + 2)) (sx xs (i + 3)) (sx_r _ _) (sx_r _ _) (sx_r _ _) (fun j j1 j2 => by rw [f1 76 (by decide), (s2 j j1 j2).1]; have := (s1.1 j j1 j2).1; omega)) (fun v_ τ_ h_ => ?_)
  obtain ⟨rfl, hy2⟩ := h_
  generalize τ_ = τ2 at hy2 ⊢
  show zw_W g mL_law k 584 [(0, .ref bb), (1, .ref (g.2.2.1 0)), (2, .ref (g.2.2.1 67)), (3, .ref (g.2.2.1 90)), (4, zv_i i)] [zv_i (zi_b (((0 ≤ (sx xs (i + 1)) ∧ (sx xs (i + 1)) ≤ 5) ∧ 0 < τ1 76 (sx xs (i + 1))) ∧ (1 ≤ (sx xs (i + 2)) ∧ (sx xs (i + 2)) ≤ 3) ∧ (0 ≤ (sx xs (i + 3)) ∧ (sx xs (i + 3)) ≤ 1000000))), zv_i (zi_b (((0 ≤ (sx xs (i + 1)) ∧ (sx xs (i + 1)) ≤ 5) ∧ 0 < σ (28 + 2 * (sx xs (i + 1)).toNat) 0) ∧ (1 ≤ (sx xs (i + 2)) ∧ (sx xs (i + 2)) ≤ 3) ∧ (0 ≤ (sx xs (i + 3)) ∧ (sx xs (i + 3)) ≤ 1000000)))] τ2
  refine zr_same (pc := 584) C 961 dL_law_584 (by decide) (zi_bb hQ) ?_
  refine hex k τ2 b q u p C (lw_km hk (by omega)) ?_
  by_cases hC : ((0 ≤ (sx xs (i + 1)) ∧ (sx xs (i + 1)) ≤ 5) ∧ 0 < σ (28 + 2 * (sx xs (i + 1)).toNat) 0) ∧ (1 ≤ (sx xs (i + 2)) ∧ (sx xs (i + 2)) ≤ 3) ∧ (0 ≤ (sx xs (i + 3)) ∧ (sx xs (i + 3)) ≤ 1000000)
  · have x1 := hy1.2 hC
    have y1 := hy2.2 (hQ.mpr hC)
    exact rl_bprice hR ⟨hC.1.1, hC.2⟩ (fun j => by rw [y1, zs_put_ne (by omega), zs_put_ne (by omega), x1, zs_put_at]) (fun j => by rw [y1, zs_put_at, zs_put_ne (by decide), x1, zs_put_ne (by omega)]) (fun c c1 c2 c3 j => by rw [y1, zs_put_ne c3, zs_put_ne c2, x1, zs_put_ne c1]) (fun y h => by rw [y1, zs_put_ne (by decide), zs_put_off h, x1, zs_put_ne (by omega)])
  · obtain rfl := hy1.1 hC
    rw [hy2.1 (fun z => hC (hQ.mp z))]
    exact rl_0 hR 0

set_option maxRecDepth 20000 in
set_option maxHeartbeats 4000000 in
theorem lc_height {g : zg_G} {k : zk_T} (C : zk_ok g mL_law k) (n : Int) (hg : (g.2.2.2 : Int) = n) (bb Ls : Nat) (xs : Nat → Int32) (i : Int) (hi : 1 ≤ i ∧ i + 5 ≤ Ls) (hL : Ls ≤ 2561) (hk : lw_k bb Ls xs i k) (b q u p : Nat) (σ : zs_S) (hR : rl_R σ n b q u p) (hex : lw_N g n bb Ls xs i)  : zw_W g mL_law k 589 [(0, .ref bb), (1, .ref (g.2.2.1 0)), (2, .ref (g.2.2.1 67)), (3, .ref (g.2.2.1 90)), (4, zv_i i)] [] σ := by
  obtain ⟨hA, hS, h23, hLo, ⟨⟨gb, gq, gqb, g4, g5⟩, gp, gu, gup, g6, g7⟩, h20, hPt, hJ⟩ := id hR
  obtain ⟨a1, a2, a3, a4, a5, a6, a7, a8⟩ := id hA
  obtain ⟨s1, s2, s3, s4⟩ := id hS
  refine zr_aload_n (pc := 589) C dL_law_589 1 rfl ?_
  refine zr_aload_n (pc := 590) C dL_law_590 0 rfl ?_
  refine zr_iload (pc := 591) C dL_law_591 4 rfl ?_
  refine zr_iconst (pc := 593) C dL_law_593 ?_
  refine zr_iadd (pc := 594) C dL_law_594 ?_
  refine zr_sld (pc := 595) C hk dL_law_595 (by omega) hL ?_
  refine zr_aload_n (pc := 596) C dL_law_596 0 rfl ?_
  refine zr_iload (pc := 597) C dL_law_597 4 rfl ?_
  refine zr_iconst (pc := 599) C dL_law_599 ?_
  refine zr_iadd (pc := 600) C dL_law_600 ?_
  refine zr_sld (pc := 601) C hk dL_law_601 (by omega) hL ?_
  refine zr_callV (As := [zv_i (sx xs (i + 1)), zv_i (sx xs (i + 2))]) (rest := []) (b := 0) (pc := 602) C dL_law_602 kX10_height vL_84 rfl (by decide) (by decide) (hs_0 _) rfl (Nat.le_of_ble_eq_true rfl) (s_height g σ (sx xs (i + 1)) (sx xs (i + 2)) (sx_r _ _) (sx_r _ _)) (fun v_ τ_ h_ => ?_)
  obtain ⟨rfl, hy1⟩ := h_
  generalize τ_ = τ1 at hy1 ⊢
  
  show zw_W g mL_law k 605 [(0, .ref bb), (1, .ref (g.2.2.1 0)), (2, .ref (g.2.2.1 67)), (3, .ref (g.2.2.1 90)), (4, zv_i i)] [zv_i (zi_b ((0 ≤ (sx xs (i + 1)) ∧ (sx xs (i + 1)) ≤ 3) ∧ (300 ≤ (sx xs (i + 2)) ∧ (sx xs (i + 2)) ≤ 5000)))] τ1
  refine zr_aload_n (pc := 605) C dL_law_605 2 rfl ?_
  refine zr_aload_n (pc := 606) C dL_law_606 0 rfl ?_
  refine zr_iload (pc := 607) C dL_law_607 4 rfl ?_
  refine zr_iconst (pc := 609) C dL_law_609 ?_
  refine zr_iadd (pc := 610) C dL_law_610 ?_
  refine zr_sld (pc := 611) C hk dL_law_611 (by omega) hL ?_
  refine zr_aload_n (pc := 612) C dL_law_612 0 rfl ?_
  refine zr_iload (pc := 613) C dL_law_613 4 rfl ?_
  refine zr_iconst (pc := 615) C dL_law_615 ?_
  refine zr_iadd (pc := 616) C dL_law_616 ?_
  refine zr_sld (pc := 617) C hk dL_law_617 (by omega) hL ?_
  refine zr_callV (As := [zv_i (sx xs (i + 1)), zv_i (sx xs (i + 2))]) (rest := [zv_i (zi_b ((0 ≤ (sx xs (i + 1)) ∧ (sx xs (i + 1)) ≤ 3) ∧ (300 ≤ (sx xs (i + 2)) ∧ (sx xs (i + 2)) ≤ 5000)))]) (b := 67) (pc := 618) C dL_law_618 kX11_height vL_87 rfl (by decide) (by decide) (hs_67 _) rfl (Nat.le_of_ble_eq_true rfl) (n_height g τ1 (sx xs (i + 1)) (sx xs (i + 2)) (sx_r _ _) (sx_r _ _)) (fun v_ τ_ h_ => ?_)
  obtain ⟨rfl, hy2⟩ := h_
  generalize τ_ = τ2 at hy2 ⊢
  show zw_W g mL_law k 621 [(0, .ref bb), (1, .ref (g.2.2.1 0)), (2, .ref (g.2.2.1 67)), (3, .ref (g.2.2.1 90)), (4, zv_i i)] [zv_i (zi_b ((0 ≤ (sx xs (i + 1)) ∧ (sx xs (i + 1)) ≤ 3) ∧ (300 ≤ (sx xs (i + 2)) ∧ (sx xs (i + 2)) ≤ 5000))), zv_i (zi_b ((0 ≤ (sx xs (i + 1)) ∧ (sx xs (i + 1)) ≤ 3) ∧ (300 ≤ (sx xs (i + 2)) ∧ (sx xs (i + 2)) ≤ 5000)))] τ2
  refine zr_same (pc := 621) C 961 dL_law_621 (by decide) (rfl) ?_
  refine hex k τ2 b q u p C (lw_km hk (by omega)) ?_
  by_cases hC : (0 ≤ (sx xs (i + 1)) ∧ (sx xs (i + 1)) ≤ 3) ∧ (300 ≤ (sx xs (i + 2)) ∧ (sx xs (i + 2)) ≤ 5000)
  · have x1 := hy1.2 hC
    have y1 := hy2.2 hC
    exact rl_height hR hC (fun j => by rw [y1, zs_put_ne (by decide), zs_put_ne (by decide), x1, zs_put_at]) (fun j => by rw [y1, zs_put_at, zs_put_ne (by decide), x1, zs_put_ne (by decide)]) (fun c c1 c2 c3 j => by rw [y1, zs_put_ne c3, zs_put_ne c2, x1, zs_put_ne c1]) (fun y h => by rw [y1, zs_put_ne (by decide), zs_put_off h, x1, zs_put_ne (by decide)])
  · obtain rfl := hy1.1 hC
    rw [hy2.1 hC]
    exact rl_0 hR 0

set_option maxRecDepth 20000 in
set_option maxHeartbeats 4000000 in
theorem lc_kerf {g : zg_G} {k : zk_T} (C : zk_ok g mL_law k) (n : Int) (hg : (g.2.2.2 : Int) = n) (bb Ls : Nat) (xs : Nat → Int32) (i : Int) (hi : 1 ≤ i ∧ i + 5 ≤ Ls) (hL : Ls ≤ 2561) (hk : lw_k bb Ls xs i k) (b q u p : Nat) (σ : zs_S) (hR : rl_R σ n b q u p) (hex : lw_N g n bb Ls xs i)  : zw_W g mL_law k 626 [(0, .ref bb), (1, .ref (g.2.2.1 0)), (2, .ref (g.2.2.1 67)), (3, .ref (g.2.2.1 90)), (4, zv_i i)] [] σ := by
  obtain ⟨hA, hS, h23, hLo, ⟨⟨gb, gq, gqb, g4, g5⟩, gp, gu, gup, g6, g7⟩, h20, hPt, hJ⟩ := id hR
  obtain ⟨a1, a2, a3, a4, a5, a6, a7, a8⟩ := id hA
  obtain ⟨s1, s2, s3, s4⟩ := id hS
  refine zr_aload_n (pc := 626) C dL_law_626 1 rfl ?_
  refine zr_aload_n (pc := 627) C dL_law_627 0 rfl ?_
  refine zr_iload (pc := 628) C dL_law_628 4 rfl ?_
  refine zr_iconst (pc := 630) C dL_law_630 ?_
  refine zr_iadd (pc := 631) C dL_law_631 ?_
  refine zr_sld (pc := 632) C hk dL_law_632 (by omega) hL ?_
  refine zr_callV (As := [zv_i (sx xs (i + 1))]) (rest := []) (b := 0) (pc := 633) C dL_law_633 kX10_kerf vL_88 rfl (by decide) (by decide) (hs_0 _) rfl (Nat.le_of_ble_eq_true rfl) (s_kerf g σ (sx xs (i + 1)) (sx_r _ _)) (fun v_ τ_ h_ => ?_)
  obtain ⟨rfl, hy1⟩ := h_
  generalize τ_ = τ1 at hy1 ⊢
  
  show zw_W g mL_law k 636 [(0, .ref bb), (1, .ref (g.2.2.1 0)), (2, .ref (g.2.2.1 67)), (3, .ref (g.2.2.1 90)), (4, zv_i i)] [zv_i (zi_b (0 ≤ (sx xs (i + 1)) ∧ (sx xs (i + 1)) ≤ 100))] τ1
  refine zr_aload_n (pc := 636) C dL_law_636 2 rfl ?_
  refine zr_aload_n (pc := 637) C dL_law_637 0 rfl ?_
  refine zr_iload (pc := 638) C dL_law_638 4 rfl ?_
  refine zr_iconst (pc := 640) C dL_law_640 ?_
  refine zr_iadd (pc := 641) C dL_law_641 ?_
  refine zr_sld (pc := 642) C hk dL_law_642 (by omega) hL ?_
  refine zr_callV (As := [zv_i (sx xs (i + 1))]) (rest := [zv_i (zi_b (0 ≤ (sx xs (i + 1)) ∧ (sx xs (i + 1)) ≤ 100))]) (b := 67) (pc := 643) C dL_law_643 kX11_kerf vL_92 rfl (by decide) (by decide) (hs_67 _) rfl (Nat.le_of_ble_eq_true rfl) (n_kerf g τ1 (sx xs (i + 1)) (sx_r _ _)) (fun v_ τ_ h_ => ?_)
  obtain ⟨rfl, hy2⟩ := h_
  generalize τ_ = τ2 at hy2 ⊢
  show zw_W g mL_law k 646 [(0, .ref bb), (1, .ref (g.2.2.1 0)), (2, .ref (g.2.2.1 67)), (3, .ref (g.2.2.1 90)), (4, zv_i i)] [zv_i (zi_b (0 ≤ (sx xs (i + 1)) ∧ (sx xs (i + 1)) ≤ 100)), zv_i (zi_b (0 ≤ (sx xs (i + 1)) ∧ (sx xs (i + 1)) ≤ 100))] τ2
  refine zr_same (pc := 646) C 961 dL_law_646 (by decide) (rfl) ?_
  refine hex k τ2 b q u p C (lw_km hk (by omega)) ?_
  by_cases hC : 0 ≤ (sx xs (i + 1)) ∧ (sx xs (i + 1)) ≤ 100
  · have x1 := hy1.2 hC
    have y1 := hy2.2 hC
    exact rl_kerf hR hC (by rw [y1, zs_put_ne (by decide), zs_put_ne (by decide), x1, zs_put_self]) (by rw [y1, zs_put_self]) (fun c c1 c2 j => by rw [y1, zs_put_ne c2, zs_put_ne c2, x1, zs_put_ne c1]) (by rw [y1, zs_put_ne (by decide), zs_put_ne (by decide), x1, zs_put_off (by decide)]) (by rw [y1, zs_put_ne (by decide), zs_put_ne (by decide), x1, zs_put_off (by decide)]) (fun y h h1 => by rw [y1, zs_put_off h1, zs_put_off h, x1, zs_put_ne (by decide)])
  · obtain rfl := hy1.1 hC
    rw [hy2.1 hC]
    exact rl_0 hR 0

set_option maxRecDepth 20000 in
set_option maxHeartbeats 4000000 in
theorem lc_need {g : zg_G} {k : zk_T} (C : zk_ok g mL_law k) (n : Int) (hg : (g.2.2.2 : Int) = n) (bb Ls : Nat) (xs : Nat → Int32) (i : Int) (hi : 1 ≤ i ∧ i + 5 ≤ Ls) (hL : Ls ≤ 2561) (hk : lw_k bb Ls xs i k) (b q u p : Nat) (σ : zs_S) (hR : rl_R σ n b q u p) (hex : lw_N g n bb Ls xs i)  : zw_W g mL_law k 651 [(0, .ref bb), (1, .ref (g.2.2.1 0)), (2, .ref (g.2.2.1 67)), (3, .ref (g.2.2.1 90)), (4, zv_i i)] [] σ := by
  obtain ⟨hA, hS, h23, hLo, ⟨⟨gb, gq, gqb, g4, g5⟩, gp, gu, gup, g6, g7⟩, h20, hPt, hJ⟩ := id hR
  obtain ⟨a1, a2, a3, a4, a5, a6, a7, a8⟩ := id hA
  obtain ⟨s1, s2, s3, s4⟩ := id hS
  refine zr_aload_n (pc := 651) C dL_law_651 1 rfl ?_
  refine zr_aload_n (pc := 652) C dL_law_652 0 rfl ?_
  refine zr_iload (pc := 653) C dL_law_653 4 rfl ?_
  refine zr_iconst (pc := 655) C dL_law_655 ?_
  refine zr_iadd (pc := 656) C dL_law_656 ?_
  refine zr_sld (pc := 657) C hk dL_law_657 (by omega) hL ?_
  refine zr_aload_n (pc := 658) C dL_law_658 0 rfl ?_
  refine zr_iload (pc := 659) C dL_law_659 4 rfl ?_
  refine zr_iconst (pc := 661) C dL_law_661 ?_
  refine zr_iadd (pc := 662) C dL_law_662 ?_
  refine zr_sld (pc := 663) C hk dL_law_663 (by omega) hL ?_
  refine zr_callV (As := [zv_i (sx xs (i + 1)), zv_i (sx xs (i + 2))]) (rest := []) (b := 0) (pc := 664) C dL_law_664 kX10_need vL_93 rfl (by decide) (by decide) (hs_0 _) rfl (Nat.le_of_ble_eq_true rfl) (s_need g σ (sx xs (i + 1)) (sx xs (i + 2)) (sx_r _ _) (sx_r _ _)) (fun v_ τ_ h_ => ?_)
  obtain ⟨rfl, hy1⟩ := h_
  generalize τ_ = τ1 at hy1 ⊢
  
  show zw_W g mL_law k 667 [(0, .ref bb), (1, .ref (g.2.2.1 0)), (2, .ref (g.2.2.1 67)), (3, .ref (g.2.2.1 90)), (4, zv_i i)] [zv_i (zi_b ((0 ≤ (sx xs (i + 1)) ∧ (sx xs (i + 1)) ≤ 5) ∧ (0 ≤ (sx xs (i + 2)) ∧ (sx xs (i + 2)) ≤ 1000)))] τ1
  refine zr_aload_n (pc := 667) C dL_law_667 2 rfl ?_
  refine zr_aload_n (pc := 668) C dL_law_668 0 rfl ?_
  refine zr_iload (pc := 669) C dL_law_669 4 rfl ?_
  refine zr_iconst (pc := 671) C dL_law_671 ?_
  refine zr_iadd (pc := 672) C dL_law_672 ?_
  refine zr_sld (pc := 673) C hk dL_law_673 (by omega) hL ?_
  refine zr_aload_n (pc := 674) C dL_law_674 0 rfl ?_
  refine zr_iload (pc := 675) C dL_law_675 4 rfl ?_
  refine zr_iconst (pc := 677) C dL_law_677 ?_
  refine zr_iadd (pc := 678) C dL_law_678 ?_
  refine zr_sld (pc := 679) C hk dL_law_679 (by omega) hL ?_
  refine zr_callV (As := [zv_i (sx xs (i + 1)), zv_i (sx xs (i + 2))]) (rest := [zv_i (zi_b ((0 ≤ (sx xs (i + 1)) ∧ (sx xs (i + 1)) ≤ 5) ∧ (0 ≤ (sx xs (i + 2)) ∧ (sx xs (i + 2)) ≤ 1000)))]) (b := 67) (pc := 680) C dL_law_680 kX11_need vL_96 rfl (by decide) (by decide) (hs_67 _) rfl (Nat.le_of_ble_eq_true rfl) (n_need g τ1 (sx xs (i + 1)) (sx xs (i + 2)) (sx_r _ _) (sx_r _ _)) (fun v_ τ_ h_ => ?_)
  obtain ⟨rfl, hy2⟩ := h_
  generalize τ_ = τ2 at hy2 ⊢
  show zw_W g mL_law k 683 [(0, .ref bb), (1, .ref (g.2.2.1 0)), (2, .ref (g.2.2.1 67)), (3, .ref (g.2.2.1 90)), (4, zv_i i)] [zv_i (zi_b ((0 ≤ (sx xs (i + 1)) ∧ (sx xs (i + 1)) ≤ 5) ∧ (0 ≤ (sx xs (i + 2)) ∧ (sx xs (i + 2)) ≤ 1000))), zv_i (zi_b ((0 ≤ (sx xs (i + 1)) ∧ (sx xs (i + 1)) ≤ 5) ∧ (0 ≤ (sx xs (i + 2)) ∧ (sx xs (i + 2)) ≤ 1000)))] τ2
  refine zr_same (pc := 683) C 961 dL_law_683 (by decide) (rfl) ?_
  refine hex k τ2 b q u p C (lw_km hk (by omega)) ?_
  by_cases hC : (0 ≤ (sx xs (i + 1)) ∧ (sx xs (i + 1)) ≤ 5) ∧ (0 ≤ (sx xs (i + 2)) ∧ (sx xs (i + 2)) ≤ 1000)
  · have x1 := hy1.2 hC
    have y1 := hy2.2 hC
    refine rl_need hR (fun j j1 j2 => ?_) (fun c c1 c2 c3 c4 j => by rw [y1, zs_put_ne c3, zs_put_ne c2, x1, zs_put_ne c1]) (fun y h => by rw [y1, zs_put_ne (by decide), zs_put_off h, x1, zs_put_ne (by decide)])
    have e1 : τ2 79 j = if j = (sx xs (i + 1)) then (sx xs (i + 2)) else σ 79 j := by rw [y1, zs_put_at, zs_put_ne (by decide), x1, zs_put_ne (by decide)]
    have e2 : τ2 41 j = if j = (sx xs (i + 1)) then (sx xs (i + 2)) else σ 41 j := by rw [y1, zs_put_ne (by decide), zs_put_ne (by decide), x1, zs_put_at]
    have o1 := s1.2.2.2.1 j j1 j2
    have o2 := (s2 j j1 j2).2.2.1
    rw [e1, e2]
    by_cases z : j = (sx xs (i + 1))
    · rw [if_pos z, if_pos z]
      exact ⟨rfl, hC.2⟩
    · rw [if_neg z, if_neg z]
      exact ⟨o2, o1⟩
  · obtain rfl := hy1.1 hC
    rw [hy2.1 hC]
    exact rl_0 hR 0

set_option maxRecDepth 20000 in
set_option maxHeartbeats 4000000 in
theorem lc_ladder {g : zg_G} {k : zk_T} (C : zk_ok g mL_law k) (n : Int) (hg : (g.2.2.2 : Int) = n) (bb Ls : Nat) (xs : Nat → Int32) (i : Int) (hi : 1 ≤ i ∧ i + 5 ≤ Ls) (hL : Ls ≤ 2561) (hk : lw_k bb Ls xs i k) (b q u p : Nat) (σ : zs_S) (hR : rl_R σ n b q u p) (hex : lw_N g n bb Ls xs i)  : zw_W g mL_law k 688 [(0, .ref bb), (1, .ref (g.2.2.1 0)), (2, .ref (g.2.2.1 67)), (3, .ref (g.2.2.1 90)), (4, zv_i i)] [] σ := by
  obtain ⟨hA, hS, h23, hLo, ⟨⟨gb, gq, gqb, g4, g5⟩, gp, gu, gup, g6, g7⟩, h20, hPt, hJ⟩ := id hR
  obtain ⟨a1, a2, a3, a4, a5, a6, a7, a8⟩ := id hA
  obtain ⟨s1, s2, s3, s4⟩ := id hS
  refine zr_aload_n (pc := 688) C dL_law_688 1 rfl ?_
  refine zr_aload_n (pc := 689) C dL_law_689 0 rfl ?_
  refine zr_iload (pc := 690) C dL_law_690 4 rfl ?_
  refine zr_iconst (pc := 692) C dL_law_692 ?_
  refine zr_iadd (pc := 693) C dL_law_693 ?_
  refine zr_sld (pc := 694) C hk dL_law_694 (by omega) hL ?_
  refine zr_aload_n (pc := 695) C dL_law_695 0 rfl ?_
  refine zr_iload (pc := 696) C dL_law_696 4 rfl ?_
  refine zr_iconst (pc := 698) C dL_law_698 ?_
  refine zr_iadd (pc := 699) C dL_law_699 ?_
  refine zr_sld (pc := 700) C hk dL_law_700 (by omega) hL ?_
  refine zr_aload_n (pc := 701) C dL_law_701 0 rfl ?_
  refine zr_iload (pc := 702) C dL_law_702 4 rfl ?_
  refine zr_iconst (pc := 704) C dL_law_704 ?_
  refine zr_iadd (pc := 705) C dL_law_705 ?_
  refine zr_sld (pc := 706) C hk dL_law_706 (by omega) hL ?_
  refine zr_callV (As := [zv_i (sx xs (i + 1)), zv_i (sx xs (i + 2)), zv_i (sx xs (i + 3))]) (rest := []) (b := 0) (pc := 707) C dL_law_707 kX10_ladder vL_97 rfl (by decide) (by decide) (hs_0 _) rfl (Nat.le_of_ble_eq_true rfl) (s_ladder g σ (sx xs (i + 1)) (sx xs (i + 2)) (sx xs (i + 3)) (sx_r _ _) (sx_r _ _) (sx_r _ _)) (fun v_ τ_ h_ => ?_)
  obtain ⟨rfl, hy1⟩ := h_
  generalize τ_ = τ1 at hy1 ⊢
  
  show zw_W g mL_law k 710 [(0, .ref bb), (1, .ref (g.2.2.1 0)), (2, .ref (g.2.2.1 67)), (3, .ref (g.2.2.1 90)), (4, zv_i i)] [zv_i (zi_b ((0 ≤ (sx xs (i + 1)) ∧ (sx xs (i + 1)) ≤ 3) ∧ (0 ≤ (sx xs (i + 2)) ∧ (sx xs (i + 2)) ≤ 100000) ∧ (0 ≤ (sx xs (i + 3)) ∧ (sx xs (i + 3)) ≤ 100000)))] τ1
  refine zr_aload_n (pc := 710) C dL_law_710 2 rfl ?_
  refine zr_aload_n (pc := 711) C dL_law_711 0 rfl ?_
  refine zr_iload (pc := 712) C dL_law_712 4 rfl ?_
  refine zr_iconst (pc := 714) C dL_law_714 ?_
  refine zr_iadd (pc := 715) C dL_law_715 ?_
  refine zr_sld (pc := 716) C hk dL_law_716 (by omega) hL ?_
  refine zr_aload_n (pc := 717) C dL_law_717 0 rfl ?_
  refine zr_iload (pc := 718) C dL_law_718 4 rfl ?_
  refine zr_iconst (pc := 720) C dL_law_720 ?_
  refine zr_iadd (pc := 721) C dL_law_721 ?_
  refine zr_sld (pc := 722) C hk dL_law_722 (by omega) hL ?_
  refine zr_aload_n (pc := 723) C dL_law_723 0 rfl ?_
  refine zr_iload (pc := 724) C dL_law_724 4 rfl ?_
  refine zr_iconst (pc := 726) C dL_law_726 ?_
  refine zr_iadd (pc := 727) C dL_law_727 ?_
  refine zr_sld (pc := 728) C hk dL_law_728 (by omega) hL ?_
  refine zr_callV (As := [zv_i (sx xs (i + 1)), zv_i (sx xs (i + 2)), zv_i (sx xs (i + 3))]) (rest := [zv_i (zi_b ((0 ≤ (sx xs (i + 1)) ∧ (sx xs (i + 1)) ≤ 3) ∧ (0 ≤ (sx xs (i + 2)) ∧ (sx xs (i + 2)) ≤ 100000) ∧ (0 ≤ (sx xs (i + 3)) ∧ (sx xs (i + 3)) ≤ 100000)))]) (b := 67) (pc := 729) C dL_law_729 kX11_ladder vL_100 rfl (by decide) (by decide) (hs_67 _) rfl (Nat.le_of_ble_eq_true rfl) (n_ladder g τ1 (sx xs (i + 1)) (sx xs (i + 2)) (sx xs (i + 3)) (sx_r _ _) (sx_r _ _) (sx_r _ _)) (fun v_ τ_ h_ => ?_)
  obtain ⟨rfl, hy2⟩ := h_
  generalize τ_ = τ2 at hy2 ⊢
  show zw_W g mL_law k 732 [(0, .ref bb), (1, .ref (g.2.2.1 0)), (2, .ref (g.2.2.1 67)), (3, .ref (g.2.2.1 90)), (4, zv_i i)] [zv_i (zi_b ((0 ≤ (sx xs (i + 1)) ∧ (sx xs (i + 1)) ≤ 3) ∧ (0 ≤ (sx xs (i + 2)) ∧ (sx xs (i + 2)) ≤ 100000) ∧ (0 ≤ (sx xs (i + 3)) ∧ (sx xs (i + 3)) ≤ 100000))), zv_i (zi_b ((0 ≤ (sx xs (i + 1)) ∧ (sx xs (i + 1)) ≤ 3) ∧ (0 ≤ (sx xs (i + 2)) ∧ (sx xs (i + 2)) ≤ 100000) ∧ (0 ≤ (sx xs (i + 3)) ∧ (sx xs (i + 3)) ≤ 100000)))] τ2
  refine zr_same (pc := 732) C 961 dL_law_732 (by decide) (rfl) ?_
  refine hex k τ2 b q u p C (lw_km hk (by omega)) ?_
  by_cases hC : (0 ≤ (sx xs (i + 1)) ∧ (sx xs (i + 1)) ≤ 3) ∧ (0 ≤ (sx xs (i + 2)) ∧ (sx xs (i + 2)) ≤ 100000) ∧ (0 ≤ (sx xs (i + 3)) ∧ (sx xs (i + 3)) ≤ 100000)
  · have x1 := hy1.2 hC
    have y1 := hy2.2 hC
    exact rl_ladder hR hC (fun j => by rw [y1, zs_put_ne (by decide), zs_put_ne (by decide), zs_put_ne (by decide), x1, zs_put_ne (by decide), zs_put_at]) (fun j => by rw [y1, zs_put_ne (by decide), zs_put_ne (by decide), zs_put_ne (by decide), x1, zs_put_at, zs_put_ne (by decide)]) (fun j => by rw [y1, zs_put_ne (by decide), zs_put_at, zs_put_ne (by decide), x1, zs_put_ne (by decide), zs_put_ne (by decide)]) (fun j => by rw [y1, zs_put_at, zs_put_ne (by decide), zs_put_ne (by decide), x1, zs_put_ne (by decide), zs_put_ne (by decide)]) (fun c c1 c2 c3 c4 c5 j => by rw [y1, zs_put_ne c5, zs_put_ne c4, zs_put_ne c3, x1, zs_put_ne c2, zs_put_ne c1]) (fun y h => by rw [y1, zs_put_ne (by decide), zs_put_ne (by decide), zs_put_off h, x1, zs_put_ne (by decide), zs_put_ne (by decide)])
  · obtain rfl := hy1.1 hC
    rw [hy2.1 hC]
    exact rl_0 hR 0

set_option maxRecDepth 20000 in
set_option maxHeartbeats 4000000 in
theorem lc_logs {g : zg_G} {k : zk_T} (C : zk_ok g mL_law k) (n : Int) (hg : (g.2.2.2 : Int) = n) (bb Ls : Nat) (xs : Nat → Int32) (i : Int) (hi : 1 ≤ i ∧ i + 5 ≤ Ls) (hL : Ls ≤ 2561) (hk : lw_k bb Ls xs i k) (b q u p : Nat) (σ : zs_S) (hR : rl_R σ n b q u p) (hex : lw_N g n bb Ls xs i)  : zw_W g mL_law k 410 [(0, .ref bb), (1, .ref (g.2.2.1 0)), (2, .ref (g.2.2.1 67)), (3, .ref (g.2.2.1 90)), (4, zv_i i)] [] σ := by
  obtain ⟨hA, hS, h23, hLo, ⟨⟨gb, gq, gqb, g4, g5⟩, gp, gu, gup, g6, g7⟩, h20, hPt, hJ⟩ := id hR
  obtain ⟨a1, a2, a3, a4, a5, a6, a7, a8⟩ := id hA
  obtain ⟨s1, s2, s3, s4⟩ := id hS
  refine zr_aload_n (pc := 410) C dL_law_410 1 rfl ?_
  refine zr_callV (As := []) (rest := []) (b := 0) (pc := 411) C dL_law_411 kX10_logs vL_65 rfl (by decide) (by decide) (hs_0 _) rfl (Nat.le_of_ble_eq_true rfl) (s_logs g σ b gb g4) (fun v_ τ_ h_ => ?_)
  obtain ⟨rfl, rfl⟩ := h_
  show zw_W g mL_law k 414 [(0, .ref bb), (1, .ref (g.2.2.1 0)), (2, .ref (g.2.2.1 67)), (3, .ref (g.2.2.1 90)), (4, zv_i i)] [zv_i (σ b 0)] σ
  refine zr_aload_n (pc := 414) C dL_law_414 2 rfl ?_
  refine zr_callV (As := []) (rest := [zv_i (σ b 0)]) (b := 67) (pc := 415) C dL_law_415 kX11_logs vL_68 rfl (by decide) (by decide) (hs_67 _) rfl (Nat.le_of_ble_eq_true rfl) (n_logs g σ) (fun v_ τ_ h_ => ?_)
  obtain ⟨rfl, rfl⟩ := h_
  show zw_W g mL_law k 418 [(0, .ref bb), (1, .ref (g.2.2.1 0)), (2, .ref (g.2.2.1 67)), (3, .ref (g.2.2.1 90)), (4, zv_i i)] [zv_i (σ 67 10), zv_i (σ b 0)] (zs_put σ 67 0 0)
  refine zr_same (pc := 418) C 961 dL_law_418 (by decide) (hLo.1.symm) ?_
  refine hex k (zs_put σ 67 0 0) b q u p C (lw_km hk (by omega)) ?_
  exact rl_0 hR 0

set_option maxRecDepth 20000 in
set_option maxHeartbeats 4000000 in
theorem lc_boards {g : zg_G} {k : zk_T} (C : zk_ok g mL_law k) (n : Int) (hg : (g.2.2.2 : Int) = n) (bb Ls : Nat) (xs : Nat → Int32) (i : Int) (hi : 1 ≤ i ∧ i + 5 ≤ Ls) (hL : Ls ≤ 2561) (hk : lw_k bb Ls xs i k) (b q u p : Nat) (σ : zs_S) (hR : rl_R σ n b q u p) (hex : lw_N g n bb Ls xs i)  : zw_W g mL_law k 818 [(0, .ref bb), (1, .ref (g.2.2.1 0)), (2, .ref (g.2.2.1 67)), (3, .ref (g.2.2.1 90)), (4, zv_i i)] [] σ := by
  obtain ⟨hA, hS, h23, hLo, ⟨⟨gb, gq, gqb, g4, g5⟩, gp, gu, gup, g6, g7⟩, h20, hPt, hJ⟩ := id hR
  obtain ⟨a1, a2, a3, a4, a5, a6, a7, a8⟩ := id hA
  obtain ⟨s1, s2, s3, s4⟩ := id hS
  refine zr_aload_n (pc := 818) C dL_law_818 1 rfl ?_
  refine zr_callV (As := []) (rest := []) (b := 0) (pc := 819) C dL_law_819 kX10_boards vL_109 rfl (by decide) (by decide) (hs_0 _) rfl (Nat.le_of_ble_eq_true rfl) (s_boards g σ u gu g6 hPt.2.1) (fun v_ τ_ h_ => ?_)
  obtain ⟨rfl, rfl⟩ := h_
  show zw_W g mL_law k 822 [(0, .ref bb), (1, .ref (g.2.2.1 0)), (2, .ref (g.2.2.1 67)), (3, .ref (g.2.2.1 90)), (4, zv_i i)] [zv_i (pa_n σ u)] σ
  refine zr_aload_n (pc := 822) C dL_law_822 2 rfl ?_
  refine zr_callV (As := []) (rest := [zv_i (pa_n σ u)]) (b := 67) (pc := 823) C dL_law_823 kX11_boards vL_112 rfl (by decide) (by decide) (hs_67 _) rfl (Nat.le_of_ble_eq_true rfl) (n_boards g σ) (fun v_ τ_ h_ => ?_)
  obtain ⟨rfl, rfl⟩ := h_
  show zw_W g mL_law k 826 [(0, .ref bb), (1, .ref (g.2.2.1 0)), (2, .ref (g.2.2.1 67)), (3, .ref (g.2.2.1 90)), (4, zv_i i)] [zv_i (σ 67 20), zv_i (pa_n σ u)] (zs_put σ 67 0 0)
  refine zr_same (pc := 826) C 961 dL_law_826 (by decide) (hPt.1.1) ?_
  refine hex k (zs_put σ 67 0 0) b q u p C (lw_km hk (by omega)) ?_
  exact rl_0 hR 0

set_option maxRecDepth 20000 in
set_option maxHeartbeats 4000000 in
theorem lc_cant {g : zg_G} {k : zk_T} (C : zk_ok g mL_law k) (n : Int) (hg : (g.2.2.2 : Int) = n) (bb Ls : Nat) (xs : Nat → Int32) (i : Int) (hi : 1 ≤ i ∧ i + 5 ≤ Ls) (hL : Ls ≤ 2561) (hk : lw_k bb Ls xs i k) (b q u p : Nat) (σ : zs_S) (hR : rl_R σ n b q u p) (hex : lw_N g n bb Ls xs i)  : zw_W g mL_law k 899 [(0, .ref bb), (1, .ref (g.2.2.1 0)), (2, .ref (g.2.2.1 67)), (3, .ref (g.2.2.1 90)), (4, zv_i i)] [] σ := by
  obtain ⟨hA, hS, h23, hLo, ⟨⟨gb, gq, gqb, g4, g5⟩, gp, gu, gup, g6, g7⟩, h20, hPt, hJ⟩ := id hR
  obtain ⟨a1, a2, a3, a4, a5, a6, a7, a8⟩ := id hA
  obtain ⟨s1, s2, s3, s4⟩ := id hS
  refine zr_aload_n (pc := 899) C dL_law_899 1 rfl ?_
  refine zr_callV (As := []) (rest := []) (b := 0) (pc := 900) C dL_law_900 kX10_cant vL_116 rfl (by decide) (by decide) (hs_0 _) rfl (Nat.le_of_ble_eq_true rfl) (s_cant g σ u gu g6) (fun v_ τ_ h_ => ?_)
  obtain ⟨rfl, rfl⟩ := h_
  show zw_W g mL_law k 903 [(0, .ref bb), (1, .ref (g.2.2.1 0)), (2, .ref (g.2.2.1 67)), (3, .ref (g.2.2.1 90)), (4, zv_i i)] [zv_i (σ u 0)] σ
  refine zr_aload_n (pc := 903) C dL_law_903 2 rfl ?_
  refine zr_callV (As := []) (rest := [zv_i (σ u 0)]) (b := 67) (pc := 904) C dL_law_904 kX11_cant vL_119 rfl (by decide) (by decide) (hs_67 _) rfl (Nat.le_of_ble_eq_true rfl) (n_cant g σ) (fun v_ τ_ h_ => ?_)
  obtain ⟨rfl, rfl⟩ := h_
  show zw_W g mL_law k 907 [(0, .ref bb), (1, .ref (g.2.2.1 0)), (2, .ref (g.2.2.1 67)), (3, .ref (g.2.2.1 90)), (4, zv_i i)] [zv_i (σ 67 21), zv_i (σ u 0)] (zs_put σ 67 0 0)
  refine zr_same (pc := 907) C 961 dL_law_907 (by decide) (hPt.1.2) ?_
  refine hex k (zs_put σ 67 0 0) b q u p C (lw_km hk (by omega)) ?_
  exact rl_0 hR 0

set_option maxRecDepth 20000 in
set_option maxHeartbeats 4000000 in
theorem lc_needNow {g : zg_G} {k : zk_T} (C : zk_ok g mL_law k) (n : Int) (hg : (g.2.2.2 : Int) = n) (bb Ls : Nat) (xs : Nat → Int32) (i : Int) (hi : 1 ≤ i ∧ i + 5 ≤ Ls) (hL : Ls ≤ 2561) (hk : lw_k bb Ls xs i k) (b q u p : Nat) (σ : zs_S) (hR : rl_R σ n b q u p) (hex : lw_N g n bb Ls xs i)  : zw_W g mL_law k 737 [(0, .ref bb), (1, .ref (g.2.2.1 0)), (2, .ref (g.2.2.1 67)), (3, .ref (g.2.2.1 90)), (4, zv_i i)] [] σ := by
  obtain ⟨hA, hS, h23, hLo, ⟨⟨gb, gq, gqb, g4, g5⟩, gp, gu, gup, g6, g7⟩, h20, hPt, hJ⟩ := id hR
  obtain ⟨a1, a2, a3, a4, a5, a6, a7, a8⟩ := id hA
  obtain ⟨s1, s2, s3, s4⟩ := id hS
  have hv9 : (if 0 ≤ (sx xs (i + 1)) ∧ (sx xs (i + 1)) ≤ 5 then σ 79 (sx xs (i + 1)) else -1) = (if 0 ≤ (sx xs (i + 1)) ∧ (sx xs (i + 1)) ≤ 5 then σ 41 (sx xs (i + 1)) else -1) := by
    by_cases z : 0 ≤ (sx xs (i + 1)) ∧ (sx xs (i + 1)) ≤ 5
    · rw [if_pos z, if_pos z]
      exact (s2 _ z.1 (by omega)).2.2.1
    · rw [if_neg z, if_neg z]
  refine zr_aload_n (pc := 737) C dL_law_737 1 rfl ?_
  refine zr_aload_n (pc := 738) C dL_law_738 0 rfl ?_
  refine zr_iload (pc := 739) C dL_law_739 4 rfl ?_
  refine zr_iconst (pc := 741) C dL_law_741 ?_
  refine zr_iadd (pc := 742) C dL_law_742 ?_
  refine zr_sld (pc := 743) C hk dL_law_743 (by omega) hL ?_
  refine zr_callV (As := [zv_i (sx xs (i + 1))]) (rest := []) (b := 0) (pc := 744) C dL_law_744 kX10_needNow vL_101 rfl (by decide) (by decide) (hs_0 _) rfl (Nat.le_of_ble_eq_true rfl) (s_needNow g σ (sx xs (i + 1)) (sx_r _ _)) (fun v_ τ_ h_ => ?_)
  obtain ⟨rfl, rfl⟩ := h_
  show zw_W g mL_law k 747 [(0, .ref bb), (1, .ref (g.2.2.1 0)), (2, .ref (g.2.2.1 67)), (3, .ref (g.2.2.1 90)), (4, zv_i i)] [zv_i (if 0 ≤ (sx xs (i + 1)) ∧ (sx xs (i + 1)) ≤ 5 then σ 41 (sx xs (i + 1)) else -1)] σ
  refine zr_aload_n (pc := 747) C dL_law_747 2 rfl ?_
  refine zr_aload_n (pc := 748) C dL_law_748 0 rfl ?_
  refine zr_iload (pc := 749) C dL_law_749 4 rfl ?_
  refine zr_iconst (pc := 751) C dL_law_751 ?_
  refine zr_iadd (pc := 752) C dL_law_752 ?_
  refine zr_sld (pc := 753) C hk dL_law_753 (by omega) hL ?_
  refine zr_callV (As := [zv_i (sx xs (i + 1))]) (rest := [zv_i (if 0 ≤ (sx xs (i + 1)) ∧ (sx xs (i + 1)) ≤ 5 then σ 41 (sx xs (i + 1)) else -1)]) (b := 67) (pc := 754) C dL_law_754 kX11_needNow vL_104 rfl (by decide) (by decide) (hs_67 _) rfl (Nat.le_of_ble_eq_true rfl) (n_needNow g σ (sx xs (i + 1)) (sx_r _ _)) (fun v_ τ_ h_ => ?_)
  obtain ⟨rfl, rfl⟩ := h_
  show zw_W g mL_law k 757 [(0, .ref bb), (1, .ref (g.2.2.1 0)), (2, .ref (g.2.2.1 67)), (3, .ref (g.2.2.1 90)), (4, zv_i i)] [zv_i (if 0 ≤ (sx xs (i + 1)) ∧ (sx xs (i + 1)) ≤ 5 then σ 79 (sx xs (i + 1)) else -1), zv_i (if 0 ≤ (sx xs (i + 1)) ∧ (sx xs (i + 1)) ≤ 5 then σ 41 (sx xs (i + 1)) else -1)] (zs_put σ 67 0 0)
  refine zr_same (pc := 757) C 961 dL_law_757 (by decide) (hv9) ?_
  refine hex k (zs_put σ 67 0 0) b q u p C (lw_km hk (by omega)) ?_
  exact rl_0 hR 0

set_option maxRecDepth 20000 in
set_option maxHeartbeats 4000000 in
theorem lc_fits {g : zg_G} {k : zk_T} (C : zk_ok g mL_law k) (n : Int) (hg : (g.2.2.2 : Int) = n) (bb Ls : Nat) (xs : Nat → Int32) (i : Int) (hi : 1 ≤ i ∧ i + 5 ≤ Ls) (hL : Ls ≤ 2561) (hk : lw_k bb Ls xs i k) (b q u p : Nat) (σ : zs_S) (hR : rl_R σ n b q u p) (hex : lw_N g n bb Ls xs i)  : zw_W g mL_law k 912 [(0, .ref bb), (1, .ref (g.2.2.1 0)), (2, .ref (g.2.2.1 67)), (3, .ref (g.2.2.1 90)), (4, zv_i i)] [] σ := by
  obtain ⟨hA, hS, h23, hLo, ⟨⟨gb, gq, gqb, g4, g5⟩, gp, gu, gup, g6, g7⟩, h20, hPt, hJ⟩ := id hR
  obtain ⟨a1, a2, a3, a4, a5, a6, a7, a8⟩ := id hA
  obtain ⟨s1, s2, s3, s4⟩ := id hS
  have hv9 : ((((0 ≤ (sx xs (i + 1)) ∧ (sx xs (i + 1)) ≤ 5) ∧ ¬ σ 76 (sx xs (i + 1)) = 0) ∧ (1 ≤ (sx xs (i + 2)) ∧ (sx xs (i + 2)) ≤ 200) ∧ (50 ≤ (sx xs (i + 3)) ∧ (sx xs (i + 3)) ≤ 900)) ∧ ((sx xs (i + 2)) * σ 76 (sx xs (i + 1)) + ((sx xs (i + 2)) - 1) * σ 67 17) * ((sx xs (i + 2)) * σ 76 (sx xs (i + 1)) + ((sx xs (i + 2)) - 1) * σ 67 17) + σ 77 (sx xs (i + 1)) * σ 77 (sx xs (i + 1)) ≤ 10 * (sx xs (i + 3)) * (10 * (sx xs (i + 3)))) ↔ ((((0 ≤ (sx xs (i + 1)) ∧ (sx xs (i + 1)) ≤ 5) ∧ 0 < σ (28 + 2 * (sx xs (i + 1)).toNat) 0) ∧ (1 ≤ (sx xs (i + 2)) ∧ (sx xs (i + 2)) ≤ 200) ∧ (50 ≤ (sx xs (i + 3)) ∧ (sx xs (i + 3)) ≤ 900)) ∧ (sx xs (i + 2)) * σ (28 + 2 * (sx xs (i + 1)).toNat) 0 + ((sx xs (i + 2)) - 1) * σ 26 3 ≤ ro_m (10 * (sx xs (i + 3))) (σ (28 + 2 * (sx xs (i + 1)).toNat) 1)) := by
    generalize (sx xs (i + 1)) = x1
    generalize (sx xs (i + 2)) = x2
    generalize (sx xs (i + 3)) = x3
    have key : (0 ≤ x1 ∧ x1 ≤ 5) → (1 ≤ x2 ∧ x2 ≤ 200) → (50 ≤ x3 ∧ x3 ≤ 900) → ((¬ σ 76 x1 = 0 ↔ 0 < σ (28 + 2 * x1.toNat) 0) ∧ ((x2 * σ 76 x1 + (x2 - 1) * σ 67 17) * (x2 * σ 76 x1 + (x2 - 1) * σ 67 17) + σ 77 x1 * σ 77 x1 ≤ 10 * x3 * (10 * x3) ↔ x2 * σ (28 + 2 * x1.toNat) 0 + (x2 - 1) * σ 26 3 ≤ ro_m (10 * x3) (σ (28 + 2 * x1.toNat) 1))) := by
      intro z1 z2 z3
      obtain ⟨t1, t2, -, -⟩ := s2 x1 z1.1 (by omega)
      obtain ⟨u1, u2, -⟩ := s1.1 x1 z1.1 (by omega)
      rw [t1, t2, s3]
      have p1 : 0 ≤ x2 * σ (28 + 2 * x1.toNat) 0 := Int.mul_nonneg (by omega) (by omega)
      have p2 : 0 ≤ (x2 - 1) * σ 26 3 := Int.mul_nonneg (by omega) s1.2.1.1
      refine ⟨by omega, ?_⟩
      generalize x2 * σ (28 + 2 * x1.toNat) 0 = v1 at p1 ⊢
      generalize (x2 - 1) * σ 26 3 = v2 at p2 ⊢
      have r := ro_i (a := 10 * x3) (b := σ (28 + 2 * x1.toNat) 1) (x := v1 + v2) (by omega) u2.1 (by omega)
      rw [Int.add_comm, r]
      exact ⟨fun z => z.2, fun z => ⟨by omega, z⟩⟩
    constructor
    · intro ⟨⟨⟨h1, h2⟩, h3, h4⟩, h5⟩
      obtain ⟨k1, k2⟩ := key h1 h3 h4
      exact ⟨⟨⟨h1, k1.mp h2⟩, h3, h4⟩, k2.mp h5⟩
    · intro ⟨⟨⟨h1, h2⟩, h3, h4⟩, h5⟩
      obtain ⟨k1, k2⟩ := key h1 h3 h4
      exact ⟨⟨⟨h1, k1.mpr h2⟩, h3, h4⟩, k2.mpr h5⟩
  refine zr_aload_n (pc := 912) C dL_law_912 1 rfl ?_
  refine zr_aload_n (pc := 913) C dL_law_913 0 rfl ?_
  refine zr_iload (pc := 914) C dL_law_914 4 rfl ?_
  refine zr_iconst (pc := 916) C dL_law_916 ?_
  refine zr_iadd (pc := 917) C dL_law_917 ?_
  refine zr_sld (pc := 918) C hk dL_law_918 (by omega) hL ?_
  refine zr_aload_n (pc := 919) C dL_law_919 0 rfl ?_
  refine zr_iload (pc := 920) C dL_law_920 4 rfl ?_
  refine zr_iconst (pc := 922) C dL_law_922 ?_
  refine zr_iadd (pc := 923) C dL_law_923 ?_
  refine zr_sld (pc := 924) C hk dL_law_924 (by omega) hL ?_
  refine zr_aload_n (pc := 925) C dL_law_925 0 rfl ?_
  refine zr_iload (pc := 926) C dL_law_926 4 rfl ?_
  refine zr_iconst (pc := 928) C dL_law_928 ?_
  refine zr_iadd (pc := 929) C dL_law_929 ?_
  refine zr_sld (pc := 930) C hk dL_law_930 (by omega) hL ?_
  refine zr_callV (As := [zv_i (sx xs (i + 1)), zv_i (sx xs (i + 2)), zv_i (sx xs (i + 3))]) (rest := []) (b := 0) (pc := 931) C dL_law_931 kX10_fits vL_120 rfl (by decide) (by decide) (hs_0 _) rfl (Nat.le_of_ble_eq_true rfl) (s_fits g σ (sx xs (i + 1)) (sx xs (i + 2)) (sx xs (i + 3)) (sx_r _ _) (sx_r _ _) (sx_r _ _) s1) (fun v_ τ_ h_ => ?_)
  obtain ⟨rfl, rfl⟩ := h_
  show zw_W g mL_law k 934 [(0, .ref bb), (1, .ref (g.2.2.1 0)), (2, .ref (g.2.2.1 67)), (3, .ref (g.2.2.1 90)), (4, zv_i i)] [zv_i (zi_b ((((0 ≤ (sx xs (i + 1)) ∧ (sx xs (i + 1)) ≤ 5) ∧ 0 < σ (28 + 2 * (sx xs (i + 1)).toNat) 0) ∧ (1 ≤ (sx xs (i + 2)) ∧ (sx xs (i + 2)) ≤ 200) ∧ (50 ≤ (sx xs (i + 3)) ∧ (sx xs (i + 3)) ≤ 900)) ∧ (sx xs (i + 2)) * σ (28 + 2 * (sx xs (i + 1)).toNat) 0 + ((sx xs (i + 2)) - 1) * σ 26 3 ≤ ro_m (10 * (sx xs (i + 3))) (σ (28 + 2 * (sx xs (i + 1)).toNat) 1)))] σ
  refine zr_aload_n (pc := 934) C dL_law_934 2 rfl ?_
  refine zr_aload_n (pc := 935) C dL_law_935 0 rfl ?_
  refine zr_iload (pc := 936) C dL_law_936 4 rfl ?_
  refine zr_iconst (pc := 938) C dL_law_938 ?_
  refine zr_iadd (pc := 939) C dL_law_939 ?_
  refine zr_sld (pc := 940) C hk dL_law_940 (by omega) hL ?_
  refine zr_aload_n (pc := 941) C dL_law_941 0 rfl ?_
  refine zr_iload (pc := 942) C dL_law_942 4 rfl ?_
  refine zr_iconst (pc := 944) C dL_law_944 ?_
  refine zr_iadd (pc := 945) C dL_law_945 ?_
  refine zr_sld (pc := 946) C hk dL_law_946 (by omega) hL ?_
  refine zr_aload_n (pc := 947) C dL_law_947 0 rfl ?_
  refine zr_iload (pc := 948) C dL_law_948 4 rfl ?_
  refine zr_iconst (pc := 950) C dL_law_950 ?_
  refine zr_iadd (pc := 951) C dL_law_951 ?_
  refine zr_sld (pc := 952) C hk dL_law_952 (by omega) hL ?_
  refine zr_callV (As := [zv_i (sx xs (i + 1)), zv_i (sx xs (i + 2)), zv_i (sx xs (i + 3))]) (rest := [zv_i (zi_b ((((0 ≤ (sx xs (i + 1)) ∧ (sx xs (i + 1)) ≤ 5) ∧ 0 < σ (28 + 2 * (sx xs (i + 1)).toNat) 0) ∧ (1 ≤ (sx xs (i + 2)) ∧ (sx xs (i + 2)) ≤ 200) ∧ (50 ≤ (sx xs (i + 3)) ∧ (sx xs (i + 3)) ≤ 900)) ∧ (sx xs (i + 2)) * σ (28 + 2 * (sx xs (i + 1)).toNat) 0 + ((sx xs (i + 2)) - 1) * σ 26 3 ≤ ro_m (10 * (sx xs (i + 3))) (σ (28 + 2 * (sx xs (i + 1)).toNat) 1)))]) (b := 67) (pc := 953) C dL_law_953 kX11_fits vL_123 rfl (by decide) (by decide) (hs_67 _) rfl (Nat.le_of_ble_eq_true rfl) (n_fits g σ (sx xs (i + 1)) (sx xs (i + 2)) (sx xs (i + 3)) (sx_r _ _) (sx_r _ _) (sx_r _ _) ⟨fun j j1 j2 => by rw [(s2 j j1 j2).1, (s2 j j1 j2).2.1]; have := s1.1 j j1 j2; omega, by rw [s3]; exact s1.2.1⟩) (fun v_ τ_ h_ => ?_)
  obtain ⟨rfl, rfl⟩ := h_
  show zw_W g mL_law k 956 [(0, .ref bb), (1, .ref (g.2.2.1 0)), (2, .ref (g.2.2.1 67)), (3, .ref (g.2.2.1 90)), (4, zv_i i)] [zv_i (zi_b ((((0 ≤ (sx xs (i + 1)) ∧ (sx xs (i + 1)) ≤ 5) ∧ ¬ σ 76 (sx xs (i + 1)) = 0) ∧ (1 ≤ (sx xs (i + 2)) ∧ (sx xs (i + 2)) ≤ 200) ∧ (50 ≤ (sx xs (i + 3)) ∧ (sx xs (i + 3)) ≤ 900)) ∧ ((sx xs (i + 2)) * σ 76 (sx xs (i + 1)) + ((sx xs (i + 2)) - 1) * σ 67 17) * ((sx xs (i + 2)) * σ 76 (sx xs (i + 1)) + ((sx xs (i + 2)) - 1) * σ 67 17) + σ 77 (sx xs (i + 1)) * σ 77 (sx xs (i + 1)) ≤ 10 * (sx xs (i + 3)) * (10 * (sx xs (i + 3))))), zv_i (zi_b ((((0 ≤ (sx xs (i + 1)) ∧ (sx xs (i + 1)) ≤ 5) ∧ 0 < σ (28 + 2 * (sx xs (i + 1)).toNat) 0) ∧ (1 ≤ (sx xs (i + 2)) ∧ (sx xs (i + 2)) ≤ 200) ∧ (50 ≤ (sx xs (i + 3)) ∧ (sx xs (i + 3)) ≤ 900)) ∧ (sx xs (i + 2)) * σ (28 + 2 * (sx xs (i + 1)).toNat) 0 + ((sx xs (i + 2)) - 1) * σ 26 3 ≤ ro_m (10 * (sx xs (i + 3))) (σ (28 + 2 * (sx xs (i + 1)).toNat) 1)))] (zs_put σ 67 0 0)
  refine zr_same (pc := 956) C 961 dL_law_956 (by decide) (zi_bb hv9) ?_
  refine hex k (zs_put σ 67 0 0) b q u p C (lw_km hk (by omega)) ?_
  exact rl_0 hR 0
