theorem by_fE {σ τ : zs_S} (hE : md_E σ τ) {n : Int} (w : Int64) : ∀ m : Nat, by_f τ n w m = by_f σ n w m
  | 0 => rfl
  | m + 1 => by
    rw [by_f, by_f, by_fE hE w m]
    cases by_f σ n w m with
    | none => rfl
    | some z =>
      obtain ⟨f, l⟩ := z
      have hb := by_b w (8 * (m : Int))
      by_cases h0 : by_c w (8 * (m : Int)) = 0
      · simp only [h0]
        rfl
      · have ev := md_Ev (n := n) (p := f + (by_c w (8 * (m : Int)) - 1) / 6) (j := (by_c w (8 * (m : Int)) - 1) % 6) hE ⟨by omega, by omega⟩
        by_cases h1 : bk_a σ n (f + (by_c w (8 * (m : Int)) - 1) / 6) ((by_c w (8 * (m : Int)) - 1) % 6)
        · simp only []
          rw [if_neg h0, if_neg h0, if_pos h1, if_pos (ev.1.mpr h1), ev.2.2.1]
        · simp only []
          rw [if_neg h0, if_neg h0, if_neg h1, if_neg (fun z => h1 (ev.1.mp z))]
theorem bk_SE {σ τ : zs_S} (hE : md_E σ τ) : ∀ {l : List (Int × Int)}, (∀ z ∈ l, 0 ≤ z.2 ∧ z.2 < 6) → bk_S τ l = bk_S σ l
  | [], _ => rfl
  | q :: r, h => by
    rw [bk_S, bk_S, bk_SE hE (fun z hz => h z (List.mem_cons_of_mem _ hz)), (md_Ev (n := 0) (p := q.1) hE (h q List.mem_cons_self)).2.1]
set_option maxRecDepth 20000 in
set_option maxHeartbeats 4000000 in
theorem l_bh0 {g : zg_G} {k : zk_T} {Q : Option Value → zs_S → Prop} (C : zk_ok g mX11_byHand k) (hr : zk_ret g mX11_byHand Q k) (n : Int) (w : Int64) (σ0 : zs_S) (hA : md_A σ0 n) (hQn : by_f σ0 n w 8 = none → Q (some (zv_i (-1))) σ0) (hex : ∀ f l, by_f σ0 n w 8 = some (f, l) → zw_W g mX11_byHand k 143 [(0, .ref (g.2.2.1 67)), (1, .long w), (4, zv_i 0)] [] σ0) : ∀ (N : Nat) (σ : zs_S) (m : Nat) (f : Int) (l : List (Int × Int)), 8 - m < N → (σ = σ0) → (m ≤ 8) → (by_f σ0 n w m = some (f, l)) → (0 ≤ f ∧ f ≤ n + 1) → zw_W g mX11_byHand k 35 [(0, .ref (g.2.2.1 67)), (1, .long w), (3, zv_i (bk_S σ l)), (4, zv_i 0), (5, zv_i f), (6, zv_i ((m : Int)))] [] σ := by
  intro N
  induction N with
  | zero =>
    intro σ m f l hN
    exact absurd hN (by omega)
  | succ N ih =>
    intro σ m f l hN hs hm hf hf0
    subst hs
    obtain ⟨hS, hK, hl, hd, hk, hc20, hdf, hgr⟩ := id hA
    obtain ⟨hn1, hn2, hlast, hd3, hd4⟩ := id hS
    have hE1 : md_E σ σ := md_Er σ
    have hbb := by_b w (8 * (m : Int))
    
    refine zr_iload (pc := 35) C dX11_byHand_35 5 rfl ?_
    refine zr_bipush (pc := 37) C dX11_byHand_37 (by decide) ?_
    refine zr_icmp_ge (pc := 39) C 143 dX11_byHand_39 (by decide) (by omega) (by omega) (fun h_1 => ?_) (fun h_1 => ?_)
    · refine zr_sub [0, 1, 3] rfl ?_
      exact hex f l (by rw [show (8 : Nat) = m by omega]; exact hf)
    · refine zr_lload_n (pc := 42) C dX11_byHand_42 1 rfl ?_
      refine zr_bipush (pc := 43) C dX11_byHand_43 (by decide) ?_
      refine zr_iload (pc := 45) C dX11_byHand_45 5 rfl ?_
      refine zr_imul (pc := 47) C dX11_byHand_47 ?_
      refine zr_byteM (pc := 48) C dX11_byHand_48 dX11_byHand_49 (zt_mem 810 (by decide +kernel) rfl) dX11_byHand_52 dX11_byHand_53 ?_
      refine zr_istore (L' := [(7, zv_i (by_c w (8 * ((m : Int))))), (0, .ref (g.2.2.1 67)), (1, .long w), (3, zv_i (bk_S σ l)), (4, zv_i 0), (5, zv_i f), (6, zv_i ((m : Int)))]) (pc := 54) C dX11_byHand_54 (by decide) rfl ?_
      refine zr_iload (pc := 56) C dX11_byHand_56 0 rfl ?_
      refine zr_if_ne (pc := 58) C 64 dX11_byHand_58 (by decide) (by omega) (fun h_2 => ?_) (fun h_2 => ?_)
      · have ev := md_Ev (n := n) (p := f + (by_c w (8 * (m : Int)) - 1) / 6) (j := (by_c w (8 * (m : Int)) - 1) % 6) hE1 ⟨by omega, by omega⟩
        refine zr_iload (pc := 64) C dX11_byHand_64 0 rfl ?_
        refine zr_iconst (pc := 66) C dX11_byHand_66 ?_
        refine zr_isub (pc := 67) C dX11_byHand_67 ?_
        refine zr_bipush (pc := 68) C dX11_byHand_68 (by decide) ?_
        refine zr_irem (pc := 70) C dX11_byHand_70 (by omega) (by omega) (by omega) (by omega) ?_
        refine zr_istore (L' := [(8, zv_i (((by_c w (8 * ((m : Int)))) - 1) % 6)), (7, zv_i (by_c w (8 * ((m : Int))))), (0, .ref (g.2.2.1 67)), (1, .long w), (3, zv_i (bk_S σ l)), (4, zv_i 0), (5, zv_i f), (6, zv_i ((m : Int)))]) (pc := 71) C dX11_byHand_71 (by decide) rfl ?_
        refine zr_iload (pc := 73) C dX11_byHand_73 6 rfl ?_
        refine zr_iload (pc := 75) C dX11_byHand_75 1 rfl ?_
        refine zr_iconst (pc := 77) C dX11_byHand_77 ?_
        refine zr_isub (pc := 78) C dX11_byHand_78 ?_
        refine zr_bipush (pc := 79) C dX11_byHand_79 (by decide) ?_
        refine zr_idiv (pc := 81) C dX11_byHand_81 (by omega) (by omega) (by omega) (by omega) ?_
        refine zr_iadd (pc := 82) C dX11_byHand_82 ?_
        refine zr_istore (L' := [(9, zv_i (f + (((by_c w (8 * ((m : Int)))) - 1) / 6))), (8, zv_i (((by_c w (8 * ((m : Int)))) - 1) % 6)), (7, zv_i (by_c w (8 * ((m : Int))))), (0, .ref (g.2.2.1 67)), (1, .long w), (3, zv_i (bk_S σ l)), (4, zv_i 0), (5, zv_i f), (6, zv_i ((m : Int)))]) (pc := 83) C dX11_byHand_83 (by decide) rfl ?_
        refine zr_aload_n (pc := 85) C dX11_byHand_85 3 rfl ?_
        refine zr_iload (pc := 86) C dX11_byHand_86 1 rfl ?_
        refine zr_iload (pc := 88) C dX11_byHand_88 0 rfl ?_
        refine zr_callV (As := [zv_i (((by_c w (8 * ((m : Int)))) - 1) % 6), zv_i (f + (((by_c w (8 * ((m : Int)))) - 1) / 6))]) (rest := []) (b := 67) (pc := 90) C dX11_byHand_90 kX11_isAllowed vX11_108 rfl (by decide) (by decide) (hs_67 _) rfl (Nat.le_of_ble_eq_true rfl) (n_allowed g σ n (((by_c w (8 * ((m : Int)))) - 1) % 6) (f + (((by_c w (8 * ((m : Int)))) - 1) / 6)) (by omega) (by omega) (by exact hA)) (fun v_ τ_ h_ => ?_)
        obtain ⟨rfl, rfl⟩ := h_
        show zw_W g mX11_byHand k 93 [(9, zv_i (f + (((by_c w (8 * ((m : Int)))) - 1) / 6))), (8, zv_i (((by_c w (8 * ((m : Int)))) - 1) % 6)), (7, zv_i (by_c w (8 * ((m : Int))))), (0, .ref (g.2.2.1 67)), (1, .long w), (3, zv_i (bk_S σ l)), (4, zv_i 0), (5, zv_i f), (6, zv_i ((m : Int)))] [zv_i (zi_b (bk_a σ n (f + (((by_c w (8 * ((m : Int)))) - 1) / 6)) (((by_c w (8 * ((m : Int)))) - 1) % 6)))] σ
        refine zr_if_ne_b (pc := 93) C 98 dX11_byHand_93 (by decide) (fun h_3 => ?_) (fun h_3 => ?_)
        · refine zr_iload_n (pc := 98) C dX11_byHand_98 5 rfl ?_
          refine zr_aload_n (pc := 99) C dX11_byHand_99 3 rfl ?_
          refine zr_iload (pc := 100) C dX11_byHand_100 1 rfl ?_
          refine zr_iload (pc := 102) C dX11_byHand_102 0 rfl ?_
          refine zr_callV (As := [zv_i (((by_c w (8 * ((m : Int)))) - 1) % 6), zv_i (f + (((by_c w (8 * ((m : Int)))) - 1) / 6))]) (rest := [zv_i (bk_S σ l)]) (b := 67) (pc := 104) C dX11_byHand_104 kX11_worth vX11_105 rfl (by decide) (by decide) (hs_67 _) rfl (Nat.le_of_ble_eq_true rfl) (n_worth g σ n (((by_c w (8 * ((m : Int)))) - 1) % 6) (f + (((by_c w (8 * ((m : Int)))) - 1) / 6)) (by omega) (by omega) (by exact hA) (by omega)) (fun v_ τ_ h_ => ?_)
          obtain ⟨rfl, rfl⟩ := h_
          show zw_W g mX11_byHand k 107 [(9, zv_i (f + (((by_c w (8 * ((m : Int)))) - 1) / 6))), (8, zv_i (((by_c w (8 * ((m : Int)))) - 1) % 6)), (7, zv_i (by_c w (8 * ((m : Int))))), (0, .ref (g.2.2.1 67)), (1, .long w), (3, zv_i (bk_S σ l)), (4, zv_i 0), (5, zv_i f), (6, zv_i ((m : Int)))] [zv_i (bk_v σ (f + (((by_c w (8 * ((m : Int)))) - 1) / 6)) (((by_c w (8 * ((m : Int)))) - 1) % 6)), zv_i (bk_S σ l)] σ
          refine zr_iadd (pc := 107) C dX11_byHand_107 ?_
          refine zr_istore_n (L' := [(3, zv_i ((bk_S σ l) + (bk_v σ (f + (((by_c w (8 * ((m : Int)))) - 1) / 6)) (((by_c w (8 * ((m : Int)))) - 1) % 6)))), (9, zv_i (f + (((by_c w (8 * ((m : Int)))) - 1) / 6))), (8, zv_i (((by_c w (8 * ((m : Int)))) - 1) % 6)), (7, zv_i (by_c w (8 * ((m : Int))))), (0, .ref (g.2.2.1 67)), (1, .long w), (4, zv_i 0), (5, zv_i f), (6, zv_i ((m : Int)))]) (pc := 108) C dX11_byHand_108 (by decide) rfl ?_
          refine zr_iload (pc := 109) C dX11_byHand_109 6 rfl ?_
          refine zr_iconst (pc := 111) C dX11_byHand_111 ?_
          refine zr_icmp_ne (pc := 112) C 123 dX11_byHand_112 (by decide) (by omega) (by omega) (fun h_4 => ?_) (fun h_4 => ?_)
          · refine zr_iload (pc := 123) C dX11_byHand_123 1 rfl ?_
            refine zr_aload_n (pc := 125) C dX11_byHand_125 4 rfl ?_
            refine zr_get (v := .ref (g.2.2.1 72)) (pc := 126) C 7 (some (some 72)) dX11_byHand_126 fX11_22 (by decide) (hs_67 _) rfl rfl ?_
            refine zr_iload (pc := 129) C dX11_byHand_129 2 rfl ?_
            refine zr_iaload (pc := 131) C dX11_byHand_131 (by decide) (hs_72 _) (by omega) (by decide) ?_
            refine zr_iadd (pc := 132) C dX11_byHand_132 ?_
            refine zr_iconst (pc := 133) C dX11_byHand_133 ?_
            refine zr_iadd (pc := 134) C dX11_byHand_134 ?_
            refine zr_istore (L' := [(5, zv_i (((f + (((by_c w (8 * ((m : Int)))) - 1) / 6)) + (σ 72 (((by_c w (8 * ((m : Int)))) - 1) % 6))) + 1)), (3, zv_i ((bk_S σ l) + (bk_v σ (f + (((by_c w (8 * ((m : Int)))) - 1) / 6)) (((by_c w (8 * ((m : Int)))) - 1) % 6)))), (9, zv_i (f + (((by_c w (8 * ((m : Int)))) - 1) / 6))), (8, zv_i (((by_c w (8 * ((m : Int)))) - 1) % 6)), (7, zv_i (by_c w (8 * ((m : Int))))), (0, .ref (g.2.2.1 67)), (1, .long w), (4, zv_i 0), (6, zv_i ((m : Int)))]) (pc := 135) C dX11_byHand_135 (by decide) rfl ?_
            refine zr_iinc (L' := [(6, zv_i (((m : Int)) + 1)), (5, zv_i (((f + (((by_c w (8 * ((m : Int)))) - 1) / 6)) + (σ 72 (((by_c w (8 * ((m : Int)))) - 1) % 6))) + 1)), (3, zv_i ((bk_S σ l) + (bk_v σ (f + (((by_c w (8 * ((m : Int)))) - 1) / 6)) (((by_c w (8 * ((m : Int)))) - 1) % 6)))), (9, zv_i (f + (((by_c w (8 * ((m : Int)))) - 1) / 6))), (8, zv_i (((by_c w (8 * ((m : Int)))) - 1) % 6)), (7, zv_i (by_c w (8 * ((m : Int))))), (0, .ref (g.2.2.1 67)), (1, .long w), (4, zv_i 0)]) (pc := 137) C dX11_byHand_137 8 rfl (by decide) rfl ?_
            refine zr_goto (pc := 140) C 35 dX11_byHand_140 (by decide) ?_
            have ha := ev.1.mp h_3
            have l1 : 0 < bk_n σ ((by_c w (8 * (m : Int)) - 1) % 6) := ha.1
            have l2 : f + (by_c w (8 * (m : Int)) - 1) / 6 + bk_n σ ((by_c w (8 * (m : Int)) - 1) % 6) ≤ n := ha.2.1
            have e72 : σ 72 ((by_c w (8 * (m : Int)) - 1) % 6) = bk_n σ ((by_c w (8 * (m : Int)) - 1) % 6) := (hk _ (by omega) (by omega)).1
            refine zr_sub [6, 7, 2, 8, 1, 0] rfl ?_
            rw [e72, ← bk_Sa]
            exact ih σ (m + 1) (f + (by_c w (8 * (m : Int)) - 1) / 6 + bk_n σ ((by_c w (8 * (m : Int)) - 1) % 6) + 1) (l ++ [(f + (by_c w (8 * (m : Int)) - 1) / 6, (by_c w (8 * (m : Int)) - 1) % 6)]) (by omega) rfl (by omega) (by_fy hf (by omega) ha) (by omega)
          · exact absurd h_4 (by omega)
        · refine zr_iconst (pc := 96) C dX11_byHand_96 ?_
          exact zr_iret (pc := 97) C hr dX11_byHand_97 rfl (hQn (by_f8 (by_fn hf (by omega) h_3) (by omega)))
      · refine zr_goto (pc := 61) C 137 dX11_byHand_61 (by decide) ?_
        refine zr_iinc (L' := [(6, zv_i (((m : Int)) + 1)), (7, zv_i (by_c w (8 * ((m : Int))))), (0, .ref (g.2.2.1 67)), (1, .long w), (3, zv_i (bk_S σ l)), (4, zv_i 0), (5, zv_i f)]) (pc := 137) C dX11_byHand_137 6 rfl (by decide) rfl ?_
        refine zr_goto (pc := 140) C 35 dX11_byHand_140 (by decide) ?_
        refine zr_sub [2, 3, 4, 5, 6, 0] rfl ?_
        exact ih σ (m + 1) f l (by omega) rfl (by omega) (by_f0 hf h_2) hf0

set_option maxRecDepth 20000 in
set_option maxHeartbeats 4000000 in
theorem l_bh1 {g : zg_G} {k : zk_T} {Q : Option Value → zs_S → Prop} (C : zk_ok g mX11_byHand k) (hr : zk_ret g mX11_byHand Q k) (n : Int) (w : Int64) (σ0 : zs_S) (hA : md_A σ0 n) (h8 : ¬ by_f σ0 n w 8 = none) (hex : ∀ σ1 f l, by_f σ0 n w 8 = some (f, l) → (zf_x σ0 σ1 [67, 75] ∧ (∀ y, y ≠ 0 → y ≠ 10 → σ1 67 y = σ0 67 y)) → σ1 67 10 = l.length → bk_R σ0 (σ1 75) l → bk_W σ0 n (n + 1) l → zw_W g mX11_byHand k 143 [(0, .ref (g.2.2.1 67)), (3, zv_i (bk_S σ0 l)), (4, zv_i 1)] [] σ1) : ∀ (N : Nat) (σ : zs_S) (m : Nat) (f : Int) (l : List (Int × Int)), 8 - m < N → (m ≤ 8) → (by_f σ0 n w m = some (f, l)) → (0 ≤ f ∧ f ≤ n + 1) → (zf_x σ0 σ [67, 75] ∧ (∀ y, y ≠ 0 → y ≠ 10 → σ 67 y = σ0 67 y)) → (σ 67 10 = l.length) → (bk_R σ0 (σ 75) l) → (bk_W σ0 n f l) → ((l.length : Int) ≤ m) → zw_W g mX11_byHand k 35 [(0, .ref (g.2.2.1 67)), (1, .long w), (3, zv_i (bk_S σ0 l)), (4, zv_i 1), (5, zv_i f), (6, zv_i ((m : Int)))] [] σ := by
  intro N
  induction N with
  | zero =>
    intro σ m f l hN
    exact absurd hN (by omega)
  | succ N ih =>
    intro σ m f l hN hm hf hf0 fr hc hR hW hll
    obtain ⟨hS, hK, hl, hd, hk, hc20, hdf, hgr⟩ := id hA
    obtain ⟨hn1, hn2, hlast, hd3, hd4⟩ := id hS
    have hA1 : md_A σ n := md_Ax hA (fun c hc y => fr.1 c (by simp; omega) y) (fr.2 1 (by decide) (by decide)) (fr.2 3 (by decide) (by decide))
    have hE1 : md_E σ0 σ := md_Ef (md_Er σ0) fr.1 (by simp)
    have hbb := by_b w (8 * (m : Int))
    
    refine zr_iload (pc := 35) C dX11_byHand_35 5 rfl ?_
    refine zr_bipush (pc := 37) C dX11_byHand_37 (by decide) ?_
    refine zr_icmp_ge (pc := 39) C 143 dX11_byHand_39 (by decide) (by omega) (by omega) (fun h_1 => ?_) (fun h_1 => ?_)
    · refine zr_sub [0, 2, 3] rfl ?_
      exact hex σ f l (by rw [show (8 : Nat) = m by omega]; exact hf) fr hc hR (bk_We hW (by omega))
    · refine zr_lload_n (pc := 42) C dX11_byHand_42 1 rfl ?_
      refine zr_bipush (pc := 43) C dX11_byHand_43 (by decide) ?_
      refine zr_iload (pc := 45) C dX11_byHand_45 5 rfl ?_
      refine zr_imul (pc := 47) C dX11_byHand_47 ?_
      refine zr_byteM (pc := 48) C dX11_byHand_48 dX11_byHand_49 (zt_mem 810 (by decide +kernel) rfl) dX11_byHand_52 dX11_byHand_53 ?_
      refine zr_istore (L' := [(7, zv_i (by_c w (8 * ((m : Int))))), (0, .ref (g.2.2.1 67)), (1, .long w), (3, zv_i (bk_S σ0 l)), (4, zv_i 1), (5, zv_i f), (6, zv_i ((m : Int)))]) (pc := 54) C dX11_byHand_54 (by decide) rfl ?_
      refine zr_iload (pc := 56) C dX11_byHand_56 0 rfl ?_
      refine zr_if_ne (pc := 58) C 64 dX11_byHand_58 (by decide) (by omega) (fun h_2 => ?_) (fun h_2 => ?_)
      · have ev := md_Ev (n := n) (p := f + (by_c w (8 * (m : Int)) - 1) / 6) (j := (by_c w (8 * (m : Int)) - 1) % 6) hE1 ⟨by omega, by omega⟩
        refine zr_iload (pc := 64) C dX11_byHand_64 0 rfl ?_
        refine zr_iconst (pc := 66) C dX11_byHand_66 ?_
        refine zr_isub (pc := 67) C dX11_byHand_67 ?_
        refine zr_bipush (pc := 68) C dX11_byHand_68 (by decide) ?_
        refine zr_irem (pc := 70) C dX11_byHand_70 (by omega) (by omega) (by omega) (by omega) ?_
        refine zr_istore (L' := [(8, zv_i (((by_c w (8 * ((m : Int)))) - 1) % 6)), (7, zv_i (by_c w (8 * ((m : Int))))), (0, .ref (g.2.2.1 67)), (1, .long w), (3, zv_i (bk_S σ0 l)), (4, zv_i 1), (5, zv_i f), (6, zv_i ((m : Int)))]) (pc := 71) C dX11_byHand_71 (by decide) rfl ?_
        refine zr_iload (pc := 73) C dX11_byHand_73 6 rfl ?_
        refine zr_iload (pc := 75) C dX11_byHand_75 1 rfl ?_
        refine zr_iconst (pc := 77) C dX11_byHand_77 ?_
        refine zr_isub (pc := 78) C dX11_byHand_78 ?_
        refine zr_bipush (pc := 79) C dX11_byHand_79 (by decide) ?_
        refine zr_idiv (pc := 81) C dX11_byHand_81 (by omega) (by omega) (by omega) (by omega) ?_
        refine zr_iadd (pc := 82) C dX11_byHand_82 ?_
        refine zr_istore (L' := [(9, zv_i (f + (((by_c w (8 * ((m : Int)))) - 1) / 6))), (8, zv_i (((by_c w (8 * ((m : Int)))) - 1) % 6)), (7, zv_i (by_c w (8 * ((m : Int))))), (0, .ref (g.2.2.1 67)), (1, .long w), (3, zv_i (bk_S σ0 l)), (4, zv_i 1), (5, zv_i f), (6, zv_i ((m : Int)))]) (pc := 83) C dX11_byHand_83 (by decide) rfl ?_
        refine zr_aload_n (pc := 85) C dX11_byHand_85 3 rfl ?_
        refine zr_iload (pc := 86) C dX11_byHand_86 1 rfl ?_
        refine zr_iload (pc := 88) C dX11_byHand_88 0 rfl ?_
        refine zr_callV (As := [zv_i (((by_c w (8 * ((m : Int)))) - 1) % 6), zv_i (f + (((by_c w (8 * ((m : Int)))) - 1) / 6))]) (rest := []) (b := 67) (pc := 90) C dX11_byHand_90 kX11_isAllowed vX11_108 rfl (by decide) (by decide) (hs_67 _) rfl (Nat.le_of_ble_eq_true rfl) (n_allowed g σ n (((by_c w (8 * ((m : Int)))) - 1) % 6) (f + (((by_c w (8 * ((m : Int)))) - 1) / 6)) (by omega) (by omega) (by exact hA1)) (fun v_ τ_ h_ => ?_)
        obtain ⟨rfl, rfl⟩ := h_
        show zw_W g mX11_byHand k 93 [(9, zv_i (f + (((by_c w (8 * ((m : Int)))) - 1) / 6))), (8, zv_i (((by_c w (8 * ((m : Int)))) - 1) % 6)), (7, zv_i (by_c w (8 * ((m : Int))))), (0, .ref (g.2.2.1 67)), (1, .long w), (3, zv_i (bk_S σ0 l)), (4, zv_i 1), (5, zv_i f), (6, zv_i ((m : Int)))] [zv_i (zi_b (bk_a σ n (f + (((by_c w (8 * ((m : Int)))) - 1) / 6)) (((by_c w (8 * ((m : Int)))) - 1) % 6)))] σ
        refine zr_if_ne_b (pc := 93) C 98 dX11_byHand_93 (by decide) (fun h_3 => ?_) (fun h_3 => ?_)
        · have ha := ev.1.mp h_3
          have l1 : 0 < bk_n σ0 ((by_c w (8 * (m : Int)) - 1) % 6) := ha.1
          have l2 : f + (by_c w (8 * (m : Int)) - 1) / 6 + bk_n σ0 ((by_c w (8 * (m : Int)) - 1) % 6) ≤ n := ha.2.1
          refine zr_iload_n (pc := 98) C dX11_byHand_98 5 rfl ?_
          refine zr_aload_n (pc := 99) C dX11_byHand_99 3 rfl ?_
          refine zr_iload (pc := 100) C dX11_byHand_100 1 rfl ?_
          refine zr_iload (pc := 102) C dX11_byHand_102 0 rfl ?_
          refine zr_callV (As := [zv_i (((by_c w (8 * ((m : Int)))) - 1) % 6), zv_i (f + (((by_c w (8 * ((m : Int)))) - 1) / 6))]) (rest := [zv_i (bk_S σ0 l)]) (b := 67) (pc := 104) C dX11_byHand_104 kX11_worth vX11_105 rfl (by decide) (by decide) (hs_67 _) rfl (Nat.le_of_ble_eq_true rfl) (n_worth g σ n (((by_c w (8 * ((m : Int)))) - 1) % 6) (f + (((by_c w (8 * ((m : Int)))) - 1) / 6)) (by omega) (by omega) (by exact hA1) (by exact h_3)) (fun v_ τ_ h_ => ?_)
          obtain ⟨rfl, rfl⟩ := h_
          show zw_W g mX11_byHand k 107 [(9, zv_i (f + (((by_c w (8 * ((m : Int)))) - 1) / 6))), (8, zv_i (((by_c w (8 * ((m : Int)))) - 1) % 6)), (7, zv_i (by_c w (8 * ((m : Int))))), (0, .ref (g.2.2.1 67)), (1, .long w), (3, zv_i (bk_S σ0 l)), (4, zv_i 1), (5, zv_i f), (6, zv_i ((m : Int)))] [zv_i (bk_v σ (f + (((by_c w (8 * ((m : Int)))) - 1) / 6)) (((by_c w (8 * ((m : Int)))) - 1) % 6)), zv_i (bk_S σ0 l)] σ
          refine zr_iadd (pc := 107) C dX11_byHand_107 ?_
          refine zr_istore_n (L' := [(3, zv_i ((bk_S σ0 l) + (bk_v σ (f + (((by_c w (8 * ((m : Int)))) - 1) / 6)) (((by_c w (8 * ((m : Int)))) - 1) % 6)))), (9, zv_i (f + (((by_c w (8 * ((m : Int)))) - 1) / 6))), (8, zv_i (((by_c w (8 * ((m : Int)))) - 1) % 6)), (7, zv_i (by_c w (8 * ((m : Int))))), (0, .ref (g.2.2.1 67)), (1, .long w), (4, zv_i 1), (5, zv_i f), (6, zv_i ((m : Int)))]) (pc := 108) C dX11_byHand_108 (by decide) rfl ?_
          refine zr_iload (pc := 109) C dX11_byHand_109 6 rfl ?_
          refine zr_iconst (pc := 111) C dX11_byHand_111 ?_
          refine zr_icmp_ne (pc := 112) C 123 dX11_byHand_112 (by decide) (by omega) (by omega) (fun h_4 => ?_) (fun h_4 => ?_)
          · exact absurd h_4 (by omega)
          · refine zr_aload_n (pc := 115) C dX11_byHand_115 4 rfl ?_
            refine zr_iload (pc := 116) C dX11_byHand_116 2 rfl ?_
            refine zr_iload (pc := 118) C dX11_byHand_118 1 rfl ?_
            refine zr_callV (As := [zv_i (((by_c w (8 * ((m : Int)))) - 1) % 6), zv_i (f + (((by_c w (8 * ((m : Int)))) - 1) / 6))]) (rest := []) (b := 67) (pc := 120) C dX11_byHand_120 kX11_add vX11_115 rfl (by decide) (by decide) (hs_67 _) rfl (Nat.le_of_ble_eq_true rfl) (n_add g σ n (((by_c w (8 * ((m : Int)))) - 1) % 6) (f + (((by_c w (8 * ((m : Int)))) - 1) / 6)) ((l.length : Int)) (by omega) (by omega) (by exact hA1) (by exact h_3) (by exact hc) (by omega)) (fun v_ τ_ h_ => ?_)
            obtain ⟨rfl, h_6⟩ := h_
            generalize τ_ = τ_5 at h_6 ⊢
            show zw_W g mX11_byHand k 123 [(3, zv_i ((bk_S σ0 l) + (bk_v σ (f + (((by_c w (8 * ((m : Int)))) - 1) / 6)) (((by_c w (8 * ((m : Int)))) - 1) % 6)))), (9, zv_i (f + (((by_c w (8 * ((m : Int)))) - 1) / 6))), (8, zv_i (((by_c w (8 * ((m : Int)))) - 1) % 6)), (7, zv_i (by_c w (8 * ((m : Int))))), (0, .ref (g.2.2.1 67)), (1, .long w), (4, zv_i 1), (5, zv_i f), (6, zv_i ((m : Int)))] [] τ_5
            refine zr_iload (pc := 123) C dX11_byHand_123 1 rfl ?_
            refine zr_aload_n (pc := 125) C dX11_byHand_125 4 rfl ?_
            refine zr_get (v := .ref (g.2.2.1 72)) (pc := 126) C 7 (some (some 72)) dX11_byHand_126 fX11_22 (by decide) (hs_67 _) rfl rfl ?_
            refine zr_iload (pc := 129) C dX11_byHand_129 2 rfl ?_
            refine zr_iaload (pc := 131) C dX11_byHand_131 (by decide) (hs_72 _) (by omega) (by decide) ?_
            refine zr_iadd (pc := 132) C dX11_byHand_132 ?_
            refine zr_iconst (pc := 133) C dX11_byHand_133 ?_
            refine zr_iadd (pc := 134) C dX11_byHand_134 ?_
            refine zr_istore (L' := [(5, zv_i (((f + (((by_c w (8 * ((m : Int)))) - 1) / 6)) + (τ_5 72 (((by_c w (8 * ((m : Int)))) - 1) % 6))) + 1)), (3, zv_i ((bk_S σ0 l) + (bk_v σ (f + (((by_c w (8 * ((m : Int)))) - 1) / 6)) (((by_c w (8 * ((m : Int)))) - 1) % 6)))), (9, zv_i (f + (((by_c w (8 * ((m : Int)))) - 1) / 6))), (8, zv_i (((by_c w (8 * ((m : Int)))) - 1) % 6)), (7, zv_i (by_c w (8 * ((m : Int))))), (0, .ref (g.2.2.1 67)), (1, .long w), (4, zv_i 1), (6, zv_i ((m : Int)))]) (pc := 135) C dX11_byHand_135 (by decide) rfl ?_
            refine zr_iinc (L' := [(6, zv_i (((m : Int)) + 1)), (5, zv_i (((f + (((by_c w (8 * ((m : Int)))) - 1) / 6)) + (τ_5 72 (((by_c w (8 * ((m : Int)))) - 1) % 6))) + 1)), (3, zv_i ((bk_S σ0 l) + (bk_v σ (f + (((by_c w (8 * ((m : Int)))) - 1) / 6)) (((by_c w (8 * ((m : Int)))) - 1) % 6)))), (9, zv_i (f + (((by_c w (8 * ((m : Int)))) - 1) / 6))), (8, zv_i (((by_c w (8 * ((m : Int)))) - 1) % 6)), (7, zv_i (by_c w (8 * ((m : Int))))), (0, .ref (g.2.2.1 67)), (1, .long w), (4, zv_i 1)]) (pc := 137) C dX11_byHand_137 8 rfl (by decide) rfl ?_
            refine zr_goto (pc := 140) C 35 dX11_byHand_140 (by decide) ?_
            obtain ⟨d1, d2, d3, d4, d5⟩ := h_6
            have e72 : τ_5 72 ((by_c w (8 * (m : Int)) - 1) % 6) = bk_n σ0 ((by_c w (8 * (m : Int)) - 1) % 6) := by rw [d5 72 (by decide), (hA1.2.2.2.2.1 _ (by omega) (by omega)).1]; exact ev.2.2.1
            refine zr_sub [6, 7, 2, 8, 1, 0] rfl ?_
            rw [e72, ev.2.1, ← bk_Sa]
            exact ih τ_5 (m + 1) (f + (by_c w (8 * (m : Int)) - 1) / 6 + bk_n σ0 ((by_c w (8 * (m : Int)) - 1) % 6) + 1) (l ++ [(f + (by_c w (8 * (m : Int)) - 1) / 6, (by_c w (8 * (m : Int)) - 1) % 6)]) (by omega) (by omega) (by_fy hf (by omega) ha) (by omega) ⟨zf_t fr.1 d5 (by simp) (by simp), fun y y1 y2 => by rw [d4 y y2]; exact fr.2 y y1 y2⟩ (by rw [d1, List.length_append]; simp) (bk_Ra hR (fun j y1 y2 => d2 j y2) (by
              obtain ⟨z0, z1, z2, z3, z4, z5⟩ := d3
              exact ⟨z0, z1, by rw [z2, ev.2.2.2.1], by rw [z3, ev.2.2.2.1], by rw [z4, ev.2.2.2.2], by rw [z5, ev.2.1]⟩)) (bk_Wa hW (by omega) ⟨by omega, by omega, ⟨by omega, by omega⟩, ha⟩) (by rw [List.length_append]; simp; omega)
        · exact absurd (by_f8 (by_fn hf (by omega) (fun z => h_3 (ev.1.mpr z))) (by omega)) h8
      · refine zr_goto (pc := 61) C 137 dX11_byHand_61 (by decide) ?_
        refine zr_iinc (L' := [(6, zv_i (((m : Int)) + 1)), (7, zv_i (by_c w (8 * ((m : Int))))), (0, .ref (g.2.2.1 67)), (1, .long w), (3, zv_i (bk_S σ0 l)), (4, zv_i 1), (5, zv_i f)]) (pc := 137) C dX11_byHand_137 6 rfl (by decide) rfl ?_
        refine zr_goto (pc := 140) C 35 dX11_byHand_140 (by decide) ?_
        refine zr_sub [2, 3, 4, 5, 6, 0] rfl ?_
        exact ih σ (m + 1) f l (by omega) (by omega) (by_f0 hf h_2) hf0 fr hc hR hW (by omega)

set_option maxRecDepth 20000 in
set_option maxHeartbeats 4000000 in
theorem n_byHand (g : zg_G) (σ : zs_S) (n : Int) (w : Int64) (hA : md_A σ n) : zm_Met g mX11_byHand σ [.ref (g.2.2.1 67), .long w] (fun v τ => (by_f σ n w 8 = none → v = some (zv_i (-1)) ∧ zf_x σ τ [67] ∧ (∀ y, y ≠ 0 → τ 67 y = σ 67 y)) ∧ (∀ f l, by_f σ n w 8 = some (f, l) → v = some (zv_i (bk_S σ l)) ∧ (zf_x σ τ [67, 75] ∧ (∀ y, y ≠ 0 → y ≠ 10 → τ 67 y = σ 67 y)) ∧ τ 67 10 = l.length ∧ bk_R σ (τ 75) l ∧ bk_W σ n (n + 1) l)) := by
  refine zm_of (by decide +kernel) (Nat.le_of_ble_eq_true rfl) ?_
  intro k C hr
  show zw_W g mX11_byHand k 0 [(0, .ref (g.2.2.1 67)), (1, .long w)] [] σ
  obtain ⟨hS, hK, hl, hd, hk, hc20, hdf, hgr⟩ := id hA
  obtain ⟨hn1, hn2, hlast, hd3, hd4⟩ := id hS
  refine zr_aload_n (pc := 0) C dX11_byHand_0 0 rfl ?_
  refine zr_iconst (pc := 1) C dX11_byHand_1 ?_
  refine zr_put (pc := 2) C 0 0 rfl dX11_byHand_2 pX11_84 (by decide) (hs_67 _) rfl (fun τ_1 e_2 => ?_)
  have fr0 : zf_x σ τ_1 [67] ∧ (∀ y, y ≠ 0 → τ_1 67 y = σ 67 y) := ⟨zf_p (zf_r σ _) e_2 (by decide), fun y hy => by rw [e_2, zs_put_off hy]⟩
  have hE0 : md_E σ τ_1 := md_Ef (md_Er σ) fr0.1 (by simp)
  have hA0 : md_A τ_1 n := md_Ap hA e_2 (by omega)
  have hB0 := by_fE hE0 (n := n) w 8
  refine zr_iconst (pc := 5) C dX11_byHand_5 ?_
  refine zr_istore_n (L' := [(3, zv_i 0), (0, .ref (g.2.2.1 67)), (1, .long w)]) (pc := 6) C dX11_byHand_6 (by decide) rfl ?_
  refine zr_iconst (pc := 7) C dX11_byHand_7 ?_
  refine zr_istore (L' := [(4, zv_i 0), (3, zv_i 0), (0, .ref (g.2.2.1 67)), (1, .long w)]) (pc := 8) C dX11_byHand_8 (by decide) rfl ?_
  refine zr_iload (pc := 10) C dX11_byHand_10 0 rfl ?_
  refine zr_iconst (pc := 12) C dX11_byHand_12 ?_
  refine zr_icmp_ge (pc := 13) C 149 dX11_byHand_13 (by decide) (by omega) (by omega) (fun h_3 => ?_) (fun h_3 => ?_)
  · exact absurd h_3 (by omega)
  · refine zr_iload (pc := 16) C dX11_byHand_16 0 rfl ?_
    refine zr_iconst (pc := 18) C dX11_byHand_18 ?_
    refine zr_icmp_ne (pc := 19) C 27 dX11_byHand_19 (by decide) (by omega) (by omega) (fun h_4 => ?_) (fun h_4 => ?_)
    · refine zr_iconst (pc := 27) C dX11_byHand_27 ?_
      refine zr_istore (L' := [(5, zv_i 0), (4, zv_i 0), (3, zv_i 0), (0, .ref (g.2.2.1 67)), (1, .long w)]) (pc := 28) C dX11_byHand_28 (by decide) rfl ?_
      refine zr_iconst (pc := 30) C dX11_byHand_30 ?_
      refine zr_istore_n (L' := [(3, zv_i 0), (5, zv_i 0), (4, zv_i 0), (0, .ref (g.2.2.1 67)), (1, .long w)]) (pc := 31) C dX11_byHand_31 (by decide) rfl ?_
      refine zr_iconst (pc := 32) C dX11_byHand_32 ?_
      refine zr_istore (L' := [(6, zv_i 0), (3, zv_i 0), (5, zv_i 0), (4, zv_i 0), (0, .ref (g.2.2.1 67)), (1, .long w)]) (pc := 33) C dX11_byHand_33 (by decide) rfl ?_
      refine zr_sub [4, 5, 1, 3, 2, 0] rfl ?_
      refine l_bh0 C hr n w τ_1 hA0 (fun h1 => ⟨fun _ => ⟨rfl, fr0⟩, fun f l h => (by rw [hB0, h] at h1; cases h1)⟩) (fun f1 l1 h1 => ?_) 9 τ_1 0 0 [] (by omega) rfl (by omega) rfl (by omega)
      refine zr_iinc (L' := [(4, zv_i (0 + 1)), (0, .ref (g.2.2.1 67)), (1, .long w)]) (pc := 143) C dX11_byHand_143 2 rfl (by decide) rfl ?_
      refine zr_goto (pc := 146) C 10 dX11_byHand_146 (by decide) ?_
      refine zr_iload (pc := 10) C dX11_byHand_10 0 rfl ?_
      refine zr_iconst (pc := 12) C dX11_byHand_12 ?_
      refine zr_icmp_ge (pc := 13) C 149 dX11_byHand_13 (by decide) (by omega) (by omega) (fun h_101 => ?_) (fun h_101 => ?_)
      · exact absurd h_101 (by omega)
      · refine zr_iload (pc := 16) C dX11_byHand_16 0 rfl ?_
        refine zr_iconst (pc := 18) C dX11_byHand_18 ?_
        refine zr_icmp_ne (pc := 19) C 27 dX11_byHand_19 (by decide) (by omega) (by omega) (fun h_102 => ?_) (fun h_102 => ?_)
        · exact absurd h_102 (by omega)
        · refine zr_aload_n (pc := 22) C dX11_byHand_22 1 rfl ?_
          refine zr_iconst (pc := 23) C dX11_byHand_23 ?_
          refine zr_put (pc := 24) C 10 10 rfl dX11_byHand_24 pX11_102 (by decide) (hs_67 _) rfl (fun τ_103 e_104 => ?_)
          refine zr_iconst (pc := 27) C dX11_byHand_27 ?_
          refine zr_istore (L' := [(5, zv_i 0), (4, zv_i (0 + 1)), (0, .ref (g.2.2.1 67)), (1, .long w)]) (pc := 28) C dX11_byHand_28 (by decide) rfl ?_
          refine zr_iconst (pc := 30) C dX11_byHand_30 ?_
          refine zr_istore_n (L' := [(3, zv_i 0), (5, zv_i 0), (4, zv_i (0 + 1)), (0, .ref (g.2.2.1 67)), (1, .long w)]) (pc := 31) C dX11_byHand_31 (by decide) rfl ?_
          refine zr_iconst (pc := 32) C dX11_byHand_32 ?_
          refine zr_istore (L' := [(6, zv_i 0), (3, zv_i 0), (5, zv_i 0), (4, zv_i (0 + 1)), (0, .ref (g.2.2.1 67)), (1, .long w)]) (pc := 33) C dX11_byHand_33 (by decide) rfl ?_
          refine zr_sub [4, 5, 1, 3, 2, 0] rfl ?_
          refine l_bh1 C hr n w τ_1 hA0 (fun z => by rw [z] at h1; cases h1) (fun σ1 f l q1 q2 q3 q4 q5 => ?_) 9 τ_103 0 0 [] (by omega) (by omega) rfl (by omega) ⟨zf_p (zf_r τ_1 _) e_104 (by decide), fun y y1 y2 => by rw [e_104, zs_put_off y2]⟩ (by rw [e_104, zs_put_self]; rfl) (fun j p q h => by simp at h) (fun z hz9 => by simp at hz9) (by simp)
          refine zr_iinc (L' := [(4, zv_i (1 + 1)), (0, .ref (g.2.2.1 67)), (3, zv_i (bk_S τ_1 l))]) (pc := 143) C dX11_byHand_143 2 rfl (by decide) rfl ?_
          refine zr_goto (pc := 146) C 10 dX11_byHand_146 (by decide) ?_
          refine zr_iload (pc := 10) C dX11_byHand_10 0 rfl ?_
          refine zr_iconst (pc := 12) C dX11_byHand_12 ?_
          refine zr_icmp_ge (pc := 13) C 149 dX11_byHand_13 (by decide) (by omega) (by omega) (fun h_201 => ?_) (fun h_201 => ?_)
          · refine zr_iload_n (pc := 149) C dX11_byHand_149 2 rfl ?_
            exact zr_iret (pc := 150) C hr dX11_byHand_150 rfl (by
              rw [hB0] at q1
              refine ⟨fun h => (by rw [h] at q1; cases q1), fun f' l' h => ?_⟩
              rw [h] at q1
              cases q1
              exact ⟨zq_i (bk_SE hE0 (fun z hz9 => (q5 z hz9).2.2.1)), ⟨zf_t fr0.1 q2.1 (by simp) (by simp), fun y y1 y2 => by rw [q2.2 y y1 y2, fr0.2 y y1]⟩, q3, bk_Rv q4 (fun z hz9 => (q5 z hz9).2.2.1) hE0, fun z hz9 => by obtain ⟨y1, y2, y3, y4⟩ := q5 z hz9; exact ⟨y1, y2, y3, (md_Ev (n := n) hE0 y3).1.mp y4⟩⟩)
          · exact absurd h_201 (by omega)
    · exact absurd h_4 (by omega)
