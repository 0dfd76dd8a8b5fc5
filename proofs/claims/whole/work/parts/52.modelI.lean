set_option maxRecDepth 20000 in
set_option maxHeartbeats 4000000 in
theorem n_layC (g : zg_G) (σ : zs_S) (st : Int → Int) (gp : Int) (hgp : (0 ≤ gp ∧ gp ≤ 100) ∧ σ 67 17 = gp) (hst : ∀ k : Int, 0 ≤ k → k < 6 → σ 76 k + gp = st k) (ch h : Int) (hh : (0 ≤ ch ∧ ch < 4) ∧ σ 80 ch = h ∧ 0 < h ∧ h ≤ 5000) (l1 l2 : List Int) (hb1 : bo_A (σ 87) 0 l1) (hb2 : bo_A (σ 87) 300 l2) (hm1 : ∀ x ∈ l1, 0 ≤ x ∧ x < 6) (hm2 : ∀ x ∈ l2, (0 ≤ x ∧ x < 6) ∧ 50 + gp ≤ st x ∧ st x ≤ 4100) (hl1 : (l1.length : Int) ≤ 200) (hl2 : (l2.length : Int) ≤ 200) : zm_Met g mX11_lay σ [.ref (g.2.2.1 67), zv_i ch] (fun v τ => v = none ∧ τ 67 21 = h ∧ τ 67 20 = (bo_T st gp h l1 l2).length ∧ bo_R (τ 83) (σ 84) (bo_T st gp h l1 l2) ∧ zf_x σ τ [67, 83] ∧ ∀ y, y ≠ 20 → y ≠ 21 → τ 67 y = σ 67 y) := by
  refine zm_of (by decide +kernel) (Nat.le_of_ble_eq_true rfl) ?_
  intro k C hr
  show zw_W g mX11_lay k 0 [(0, .ref (g.2.2.1 67)), (1, zv_i ch)] [] σ
  refine zr_aload_n (pc := 0) C dX11_lay_0 0 rfl ?_
  refine zr_iconst (pc := 1) C dX11_lay_1 ?_
  refine zr_put (pc := 2) C 20 20 rfl dX11_lay_2 pX11_155 (by decide) (hs_67 _) rfl (fun τ_1 e_2 => ?_)
  refine zr_aload_n (pc := 5) C dX11_lay_5 0 rfl ?_
  refine zr_iload_n (pc := 6) C dX11_lay_6 1 rfl ?_
  refine zr_iconst (pc := 7) C dX11_lay_7 ?_
  refine zr_icmp_ge (pc := 8) C 20 dX11_lay_8 (by decide) (by omega) (by omega) (fun h_3 => ?_) (fun h_3 => ?_)
  · exact absurd h_3 (by omega)
  · refine zr_aload_n (pc := 11) C dX11_lay_11 0 rfl ?_
    refine zr_get (v := .ref (g.2.2.1 80)) (pc := 12) C 16 (some (some 80)) dX11_lay_12 fX11_46 (by decide) (hs_67 _) rfl rfl ?_
    refine zr_iload_n (pc := 15) C dX11_lay_15 1 rfl ?_
    refine zr_iaload (pc := 16) C dX11_lay_16 (by decide) (hs_80 _) (by omega) (by decide) ?_
    refine zr_goto (pc := 17) C 21 dX11_lay_17 (by decide) ?_
    refine zr_put (pc := 21) C 21 21 rfl dX11_lay_21 pX11_81 (by decide) (hs_67 _) rfl (fun τ_4 e_5 => ?_)
    have frc : zf_x σ τ_4 [67, 83] := zf_p (zf_p (zf_r σ _) e_2 (by decide)) e_5 (by decide)
    have f67 : ∀ y, y ≠ 20 → y ≠ 21 → τ_4 67 y = σ 67 y := fun y y1 y2 => by rw [e_5, zs_put_off y2, e_2, zs_put_off y1]
    have c20 : τ_4 67 20 = 0 := by rw [e_5, zs_put_off (by decide), e_2, zs_put_self]
    have c21 : τ_4 67 21 = h := by rw [e_5, zs_put_self, e_2, zs_put_ne (by decide)]; exact hh.2.1
    have b1' : bo_A (τ_4 87) 0 l1 := by rw [show τ_4 87 = σ 87 from funext (frc 87 (by decide))]; exact hb1
    have b2' : bo_A (τ_4 87) 300 l2 := by rw [show τ_4 87 = σ 87 from funext (frc 87 (by decide))]; exact hb2
    have gp' : (0 ≤ gp ∧ gp ≤ 100) ∧ τ_4 67 17 = gp := ⟨hgp.1, by rw [f67 17 (by decide) (by decide)]; exact hgp.2⟩
    have st' : ∀ k : Int, 0 ≤ k → k < 6 → τ_4 76 k + gp = st k := fun k k1 k2 => by rw [frc 76 (by decide)]; exact hst k k1 k2
    refine zr_iconst (pc := 24) C dX11_lay_24 ?_
    refine zr_istore_n (L' := [(2, zv_i 0), (0, .ref (g.2.2.1 67)), (1, zv_i ch)]) (pc := 25) C dX11_lay_25 (by decide) rfl ?_
    refine zr_iconst (pc := 26) C dX11_lay_26 ?_
    refine zr_istore_n (L' := [(3, zv_i 0), (2, zv_i 0), (0, .ref (g.2.2.1 67)), (1, zv_i ch)]) (pc := 27) C dX11_lay_27 (by decide) rfl ?_
    refine zr_sub [2, 3, 1, 0] rfl ?_
    refine l_layR C hr st gp τ_4 gp' st' ch l1 b1' hm1 (by omega) (fun σ1 f1 n1 R1 => ?_) (l1.length + 1) τ_4 [] l1 (by omega) rfl ⟨zf_r _ _, fun _ _ => rfl⟩ (by rw [c20]; rfl) (fun i k w x hi => by simp [bo_r] at hi)
    refine zr_iconst (pc := 74) C dX11_lay_74 ?_
    refine zr_istore_n (L' := [(3, zv_i 1), (0, .ref (g.2.2.1 67)), (1, zv_i ch)]) (pc := 75) C dX11_lay_75 (by decide) rfl ?_
    refine zr_iload_n (pc := 76) C dX11_lay_76 0 rfl ?_
    refine zr_iload_n (pc := 77) C dX11_lay_77 2 rfl ?_
    refine zr_iconst (pc := 78) C dX11_lay_78 ?_
    refine zr_icmp_ge (pc := 79) C 86 dX11_lay_79 (by decide) (by omega) (by omega) (fun h_101 => ?_) (fun h_101 => ?_)
    · exact absurd h_101 (by omega)
    · refine zr_iconst (pc := 82) C dX11_lay_82 ?_
      refine zr_goto (pc := 83) C 87 dX11_lay_83 (by decide) ?_
      refine zr_icmp_ge (pc := 87) C 183 dX11_lay_87 (by decide) (by omega) (by omega) (fun h_102 => ?_) (fun h_102 => ?_)
      · exact absurd h_102 (by omega)
      · refine zr_iload_n (pc := 90) C dX11_lay_90 2 rfl ?_
        refine zr_iconst (pc := 91) C dX11_lay_91 ?_
        refine zr_icmp_ge (pc := 92) C 104 dX11_lay_92 (by decide) (by omega) (by omega) (fun h_103 => ?_) (fun h_103 => ?_)
        · exact absurd h_103 (by omega)
        · refine zr_aload_n (pc := 95) C dX11_lay_95 1 rfl ?_
          refine zr_get (v := .ref (g.2.2.1 80)) (pc := 96) C 16 (some (some 80)) dX11_lay_96 fX11_46 (by decide) (hs_67 _) rfl rfl ?_
          refine zr_iload_n (pc := 99) C dX11_lay_99 2 rfl ?_
          refine zr_iaload (pc := 100) C dX11_lay_100 (by decide) (hs_80 _) (by omega) (by decide) ?_
          have e80 : σ1 80 ch = h := by rw [f1.1 80 (by decide), frc 80 (by decide)]; exact hh.2.1
          rw [e80]
          refine zr_goto (pc := 101) C 105 dX11_lay_101 (by decide) ?_
          refine zr_istore (L' := [(4, zv_i h), (3, zv_i 1), (0, .ref (g.2.2.1 67)), (1, zv_i ch)]) (pc := 105) C dX11_lay_105 (by decide) rfl ?_
          refine zr_sipush (pc := 107) C dX11_lay_107 (by decide) ?_
          refine zr_istore (L' := [(5, zv_i 300), (4, zv_i h), (3, zv_i 1), (0, .ref (g.2.2.1 67)), (1, zv_i ch)]) (pc := 110) C dX11_lay_110 (by decide) rfl ?_
          refine zr_sub [3, 4, 2, 1, 0] rfl ?_
          refine l_layS C hr st gp τ_4 gp' st' ch 1 h h (bo_r st l1 0) (by rw [bo_rl]; omega) (Or.inl ⟨rfl, by omega, by omega⟩) l2 b2' hm2 hl2 (fun σ2 f2 n2 R2 => ?_) (l2.length + 1) σ1 [] l2 (h) (by omega) rfl f1 (Or.inl ⟨rfl, rfl⟩) (by rw [n1]; simp [bo_s, bo_rl]) (by simpa [bo_s] using R1) ⟨by simp [ch_t], by simp [ch_t]⟩
          refine zr_iinc (L' := [(3, zv_i (1 + 1)), (0, .ref (g.2.2.1 67)), (1, zv_i ch)]) (pc := 177) C dX11_lay_177 2 rfl (by decide) rfl ?_
          refine zr_goto (pc := 180) C 76 dX11_lay_180 (by decide) ?_
          refine zr_iload_n (pc := 76) C dX11_lay_76 0 rfl ?_
          refine zr_iload_n (pc := 77) C dX11_lay_77 2 rfl ?_
          refine zr_iconst (pc := 78) C dX11_lay_78 ?_
          refine zr_icmp_ge (pc := 79) C 86 dX11_lay_79 (by decide) (by omega) (by omega) (fun h_201 => ?_) (fun h_201 => ?_)
          · exact absurd h_201 (by omega)
          · refine zr_iconst (pc := 82) C dX11_lay_82 ?_
            refine zr_goto (pc := 83) C 87 dX11_lay_83 (by decide) ?_
            refine zr_icmp_ge (pc := 87) C 183 dX11_lay_87 (by decide) (by omega) (by omega) (fun h_202 => ?_) (fun h_202 => ?_)
            · exact absurd h_202 (by omega)
            · refine zr_iload_n (pc := 90) C dX11_lay_90 2 rfl ?_
              refine zr_iconst (pc := 91) C dX11_lay_91 ?_
              refine zr_icmp_ge (pc := 92) C 104 dX11_lay_92 (by decide) (by omega) (by omega) (fun h_203 => ?_) (fun h_203 => ?_)
              · exact absurd h_203 (by omega)
              · refine zr_aload_n (pc := 95) C dX11_lay_95 1 rfl ?_
                refine zr_get (v := .ref (g.2.2.1 80)) (pc := 96) C 16 (some (some 80)) dX11_lay_96 fX11_46 (by decide) (hs_67 _) rfl rfl ?_
                refine zr_iload_n (pc := 99) C dX11_lay_99 2 rfl ?_
                refine zr_iaload (pc := 100) C dX11_lay_100 (by decide) (hs_80 _) (by omega) (by decide) ?_
                have e80b : σ2 80 ch = h := by rw [f2.1 80 (by decide), frc 80 (by decide)]; exact hh.2.1
                rw [e80b]
                refine zr_goto (pc := 101) C 105 dX11_lay_101 (by decide) ?_
                refine zr_istore (L' := [(4, zv_i h), (3, zv_i (1 + 1)), (0, .ref (g.2.2.1 67)), (1, zv_i ch)]) (pc := 105) C dX11_lay_105 (by decide) rfl ?_
                refine zr_sipush (pc := 107) C dX11_lay_107 (by decide) ?_
                refine zr_istore (L' := [(5, zv_i 300), (4, zv_i h), (3, zv_i (1 + 1)), (0, .ref (g.2.2.1 67)), (1, zv_i ch)]) (pc := 110) C dX11_lay_110 (by decide) rfl ?_
                refine zr_sub [3, 4, 2, 1, 0] rfl ?_
                rw [show (1 : Int) + 1 = 2 from rfl]
                refine l_layS C hr st gp τ_4 gp' st' ch 2 h h (bo_r st l1 0 ++ bo_s st 1 h l2 0) (by rw [List.length_append, bo_rl, bo_sl]; omega) (Or.inl ⟨rfl, by omega, by omega⟩) l2 b2' hm2 hl2 (fun σ3 f3 n3 R3 => ?_) (l2.length + 1) σ2 [] l2 (h) (by omega) rfl f2 (Or.inl ⟨rfl, rfl⟩) (by rw [n2]; simp [bo_s]) (by simpa [bo_s] using R2) ⟨by simp [ch_t], by simp [ch_t]⟩
                refine zr_iinc (L' := [(3, zv_i (2 + 1)), (0, .ref (g.2.2.1 67)), (1, zv_i ch)]) (pc := 177) C dX11_lay_177 2 rfl (by decide) rfl ?_
                refine zr_goto (pc := 180) C 76 dX11_lay_180 (by decide) ?_
                refine zr_iload_n (pc := 76) C dX11_lay_76 0 rfl ?_
                refine zr_iload_n (pc := 77) C dX11_lay_77 2 rfl ?_
                refine zr_iconst (pc := 78) C dX11_lay_78 ?_
                refine zr_icmp_ge (pc := 79) C 86 dX11_lay_79 (by decide) (by omega) (by omega) (fun h_301 => ?_) (fun h_301 => ?_)
                · exact absurd h_301 (by omega)
                · refine zr_iconst (pc := 82) C dX11_lay_82 ?_
                  refine zr_goto (pc := 83) C 87 dX11_lay_83 (by decide) ?_
                  refine zr_icmp_ge (pc := 87) C 183 dX11_lay_87 (by decide) (by omega) (by omega) (fun h_302 => ?_) (fun h_302 => ?_)
                  · exact zr_vret (pc := 183) C hr dX11_lay_183 rfl (⟨rfl, by rw [f3.2 21 (by decide)]; exact c21, by rw [bo_T2 (by omega)]; exact n3, by rw [bo_T2 (by omega), ← show τ_4 84 = σ 84 from funext (frc 84 (by decide))]; exact R3, zf_t frc f3.1 (by simp) (by simp), fun y y1 y2 => by rw [f3.2 y y1, f67 y y1 y2]⟩)
                  · exact absurd h_302 (by omega)

set_option maxRecDepth 20000 in
set_option maxHeartbeats 4000000 in
theorem n_layN (g : zg_G) (σ : zs_S) (st : Int → Int) (gp : Int) (hgp : (0 ≤ gp ∧ gp ≤ 100) ∧ σ 67 17 = gp) (hst : ∀ k : Int, 0 ≤ k → k < 6 → σ 76 k + gp = st k) (ch h : Int) (hh : ch = 4 ∧ h = -1) (l1 l2 : List Int) (hb1 : bo_A (σ 87) 0 l1) (hb2 : bo_A (σ 87) 300 l2) (hm1 : ∀ x ∈ l1, 0 ≤ x ∧ x < 6) (hm2 : ∀ x ∈ l2, (0 ≤ x ∧ x < 6) ∧ 50 + gp ≤ st x ∧ st x ≤ 4100) (hl1 : (l1.length : Int) ≤ 200) (hl2 : (l2.length : Int) ≤ 200) : zm_Met g mX11_lay σ [.ref (g.2.2.1 67), zv_i ch] (fun v τ => v = none ∧ τ 67 21 = h ∧ τ 67 20 = (bo_T st gp h l1 l2).length ∧ bo_R (τ 83) (σ 84) (bo_T st gp h l1 l2) ∧ zf_x σ τ [67, 83] ∧ ∀ y, y ≠ 20 → y ≠ 21 → τ 67 y = σ 67 y) := by
  refine zm_of (by decide +kernel) (Nat.le_of_ble_eq_true rfl) ?_
  intro k C hr
  show zw_W g mX11_lay k 0 [(0, .ref (g.2.2.1 67)), (1, zv_i ch)] [] σ
  refine zr_aload_n (pc := 0) C dX11_lay_0 0 rfl ?_
  refine zr_iconst (pc := 1) C dX11_lay_1 ?_
  refine zr_put (pc := 2) C 20 20 rfl dX11_lay_2 pX11_155 (by decide) (hs_67 _) rfl (fun τ_1 e_2 => ?_)
  refine zr_aload_n (pc := 5) C dX11_lay_5 0 rfl ?_
  refine zr_iload_n (pc := 6) C dX11_lay_6 1 rfl ?_
  refine zr_iconst (pc := 7) C dX11_lay_7 ?_
  refine zr_icmp_ge (pc := 8) C 20 dX11_lay_8 (by decide) (by omega) (by omega) (fun h_3 => ?_) (fun h_3 => ?_)
  · refine zr_iconst (pc := 20) C dX11_lay_20 ?_
    refine zr_put (pc := 21) C 21 21 rfl dX11_lay_21 pX11_81 (by decide) (hs_67 _) rfl (fun τ_4 e_5 => ?_)
    have frc : zf_x σ τ_4 [67, 83] := zf_p (zf_p (zf_r σ _) e_2 (by decide)) e_5 (by decide)
    have f67 : ∀ y, y ≠ 20 → y ≠ 21 → τ_4 67 y = σ 67 y := fun y y1 y2 => by rw [e_5, zs_put_off y2, e_2, zs_put_off y1]
    have c20 : τ_4 67 20 = 0 := by rw [e_5, zs_put_off (by decide), e_2, zs_put_self]
    have c21 : τ_4 67 21 = h := by rw [e_5, zs_put_self]; exact hh.2.symm
    have b1' : bo_A (τ_4 87) 0 l1 := by rw [show τ_4 87 = σ 87 from funext (frc 87 (by decide))]; exact hb1
    have b2' : bo_A (τ_4 87) 300 l2 := by rw [show τ_4 87 = σ 87 from funext (frc 87 (by decide))]; exact hb2
    have gp' : (0 ≤ gp ∧ gp ≤ 100) ∧ τ_4 67 17 = gp := ⟨hgp.1, by rw [f67 17 (by decide) (by decide)]; exact hgp.2⟩
    have st' : ∀ k : Int, 0 ≤ k → k < 6 → τ_4 76 k + gp = st k := fun k k1 k2 => by rw [frc 76 (by decide)]; exact hst k k1 k2
    refine zr_iconst (pc := 24) C dX11_lay_24 ?_
    refine zr_istore_n (L' := [(2, zv_i 0), (0, .ref (g.2.2.1 67)), (1, zv_i ch)]) (pc := 25) C dX11_lay_25 (by decide) rfl ?_
    refine zr_iconst (pc := 26) C dX11_lay_26 ?_
    refine zr_istore_n (L' := [(3, zv_i 0), (2, zv_i 0), (0, .ref (g.2.2.1 67)), (1, zv_i ch)]) (pc := 27) C dX11_lay_27 (by decide) rfl ?_
    refine zr_sub [2, 3, 1, 0] rfl ?_
    refine l_layR C hr st gp τ_4 gp' st' ch l1 b1' hm1 (by omega) (fun σ1 f1 n1 R1 => ?_) (l1.length + 1) τ_4 [] l1 (by omega) rfl ⟨zf_r _ _, fun _ _ => rfl⟩ (by rw [c20]; rfl) (fun i k w x hi => by simp [bo_r] at hi)
    refine zr_iconst (pc := 74) C dX11_lay_74 ?_
    refine zr_istore_n (L' := [(3, zv_i 1), (0, .ref (g.2.2.1 67)), (1, zv_i ch)]) (pc := 75) C dX11_lay_75 (by decide) rfl ?_
    refine zr_iload_n (pc := 76) C dX11_lay_76 0 rfl ?_
    refine zr_iload_n (pc := 77) C dX11_lay_77 2 rfl ?_
    refine zr_iconst (pc := 78) C dX11_lay_78 ?_
    refine zr_icmp_ge (pc := 79) C 86 dX11_lay_79 (by decide) (by omega) (by omega) (fun h_101 => ?_) (fun h_101 => ?_)
    · refine zr_iconst (pc := 86) C dX11_lay_86 ?_
      refine zr_icmp_ge (pc := 87) C 183 dX11_lay_87 (by decide) (by omega) (by omega) (fun h_102 => ?_) (fun h_102 => ?_)
      · exact absurd h_102 (by omega)
      · refine zr_iload_n (pc := 90) C dX11_lay_90 2 rfl ?_
        refine zr_iconst (pc := 91) C dX11_lay_91 ?_
        refine zr_icmp_ge (pc := 92) C 104 dX11_lay_92 (by decide) (by omega) (by omega) (fun h_103 => ?_) (fun h_103 => ?_)
        · refine zr_iconst (pc := 104) C dX11_lay_104 ?_
          refine zr_istore (L' := [(4, zv_i 0), (3, zv_i 1), (0, .ref (g.2.2.1 67)), (1, zv_i ch)]) (pc := 105) C dX11_lay_105 (by decide) rfl ?_
          refine zr_sipush (pc := 107) C dX11_lay_107 (by decide) ?_
          refine zr_istore (L' := [(5, zv_i 300), (4, zv_i 0), (3, zv_i 1), (0, .ref (g.2.2.1 67)), (1, zv_i ch)]) (pc := 110) C dX11_lay_110 (by decide) rfl ?_
          refine zr_sub [3, 4, 2, 1, 0] rfl ?_
          refine l_layS C hr st gp τ_4 gp' st' ch 1 0 (-2 * gp) (bo_r st l1 0) (by rw [bo_rl]; omega) (Or.inr ⟨rfl, rfl⟩) l2 b2' hm2 hl2 (fun σ2 f2 n2 R2 => ?_) (l2.length + 1) σ1 [] l2 (0) (by omega) rfl f1 (Or.inl ⟨rfl, rfl⟩) (by rw [n1]; simp [bo_s, bo_rl]) (by simpa [bo_s] using R1) ⟨by simp [ch_t], by simp [ch_t]⟩
          refine zr_iinc (L' := [(3, zv_i (1 + 1)), (0, .ref (g.2.2.1 67)), (1, zv_i ch)]) (pc := 177) C dX11_lay_177 2 rfl (by decide) rfl ?_
          refine zr_goto (pc := 180) C 76 dX11_lay_180 (by decide) ?_
          refine zr_iload_n (pc := 76) C dX11_lay_76 0 rfl ?_
          refine zr_iload_n (pc := 77) C dX11_lay_77 2 rfl ?_
          refine zr_iconst (pc := 78) C dX11_lay_78 ?_
          refine zr_icmp_ge (pc := 79) C 86 dX11_lay_79 (by decide) (by omega) (by omega) (fun h_301 => ?_) (fun h_301 => ?_)
          · refine zr_iconst (pc := 86) C dX11_lay_86 ?_
            refine zr_icmp_ge (pc := 87) C 183 dX11_lay_87 (by decide) (by omega) (by omega) (fun h_302 => ?_) (fun h_302 => ?_)
            · exact zr_vret (pc := 183) C hr dX11_lay_183 rfl (⟨rfl, by rw [f2.2 21 (by decide)]; exact c21, by rw [hh.2, bo_T1]; exact n2, by rw [hh.2, bo_T1, ← show τ_4 84 = σ 84 from funext (frc 84 (by decide))]; exact R2, zf_t frc f2.1 (by simp) (by simp), fun y y1 y2 => by rw [f2.2 y y1, f67 y y1 y2]⟩)
            · exact absurd h_302 (by omega)
          · exact absurd h_301 (by omega)
        · exact absurd h_103 (by omega)
    · exact absurd h_101 (by omega)
  · exact absurd h_3 (by omega)
