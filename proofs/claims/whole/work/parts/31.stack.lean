set_option maxRecDepth 20000 in
set_option maxHeartbeats 4000000 in
theorem l_stackA {g : zg_G} {k : zk_T} {Q : Option Value → zs_S → Prop} (C : zk_ok g mX8_stackFrom k) (hr : zk_ret g mX8_stackFrom Q k) (s pr rc : Int → Int) (gp : Int) (face : Int) (σ0 : zs_S) (hC : sw_C σ0 s pr rc gp) (hf : -2 * gp ≤ face ∧ face ≤ 5000) (hex : ∀ σ1, zf_x σ0 σ1 [48] → (∀ y : Int, 0 ≤ y → y < 6 → σ1 48 y = sw_ls pr rc face y) → zw_W g mX8_stackFrom k 79 [(0, .ref (g.2.2.1 26)), (1, zv_i face)] [] σ1) : ∀ (N : Nat) (σ : zs_S) (a : Int), (6 - a).toNat < N → (0 ≤ a ∧ a ≤ 6) → (zf_x σ0 σ [48]) → (∀ y : Int, 0 ≤ y → y < a → σ 48 y = sw_ls pr rc face y) → zw_W g mX8_stackFrom k 2 [(0, .ref (g.2.2.1 26)), (1, zv_i face), (2, zv_i a)] [] σ := by
  intro N
  induction N with
  | zero =>
    intro σ a hN
    exact absurd hN (by omega)
  | succ N ih =>
    intro σ a hN ha fr hA
    refine zr_iload_n (pc := 2) C dX8_stackFrom_2 2 rfl ?_
    refine zr_bipush (pc := 3) C dX8_stackFrom_3 (by decide) ?_
    refine zr_icmp_ge (pc := 5) C 79 dX8_stackFrom_5 (by decide) (by omega) (by omega) (fun h_1 => ?_) (fun h_1 => ?_)
    · refine zr_sub [0, 1] rfl ?_
      exact hex σ fr (fun y y1 y2 => hA y y1 (by omega))
    · have kb := hC.2.2 a (by omega) (by omega)
      have e47 : σ 47 a = pr a := (fr 47 (by decide) a).trans kb.1.2.1
      have e50 : σ 50 a = rc a := (fr 50 (by decide) a).trans kb.1.2.2
      have g1 := hC.1
      refine zr_aload_n (pc := 8) C dX8_stackFrom_8 0 rfl ?_
      refine zr_get (v := .ref (g.2.2.1 45)) (pc := 9) C 4 (some (some 45)) dX8_stackFrom_9 fX8_31 (by decide) (hs_26 _) rfl rfl ?_
      refine zr_get (v := .ref (g.2.2.1 47)) (pc := 12) C 1 (some (some 47)) dX8_stackFrom_12 fX8_70 (by decide) (hs_45 _) rfl rfl ?_
      refine zr_iload_n (pc := 15) C dX8_stackFrom_15 2 rfl ?_
      refine zr_iaload (pc := 16) C dX8_stackFrom_16 (by decide) (hs_47 _) (by omega) (by decide) ?_
      refine zr_if_le (pc := 17) C 44 dX8_stackFrom_17 (by decide) (by omega) (fun h_2 => ?_) (fun h_2 => ?_)
      · refine zr_iconst (pc := 44) C dX8_stackFrom_44 ?_
        refine zr_istore_n (L' := [(3, zv_i 0), (0, .ref (g.2.2.1 26)), (1, zv_i face), (2, zv_i a)]) (pc := 45) C dX8_stackFrom_45 (by decide) rfl ?_
        refine zr_aload_n (pc := 46) C dX8_stackFrom_46 1 rfl ?_
        refine zr_get (v := .ref (g.2.2.1 45)) (pc := 47) C 4 (some (some 45)) dX8_stackFrom_47 fX8_31 (by decide) (hs_26 _) rfl rfl ?_
        refine zr_get (v := .ref (g.2.2.1 48)) (pc := 50) C 2 (some (some 48)) dX8_stackFrom_50 fX8_121 (by decide) (hs_45 _) rfl rfl ?_
        refine zr_iload_n (pc := 53) C dX8_stackFrom_53 3 rfl ?_
        refine zr_iload_n (pc := 54) C dX8_stackFrom_54 0 rfl ?_
        refine zr_if_eq (pc := 55) C 71 dX8_stackFrom_55 (by decide) (by omega) (fun h_3 => ?_) (fun h_3 => ?_)
        · refine zr_iconst (pc := 71) C dX8_stackFrom_71 ?_
          refine zr_iastore (pc := 72) C dX8_stackFrom_72 (by decide) (hs_48 _) (by omega) (by decide) (fun τ_4 e_5 => ?_)
          refine zr_iinc (L' := [(2, zv_i (a + 1)), (3, zv_i 0), (0, .ref (g.2.2.1 26)), (1, zv_i face)]) (pc := 73) C dX8_stackFrom_73 3 rfl (by decide) rfl ?_
          refine zr_goto (pc := 76) C 2 dX8_stackFrom_76 (by decide) ?_
          refine zr_sub [2, 3, 0] rfl ?_
          exact ih τ_4 (a + 1) (by omega) (by omega) (zf_p fr e_5 (by decide)) (fun y y1 y2 => by
            rw [e_5, zs_put_at]
            by_cases z : y = a
            · subst z
              rw [if_pos rfl]
              unfold sw_ls; rw [if_neg (by omega)]
            · rw [if_neg z]
              exact hA y y1 (by omega))
        · exact absurd h_3 (by decide)
      · refine zr_aload_n (pc := 20) C dX8_stackFrom_20 0 rfl ?_
        refine zr_get (v := .ref (g.2.2.1 50)) (pc := 21) C 5 (some (some 50)) dX8_stackFrom_21 fX8_35 (by decide) (hs_26 _) rfl rfl ?_
        refine zr_iload_n (pc := 24) C dX8_stackFrom_24 2 rfl ?_
        refine zr_iaload (pc := 25) C dX8_stackFrom_25 (by decide) (hs_50 _) (by omega) (by decide) ?_
        refine zr_iconst (pc := 26) C dX8_stackFrom_26 ?_
        refine zr_icmp_eq (pc := 27) C 44 dX8_stackFrom_27 (by decide) (by omega) (by omega) (fun h_6 => ?_) (fun h_6 => ?_)
        · refine zr_iconst (pc := 44) C dX8_stackFrom_44 ?_
          refine zr_istore_n (L' := [(3, zv_i 0), (0, .ref (g.2.2.1 26)), (1, zv_i face), (2, zv_i a)]) (pc := 45) C dX8_stackFrom_45 (by decide) rfl ?_
          refine zr_aload_n (pc := 46) C dX8_stackFrom_46 1 rfl ?_
          refine zr_get (v := .ref (g.2.2.1 45)) (pc := 47) C 4 (some (some 45)) dX8_stackFrom_47 fX8_31 (by decide) (hs_26 _) rfl rfl ?_
          refine zr_get (v := .ref (g.2.2.1 48)) (pc := 50) C 2 (some (some 48)) dX8_stackFrom_50 fX8_121 (by decide) (hs_45 _) rfl rfl ?_
          refine zr_iload_n (pc := 53) C dX8_stackFrom_53 3 rfl ?_
          refine zr_iload_n (pc := 54) C dX8_stackFrom_54 0 rfl ?_
          refine zr_if_eq (pc := 55) C 71 dX8_stackFrom_55 (by decide) (by omega) (fun h_7 => ?_) (fun h_7 => ?_)
          · refine zr_iconst (pc := 71) C dX8_stackFrom_71 ?_
            refine zr_iastore (pc := 72) C dX8_stackFrom_72 (by decide) (hs_48 _) (by omega) (by decide) (fun τ_8 e_9 => ?_)
            refine zr_iinc (L' := [(2, zv_i (a + 1)), (3, zv_i 0), (0, .ref (g.2.2.1 26)), (1, zv_i face)]) (pc := 73) C dX8_stackFrom_73 3 rfl (by decide) rfl ?_
            refine zr_goto (pc := 76) C 2 dX8_stackFrom_76 (by decide) ?_
            refine zr_sub [2, 3, 0] rfl ?_
            exact ih τ_8 (a + 1) (by omega) (by omega) (zf_p fr e_9 (by decide)) (fun y y1 y2 => by
              rw [e_9, zs_put_at]
              by_cases z : y = a
              · subst z
                rw [if_pos rfl]
                unfold sw_ls; rw [if_neg (by omega)]
              · rw [if_neg z]
                exact hA y y1 (by omega))
          · exact absurd h_7 (by decide)
        · refine zr_aload_n (pc := 30) C dX8_stackFrom_30 0 rfl ?_
          refine zr_get (v := .ref (g.2.2.1 50)) (pc := 31) C 5 (some (some 50)) dX8_stackFrom_31 fX8_35 (by decide) (hs_26 _) rfl rfl ?_
          refine zr_iload_n (pc := 34) C dX8_stackFrom_34 2 rfl ?_
          refine zr_iaload (pc := 35) C dX8_stackFrom_35 (by decide) (hs_50 _) (by omega) (by decide) ?_
          refine zr_iload_n (pc := 36) C dX8_stackFrom_36 1 rfl ?_
          refine zr_icmp_lt (pc := 37) C 44 dX8_stackFrom_37 (by decide) (by omega) (by omega) (fun h_10 => ?_) (fun h_10 => ?_)
          · refine zr_iconst (pc := 44) C dX8_stackFrom_44 ?_
            refine zr_istore_n (L' := [(3, zv_i 0), (0, .ref (g.2.2.1 26)), (1, zv_i face), (2, zv_i a)]) (pc := 45) C dX8_stackFrom_45 (by decide) rfl ?_
            refine zr_aload_n (pc := 46) C dX8_stackFrom_46 1 rfl ?_
            refine zr_get (v := .ref (g.2.2.1 45)) (pc := 47) C 4 (some (some 45)) dX8_stackFrom_47 fX8_31 (by decide) (hs_26 _) rfl rfl ?_
            refine zr_get (v := .ref (g.2.2.1 48)) (pc := 50) C 2 (some (some 48)) dX8_stackFrom_50 fX8_121 (by decide) (hs_45 _) rfl rfl ?_
            refine zr_iload_n (pc := 53) C dX8_stackFrom_53 3 rfl ?_
            refine zr_iload_n (pc := 54) C dX8_stackFrom_54 0 rfl ?_
            refine zr_if_eq (pc := 55) C 71 dX8_stackFrom_55 (by decide) (by omega) (fun h_11 => ?_) (fun h_11 => ?_)
            · refine zr_iconst (pc := 71) C dX8_stackFrom_71 ?_
              refine zr_iastore (pc := 72) C dX8_stackFrom_72 (by decide) (hs_48 _) (by omega) (by decide) (fun τ_12 e_13 => ?_)
              refine zr_iinc (L' := [(2, zv_i (a + 1)), (3, zv_i 0), (0, .ref (g.2.2.1 26)), (1, zv_i face)]) (pc := 73) C dX8_stackFrom_73 3 rfl (by decide) rfl ?_
              refine zr_goto (pc := 76) C 2 dX8_stackFrom_76 (by decide) ?_
              refine zr_sub [2, 3, 0] rfl ?_
              exact ih τ_12 (a + 1) (by omega) (by omega) (zf_p fr e_13 (by decide)) (fun y y1 y2 => by
                rw [e_13, zs_put_at]
                by_cases z : y = a
                · subst z
                  rw [if_pos rfl]
                  unfold sw_ls; rw [if_neg (by omega)]
                · rw [if_neg z]
                  exact hA y y1 (by omega))
            · exact absurd h_11 (by decide)
          · refine zr_iconst (pc := 40) C dX8_stackFrom_40 ?_
            refine zr_goto (pc := 41) C 45 dX8_stackFrom_41 (by decide) ?_
            refine zr_istore_n (L' := [(3, zv_i 1), (0, .ref (g.2.2.1 26)), (1, zv_i face), (2, zv_i a)]) (pc := 45) C dX8_stackFrom_45 (by decide) rfl ?_
            refine zr_aload_n (pc := 46) C dX8_stackFrom_46 1 rfl ?_
            refine zr_get (v := .ref (g.2.2.1 45)) (pc := 47) C 4 (some (some 45)) dX8_stackFrom_47 fX8_31 (by decide) (hs_26 _) rfl rfl ?_
            refine zr_get (v := .ref (g.2.2.1 48)) (pc := 50) C 2 (some (some 48)) dX8_stackFrom_50 fX8_121 (by decide) (hs_45 _) rfl rfl ?_
            refine zr_iload_n (pc := 53) C dX8_stackFrom_53 3 rfl ?_
            refine zr_iload_n (pc := 54) C dX8_stackFrom_54 0 rfl ?_
            refine zr_if_eq (pc := 55) C 71 dX8_stackFrom_55 (by decide) (by omega) (fun h_14 => ?_) (fun h_14 => ?_)
            · exact absurd h_14 (by decide)
            · refine zr_aload_n (pc := 58) C dX8_stackFrom_58 1 rfl ?_
              refine zr_get (v := .ref (g.2.2.1 50)) (pc := 59) C 5 (some (some 50)) dX8_stackFrom_59 fX8_35 (by decide) (hs_26 _) rfl rfl ?_
              refine zr_iload_n (pc := 62) C dX8_stackFrom_62 3 rfl ?_
              refine zr_iaload (pc := 63) C dX8_stackFrom_63 (by decide) (hs_50 _) (by omega) (by decide) ?_
              refine zr_iload_n (pc := 64) C dX8_stackFrom_64 2 rfl ?_
              refine zr_isub (pc := 65) C dX8_stackFrom_65 ?_
              refine zr_iconst (pc := 66) C dX8_stackFrom_66 ?_
              refine zr_idiv (pc := 67) C dX8_stackFrom_67 (by omega) (by omega) (by omega) (by omega) ?_
              refine zr_goto (pc := 68) C 72 dX8_stackFrom_68 (by decide) ?_
              refine zr_iastore (pc := 72) C dX8_stackFrom_72 (by decide) (hs_48 _) (by omega) (by decide) (fun τ_15 e_16 => ?_)
              refine zr_iinc (L' := [(2, zv_i (a + 1)), (3, zv_i 1), (0, .ref (g.2.2.1 26)), (1, zv_i face)]) (pc := 73) C dX8_stackFrom_73 3 rfl (by decide) rfl ?_
              refine zr_goto (pc := 76) C 2 dX8_stackFrom_76 (by decide) ?_
              refine zr_sub [2, 3, 0] rfl ?_
              exact ih τ_15 (a + 1) (by omega) (by omega) (zf_p fr e_16 (by decide)) (fun y y1 y2 => by
                rw [e_16, zs_put_at]
                by_cases z : y = a
                · subst z
                  rw [if_pos rfl]
                  unfold sw_ls; rw [if_pos (by omega), e50]
                · rw [if_neg z]
                  exact hA y y1 (by omega))

set_option maxRecDepth 20000 in
set_option maxHeartbeats 4000000 in
theorem l_stackB {g : zg_G} {k : zk_T} {Q : Option Value → zs_S → Prop} (C : zk_ok g mX8_stackFrom k) (hr : zk_ret g mX8_stackFrom Q k) (p : Nat) (hp : zs_p p) (s : Int → Int) (face r : Int) (σ0 : zs_S) (l : List Int) (hs : ∀ k : Int, 0 ≤ k → k < 6 → σ0 46 k = s k) (hc : σ0 (p + 4) 0 = l.length) (hl9 : (l.length : Int) ≤ 90) (hR : ln_R s (σ0 (p + 4 + 1)) (σ0 (p + 4 + 2)) l) (hm : ∀ k ∈ l, 0 ≤ k ∧ k < 6) (hQ : ∀ τ, zf_x σ0 τ [p + 4 + 2] → st_R s (σ0 (p + 4 + 1)) (τ (p + 4 + 2)) face l → Q (some (zv_i r)) τ) : ∀ (N : Nat) (σ : zs_S) (a : Int), (l.length - a).toNat < N → (0 ≤ a ∧ a ≤ l.length) → (zf_x σ0 σ [p + 4 + 2]) → (∀ (j : Nat) (k : Int), (j : Int) < a → l[j]? = some k → σ (p + 4 + 2) j = face + 2 * ch_t s (l.take (j + 1))) → (∀ j : Int, a ≤ j → σ (p + 4 + 2) j = σ0 (p + 4 + 2) j) → zw_W g mX8_stackFrom k 106 [(0, .ref (g.2.2.1 26)), (1, zv_i face), (2, zv_i r), (3, .ref (g.2.2.1 (p + 4))), (4, zv_i a)] [] σ := by
  intro N
  induction N with
  | zero =>
    intro σ a hN
    exact absurd hN (by omega)
  | succ N ih =>
    intro σ a hN ha fr h1 h2
    have z4 := zs_n4 hp
    have ec : σ (p + 4) 0 = l.length := (fr _ (by simp) 0).trans hc
    refine zr_iload (pc := 106) C dX8_stackFrom_106 4 rfl ?_
    refine zr_aload_n (pc := 108) C dX8_stackFrom_108 3 rfl ?_
    refine zr_get (v := zv_i (σ (p + 4) 0)) (pc := 109) C 0 none dX8_stackFrom_109 fX8_113 (hn_line (zl_4 hp)) (hs_line (zl_4 hp)) rfl rfl ?_
    refine zr_icmp_ge (pc := 112) C 155 dX8_stackFrom_112 (by decide) (by omega) (by omega) (fun h_1 => ?_) (fun h_1 => ?_)
    · refine zr_iload_n (pc := 155) C dX8_stackFrom_155 2 rfl ?_
      exact zr_iret (pc := 156) C hr dX8_stackFrom_156 rfl (hQ σ fr (fun j k hj => ⟨(hR j k hj).1, h1 j k (by have := (List.getElem?_eq_some_iff.mp hj).1; omega) hj⟩))
    · obtain ⟨q, hq⟩ : ∃ q, l[a.toNat]? = some q := ⟨_, List.getElem?_eq_getElem (by omega)⟩
      have hqm := hm q (List.mem_of_getElem? hq)
      have hqr := hR a.toNat q hq
      rw [show ((a.toNat : Nat) : Int) = a by omega] at hqr
      have e1 : σ (p + 4 + 1) a = q := (fr _ (by simp) a).trans hqr.1
      have e2 : σ (p + 4 + 2) a = ch_t s (l.take a.toNat) := (h2 a (Int.le_refl _)).trans hqr.2
      have e3 : σ 46 (σ (p + 4 + 1) a) = s q := by rw [e1, fr 46 (by simp; omega) q, hs q hqm.1 hqm.2]
      refine zr_aload_n (pc := 115) C dX8_stackFrom_115 3 rfl ?_
      refine zr_get (v := .ref (g.2.2.1 (p + 4 + 2))) (pc := 116) C 2 (some (some (p + 4 + 2))) dX8_stackFrom_116 fX8_135 (hn_line (zl_4 hp)) (hs_line (zl_4 hp)) rfl rfl ?_
      refine zr_iload (pc := 119) C dX8_stackFrom_119 4 rfl ?_
      refine zr_iload_n (pc := 121) C dX8_stackFrom_121 1 rfl ?_
      refine zr_iconst (pc := 122) C dX8_stackFrom_122 ?_
      refine zr_aload_n (pc := 123) C dX8_stackFrom_123 3 rfl ?_
      refine zr_get (v := .ref (g.2.2.1 (p + 4 + 2))) (pc := 124) C 2 (some (some (p + 4 + 2))) dX8_stackFrom_124 fX8_135 (hn_line (zl_4 hp)) (hs_line (zl_4 hp)) rfl rfl ?_
      refine zr_iload (pc := 127) C dX8_stackFrom_127 4 rfl ?_
      refine zr_iaload (pc := 129) C dX8_stackFrom_129 (hn_line2 (zl_4 hp)) (hs_line2 (zl_4 hp)) (by omega) (by omega) ?_
      refine zr_aload_n (pc := 130) C dX8_stackFrom_130 0 rfl ?_
      refine zr_get (v := .ref (g.2.2.1 45)) (pc := 131) C 4 (some (some 45)) dX8_stackFrom_131 fX8_31 (by decide) (hs_26 _) rfl rfl ?_
      refine zr_get (v := .ref (g.2.2.1 46)) (pc := 134) C 0 (some (some 46)) dX8_stackFrom_134 fX8_82 (by decide) (hs_45 _) rfl rfl ?_
      refine zr_aload_n (pc := 137) C dX8_stackFrom_137 3 rfl ?_
      refine zr_get (v := .ref (g.2.2.1 (p + 4 + 1))) (pc := 138) C 1 (some (some (p + 4 + 1))) dX8_stackFrom_138 fX8_138 (hn_line (zl_4 hp)) (hs_line (zl_4 hp)) rfl rfl ?_
      refine zr_iload (pc := 141) C dX8_stackFrom_141 4 rfl ?_
      refine zr_iaload (pc := 143) C dX8_stackFrom_143 (hn_line1 (zl_4 hp)) (hs_line1 (zl_4 hp)) (by omega) (by omega) ?_
      refine zr_iaload (pc := 144) C dX8_stackFrom_144 (by decide) (hs_46 _) (by omega) (by decide) ?_
      refine zr_iadd (pc := 145) C dX8_stackFrom_145 ?_
      refine zr_imul (pc := 146) C dX8_stackFrom_146 ?_
      refine zr_iadd (pc := 147) C dX8_stackFrom_147 ?_
      refine zr_iastore (pc := 148) C dX8_stackFrom_148 (hn_line2 (zl_4 hp)) (hs_line2 (zl_4 hp)) (by omega) (by omega) (fun τ_2 e_3 => ?_)
      refine zr_iinc (L' := [(4, zv_i (a + 1)), (0, .ref (g.2.2.1 26)), (1, zv_i face), (2, zv_i r), (3, .ref (g.2.2.1 (p + 4)))]) (pc := 149) C dX8_stackFrom_149 4 rfl (by decide) rfl ?_
      refine zr_goto (pc := 152) C 106 dX8_stackFrom_152 (by decide) ?_
      refine zr_sub [1, 2, 3, 4, 0] rfl ?_
      exact ih τ_2 (a + 1) (by omega) (by omega) (zf_p fr e_3 (by simp)) (fun j k j1 j2 => by
        rw [e_3, zs_put_at]
        by_cases z : (j : Int) = a
        · rw [if_pos z, e2, e3]
          have ej : a.toNat = j := by omega
          rw [ej] at hq ⊢
          rw [ch_tk hq]
        · rw [if_neg z]
          exact h1 j k (by omega) j2) (fun j j1 => by
        rw [e_3, zs_put_off (by omega)]
        exact h2 j (by omega))

set_option maxRecDepth 20000 in
set_option maxHeartbeats 4000000 in
theorem m_stack (g : zg_G) (σ : zs_S) (p : Nat) (hp : zs_p p) (s pr rc : Int → Int) (gp : Int) (face : Int) (h7 : σ 26 7 = p) (hC : sw_C σ s pr rc gp) (hf : -2 * gp ≤ face ∧ face ≤ 5000) : zm_Met g mX8_stackFrom σ [.ref (g.2.2.1 26), zv_i face] (fun v τ => ∃ r, v = some (zv_i r) ∧ zf_x σ τ [48, 49, p + 4, p + 4 + 1, p + 4 + 2] ∧ ch_J τ ∧ (0 ≤ r ∧ r ≤ 201300000) ∧ ∃ l, ch_O s pr (sw_ls pr rc face) r l ∧ τ (p + 4) 0 = l.length ∧ (l.length : Int) ≤ 90 ∧ st_R s (τ (p + 4 + 1)) (τ (p + 4 + 2)) face l) := by
  refine zm_of (by decide +kernel) (Nat.le_of_ble_eq_true rfl) ?_
  intro k C hr
  show zw_W g mX8_stackFrom k 0 [(0, .ref (g.2.2.1 26)), (1, zv_i face)] [] σ
  refine zr_iconst (pc := 0) C dX8_stackFrom_0 ?_
  refine zr_istore_n (L' := [(2, zv_i 0), (0, .ref (g.2.2.1 26)), (1, zv_i face)]) (pc := 1) C dX8_stackFrom_1 (by decide) rfl ?_
  refine zr_sub [1, 2, 0] rfl ?_
  refine l_stackA C hr s pr rc gp face σ hC hf (fun σ1 f1 hA => ?_) 7 σ 0 (by omega) (by omega) (zf_r σ _) (fun y y1 y2 => absurd y2 (by omega))
  have k46 : ∀ k : Int, 0 ≤ k → k < 6 → σ1 46 k = s k := fun k y1 y2 => (f1 46 (by decide) k).trans (hC.2.2 k y1 y2).1.1
  have k47 : ∀ k : Int, 0 ≤ k → k < 6 → σ1 47 k = pr k := fun k y1 y2 => (f1 47 (by decide) k).trans (hC.2.2 k y1 y2).1.2.1
  have lb : ∀ k : Int, 0 ≤ k → k < 6 → (-1 ≤ sw_ls pr rc face k ∧ sw_ls pr rc face k ≤ 4500 + gp) ∧ (0 ≤ sw_ls pr rc face k → 0 < pr k) := fun k y1 y2 => by
    have kb := hC.2.2 k y1 y2
    unfold sw_ls
    by_cases z : 0 < pr k ∧ ¬ rc k = -1 ∧ face ≤ rc k
    · rw [if_pos z]; omega
    · rw [if_neg z]; omega
  have hI1 : ch_I σ1 := fun k y1 y2 => by
    have kb := hC.2.2 k y1 y2
    have g1 := hC.1
    have l1 := lb k y1 y2
    rw [k46 k y1 y2, k47 k y1 y2, hA k y1 y2]
    refine ⟨kb.2.1, kb.2.2.1, by omega, fun z => ?_⟩
    have := l1.2 z
    have := kb.2.2.2.1 this
    omega
  have hJ1 : ch_J σ1 := fun k y1 y2 => by rw [f1 49 (by decide)]; exact hC.2.1 k y1 y2
  refine zr_aload_n (pc := 79) C dX8_stackFrom_79 0 rfl ?_
  refine zr_get (v := .ref (g.2.2.1 45)) (pc := 80) C 4 (some (some 45)) dX8_stackFrom_80 fX8_31 (by decide) (hs_26 _) rfl rfl ?_
  refine zr_callV (As := []) (rest := []) (b := 45) (pc := 83) C dX8_stackFrom_83 kX2_solve vX8_124 rfl (by decide) (by decide) (hs_45 _) rfl (Nat.le_of_ble_eq_true rfl) (m_solve g σ1 (by exact hI1) (by exact hJ1)) (fun v_ τ_ h_ => ?_)
  obtain ⟨rfl, h_102⟩ := h_
  generalize τ_ = τ_101 at h_102 ⊢
  show zw_W g mX8_stackFrom k 86 [(0, .ref (g.2.2.1 26)), (1, zv_i face)] [zv_i (τ_101 49 0)] τ_101
  obtain ⟨f2, hS2, hJ2⟩ := h_102
  have i46 : τ_101 46 = σ1 46 := funext (f2 46 (by decide))
  have i47 : τ_101 47 = σ1 47 := funext (f2 47 (by decide))
  have i48 : τ_101 48 = σ1 48 := funext (f2 48 (by decide))
  have hI2 : ch_I τ_101 := fun k y1 y2 => by rw [i46, i47, i48]; exact hI1 k y1 y2
  have z4 := zs_n4 hp
  refine zr_istore_n (L' := [(2, zv_i (τ_101 49 0)), (0, .ref (g.2.2.1 26)), (1, zv_i face)]) (pc := 86) C dX8_stackFrom_86 (by decide) rfl ?_
  refine zr_aload_n (pc := 87) C dX8_stackFrom_87 1 rfl ?_
  refine zr_get (v := .ref (g.2.2.1 (τ_101 26 7).toNat)) (pc := 88) C 7 (some none) dX8_stackFrom_88 fX8_45 (by decide) (hs_26 _) rfl rfl ?_
  rw [show τ_101 26 7 = (p : Int) from (f2 26 (by decide) 7).trans ((f1 26 (by decide) 7).trans h7)]
  show zw_W g mX8_stackFrom k 91 [(2, zv_i (τ_101 49 0)), (0, .ref (g.2.2.1 26)), (1, zv_i face)] [.ref (g.2.2.1 (p))] τ_101
  refine zr_get (v := .ref (g.2.2.1 (p + 4))) (pc := 91) C 3 (some (some (p + 4))) dX8_stackFrom_91 fX8_132 (hn_pat hp) (hs_pat hp) rfl rfl ?_
  refine zr_astore_n (L' := [(3, .ref (g.2.2.1 (p + 4))), (2, zv_i (τ_101 49 0)), (0, .ref (g.2.2.1 26)), (1, zv_i face)]) (pc := 94) C dX8_stackFrom_94 (by decide) rfl ?_
  refine zr_aload_n (pc := 95) C dX8_stackFrom_95 2 rfl ?_
  refine zr_get (v := .ref (g.2.2.1 45)) (pc := 96) C 4 (some (some 45)) dX8_stackFrom_96 fX8_31 (by decide) (hs_26 _) rfl rfl ?_
  refine zr_aload_n (pc := 99) C dX8_stackFrom_99 0 rfl ?_
  refine zr_callV (As := [.ref (g.2.2.1 (p + 4))]) (rest := []) (b := 45) (pc := 100) C dX8_stackFrom_100 kX2_lay vX8_128 rfl (by decide) (by decide) (hs_45 _) rfl (Nat.le_of_ble_eq_true rfl) (m_lay g τ_101 (p + 4) (zl_4 hp) (by exact hI2) (by exact hJ2) (by exact hS2) (gp) (by exact ⟨hC.1.1, fun k y1 y2 y3 => by rw [i48, hA k y1 y2] at y3 ⊢; rw [i46, k46 k y1 y2]; have l1 := lb k y1 y2; have l2 := l1.2 y3; have kb := (hC.2.2 k y1 y2).2.2.2.1 l2; omega⟩)) (fun v_ τ_ h_ => ?_)
  obtain ⟨rfl, h_104⟩ := h_
  generalize τ_ = τ_103 at h_104 ⊢
  show zw_W g mX8_stackFrom k 103 [(3, .ref (g.2.2.1 (p + 4))), (2, zv_i (τ_101 49 0)), (0, .ref (g.2.2.1 26)), (1, zv_i face)] [] τ_103
  refine zr_iconst (pc := 103) C dX8_stackFrom_103 ?_
  refine zr_istore (L' := [(4, zv_i 0), (3, .ref (g.2.2.1 (p + 4))), (2, zv_i (τ_101 49 0)), (0, .ref (g.2.2.1 26)), (1, zv_i face)]) (pc := 104) C dX8_stackFrom_104 (by decide) rfl ?_
  refine zr_sub [3, 4, 2, 1, 0] rfl ?_
  obtain ⟨f3, l, hL, c1, c2, hR⟩ := h_104
  have hm := ch_Lm hL
  have hR2 : ln_R s (τ_103 (p + 4 + 1)) (τ_103 (p + 4 + 2)) l := fun j k hj => by
    obtain ⟨r1, r2⟩ := hR j k hj
    refine ⟨r1, r2.trans (ch_tc (fun q hq => ?_))⟩
    have qm := hm q (List.mem_of_mem_take hq)
    rw [i46]
    exact k46 q qm.1 qm.2
  have gO : ch_O s pr (sw_ls pr rc face) (τ_101 49 0) l := by
    obtain ⟨Mk, hM, hB⟩ := hS2
    refine ch_Od (st := τ_101 46) (pr := τ_101 47) (li := τ_101 48) (fun k y1 y2 => ?_) ⟨τ_101 49, Mk, hM, hB, rfl, hL⟩
    rw [i46, i47, i48]
    exact ⟨k46 k y1 y2, k47 k y1 y2, hA k y1 y2⟩
  exact l_stackB C hr p hp s face (τ_101 49 0) τ_103 l (fun k y1 y2 => by rw [f3 46 (by simp; omega), i46]; exact k46 k y1 y2) c1 (by omega) hR2 hm (fun τ q1 q2 => ⟨_, rfl, zf_t f1 (zf_t f2 (zf_t f3 q1 (by simp) (by simp) (es := [p + 4, p + 4 + 1, p + 4 + 2])) (by simp) (by simp) (es := [49, p + 4, p + 4 + 1, p + 4 + 2])) (by simp) (by simp), fun x y1 y2 => by rw [q1 49 (by simp; omega), f3 49 (by simp; omega)]; exact hJ2 x y1 y2, hJ2 0 (by omega) (by omega), l, gO, by rw [q1 _ (by simp)]; exact c1, by omega, by rw [show τ (p + 4 + 1) = τ_103 (p + 4 + 1) from funext (q1 _ (by simp))]; exact q2⟩) (l.length + 1) τ_103 0 (by omega) (by omega) (zf_r τ_103 _) (fun j k j1 => absurd j1 (by omega)) (fun j _ => rfl)
