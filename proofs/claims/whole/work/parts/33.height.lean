set_option maxRecDepth 20000 in
set_option maxHeartbeats 4000000 in
theorem m_noCant (g : zg_G) (σ : zs_S) (p : Nat) (hp : zs_p p) (s pr rc : Int → Int) (gp : Int) (h7 : σ 26 7 = p) (hC : sw_C σ s pr rc gp) : zm_Met g mX8_tryWithoutCant σ [.ref (g.2.2.1 26)] (fun v τ => v = none ∧ zf_x σ τ [48, 49, p, p + 1, p + 4, p + 4 + 1, p + 4 + 2] ∧ ch_J τ ∧ ∃ x l, (0 ≤ x ∧ x ≤ 201300000) ∧ ch_O s pr (sw_ls pr rc (-2 * gp)) x l ∧ pd_R τ p s (-1) x [] l (-2 * gp)) := by
  refine zm_of (by decide +kernel) (Nat.le_of_ble_eq_true rfl) ?_
  intro k C hr
  show zw_W g mX8_tryWithoutCant k 0 [(0, .ref (g.2.2.1 26))] [] σ
  refine zr_aload_n (pc := 0) C dX8_tryWithoutCant_0 0 rfl ?_
  refine zr_get (v := .ref (g.2.2.1 (σ 26 7).toNat)) (pc := 1) C 7 (some none) dX8_tryWithoutCant_1 fX8_45 (by decide) (hs_26 _) rfl rfl ?_
  first | rw [h720] | rw [h79] | rw [h7]
  show zw_W g mX8_tryWithoutCant k 4 [(0, .ref (g.2.2.1 26))] [.ref (g.2.2.1 (p))] σ
  refine zr_iconst (pc := 4) C dX8_tryWithoutCant_4 ?_
  refine zr_put (pc := 5) C 0 0 rfl dX8_tryWithoutCant_5 pX8_106 (hn_pat hp) (hs_pat hp) rfl (fun τ_1 e_2 => ?_)
  refine zr_aload_n (pc := 8) C dX8_tryWithoutCant_8 0 rfl ?_
  have h79 : τ_1 26 7 = p := by rw [e_2, zs_put_ne (by omega)]; exact h7
  refine zr_get (v := .ref (g.2.2.1 (τ_1 26 7).toNat)) (pc := 9) C 7 (some none) dX8_tryWithoutCant_9 fX8_45 (by decide) (hs_26 _) rfl rfl ?_
  first | rw [h720] | rw [h79] | rw [h7]
  show zw_W g mX8_tryWithoutCant k 12 [(0, .ref (g.2.2.1 26))] [.ref (g.2.2.1 (p))] τ_1
  refine zr_get (v := .ref (g.2.2.1 (p + 1))) (pc := 12) C 2 (some (some (p + 1))) dX8_tryWithoutCant_12 fX8_109 (hn_pat hp) (hs_pat hp) rfl rfl ?_
  refine zr_iconst (pc := 15) C dX8_tryWithoutCant_15 ?_
  refine zr_put (pc := 16) C 0 0 rfl dX8_tryWithoutCant_16 pX8_113 (hn_line (zl_1 hp)) (hs_line (zl_1 hp)) rfl (fun τ_3 e_4 => ?_)
  refine zr_aload_n (pc := 19) C dX8_tryWithoutCant_19 0 rfl ?_
  have h720 : τ_3 26 7 = p := by rw [e_4, zs_put_ne (by omega)]; exact h79
  refine zr_get (v := .ref (g.2.2.1 (τ_3 26 7).toNat)) (pc := 20) C 7 (some none) dX8_tryWithoutCant_20 fX8_45 (by decide) (hs_26 _) rfl rfl ?_
  first | rw [h720] | rw [h79] | rw [h7]
  show zw_W g mX8_tryWithoutCant k 23 [(0, .ref (g.2.2.1 26))] [.ref (g.2.2.1 (p))] τ_3
  refine zr_aload_n (pc := 23) C dX8_tryWithoutCant_23 0 rfl ?_
  refine zr_bipush (pc := 24) C dX8_tryWithoutCant_24 (by decide) ?_
  refine zr_aload_n (pc := 26) C dX8_tryWithoutCant_26 0 rfl ?_
  refine zr_get (v := zv_i (τ_3 26 3)) (pc := 27) C 3 none dX8_tryWithoutCant_27 fX8_88 (by decide) (hs_26 _) rfl rfl ?_
  refine zr_imul (pc := 30) C dX8_tryWithoutCant_30 ?_
  have eg : τ_3 26 3 = gp := by rw [e_4, zs_put_ne (by omega), e_2, zs_put_ne (by omega)]; exact hC.1.2.2
  have fz : zf_x σ τ_3 [p, p + 1] := zf_p (zf_p (zf_r σ _) e_2 (by simp)) e_4 (by simp)
  have hC1 : sw_C τ_3 s pr rc gp := ⟨⟨hC.1.1, hC.1.2.1, eg⟩, fun x y1 y2 => by rw [fz 49 (by simp; omega)]; exact hC.2.1 x y1 y2, fun x y1 y2 => by rw [fz 46 (by simp; omega), fz 47 (by simp; omega), fz 50 (by simp; omega)]; exact hC.2.2 x y1 y2⟩
  rw [show ((-2) * τ_3 26 3 : Int) = -2 * gp from by rw [eg]]
  refine zr_callV (As := [zv_i (-2 * gp)]) (rest := [.ref (g.2.2.1 (p))]) (b := 26) (pc := 31) C dX8_tryWithoutCant_31 kX8_stackFrom vX8_118 rfl (by decide) (by decide) (hs_26 _) rfl (Nat.le_of_ble_eq_true rfl) (m_stack g τ_3 p hp s pr rc gp (-2 * gp) (by exact h720) (by exact hC1) (by have := hC.1; omega)) (fun v_ τ_ h_ => ?_)
  obtain ⟨r_7, rfl, h_6⟩ := h_
  generalize τ_ = τ_5 at h_6 ⊢
  show zw_W g mX8_tryWithoutCant k 34 [(0, .ref (g.2.2.1 26))] [zv_i r_7, .ref (g.2.2.1 (p))] τ_5
  refine zr_put (pc := 34) C 1 1 rfl dX8_tryWithoutCant_34 pX8_78 (hn_pat hp) (hs_pat hp) rfl (fun τ_8 e_9 => ?_)
  exact zr_vret (pc := 37) C hr dX8_tryWithoutCant_37 rfl (by
      obtain ⟨y1, y2, y3, l, y4, y5, y6, y7⟩ := h_6
      have fe : zf_x σ τ_8 [48, 49, p, p + 1, p + 4, p + 4 + 1, p + 4 + 2] := zf_p (zf_t fz y1 (by simp) (by simp)) e_9 (by simp)
      have off : ∀ q, q ≠ p → τ_8 q = τ_5 q := fun q hq => funext fun j => by rw [e_9, zs_put_ne hq]
      refine ⟨rfl, fe, fun x x1 x2 => by rw [off 49 (by omega)]; exact y2 x x1 x2, _, l, y3, y4, ⟨?_, by rw [e_9, zs_put_self], ⟨?_, by simp, fun j k hj => by simp at hj⟩, by rw [off (p + 4) (by omega)]; exact y5, y6, by rw [off (p + 4 + 1) (by omega), off (p + 4 + 2) (by omega)]; exact y7⟩⟩
      · rw [e_9, zs_put_off (by decide), y1 p (by simp; omega), e_4, zs_put_ne (by omega), e_2, zs_put_self]
      · rw [off (p + 1) (by omega), y1 (p + 1) (by simp; omega), e_4, zs_put_self]
        rfl)

set_option maxRecDepth 20000 in
set_option maxHeartbeats 4000000 in
theorem l_height {g : zg_G} {k : zk_T} {Q : Option Value → zs_S → Prop} (C : zk_ok g mX8_tryHeight k) (hr : zk_ret g mX8_tryHeight Q k) (s pr rc : Int → Int) (gp : Int) (wd : Int → Int) (h d wi : Int) (σ0 : zs_S) (hC : sw_C σ0 s pr rc gp) (hW : ∀ k : Int, 0 ≤ k → k < 6 → σ0 (28 + 2 * k.toNat) 1 = wd k ∧ 0 ≤ wd k ∧ wd k ≤ 4000) (hh : 300 ≤ h ∧ h ≤ 5000) (hwi : -1 ≤ wi ∧ wi ≤ 9000) (hex : ∀ σ1, zf_x σ0 σ1 [48] → (∀ y : Int, 0 ≤ y → y < 6 → σ1 48 y = sw_lr wd pr h wi gp y) → zw_W g mX8_tryHeight k 86 [(0, .ref (g.2.2.1 26)), (1, zv_i h), (2, zv_i d), (3, zv_i wi)] [] σ1) : ∀ (N : Nat) (σ : zs_S) (a : Int), (6 - a).toNat < N → (0 ≤ a ∧ a ≤ 6) → (zf_x σ0 σ [48]) → (∀ y : Int, 0 ≤ y → y < a → σ 48 y = sw_lr wd pr h wi gp y) → zw_W g mX8_tryHeight k 9 [(0, .ref (g.2.2.1 26)), (1, zv_i h), (2, zv_i d), (3, zv_i wi), (4, zv_i a)] [] σ := by
  intro N
  induction N with
  | zero =>
    intro σ a hN
    exact absurd hN (by omega)
  | succ N ih =>
    intro σ a hN ha fr hA
    refine zr_iload (pc := 9) C dX8_tryHeight_9 4 rfl ?_
    refine zr_bipush (pc := 11) C dX8_tryHeight_11 (by decide) ?_
    refine zr_icmp_ge (pc := 13) C 86 dX8_tryHeight_13 (by decide) (by omega) (by omega) (fun h_1 => ?_) (fun h_1 => ?_)
    · refine zr_sub [0, 1, 2, 3] rfl ?_
      exact hex σ fr (fun y y1 y2 => hA y y1 (by omega))
    · have kb := hC.2.2 a (by omega) (by omega)
      have ej : 0 ≤ a ∧ a < 6 := by omega
      have e47 : σ 47 a = pr a := (fr 47 (by decide) a).trans kb.1.2.1
      have ew := hW a (by omega) (by omega)
      have e1 : σ (28 + 2 * a.toNat) 1 = wd a := (fr _ (by simp; omega) 1).trans ew.1
      have e3 : σ 26 3 = gp := (fr 26 (by decide) 3).trans hC.1.2.2
      refine zr_aload_n (pc := 16) C dX8_tryHeight_16 0 rfl ?_
      refine zr_get (v := .ref (g.2.2.1 27)) (pc := 17) C 0 (some (some 27)) dX8_tryHeight_17 fX8_11 (by decide) (hs_26 _) rfl rfl ?_
      refine zr_iload (pc := 20) C dX8_tryHeight_20 4 rfl ?_
      refine zr_aaload (pc := 22) C dX8_tryHeight_22 (by decide) (hs_27 _) (by decide) (by exact ej) (by decide) ?_
      show zw_W g mX8_tryHeight k 23 [(0, .ref (g.2.2.1 26)), (1, zv_i h), (2, zv_i d), (3, zv_i wi), (4, zv_i a)] [.ref (g.2.2.1 (28 + 2 * a.toNat))] σ
      refine zr_get (v := zv_i (σ (28 + 2 * a.toNat) 1)) (pc := 23) C 1 none dX8_tryHeight_23 fX8_99 (hn_size (by exact ej)) (hs_size (by exact ej)) rfl rfl ?_
      refine zr_iload_n (pc := 26) C dX8_tryHeight_26 1 rfl ?_
      refine zr_icmp_ne (pc := 27) C 52 dX8_tryHeight_27 (by decide) (by omega) (by omega) (fun h_2 => ?_) (fun h_2 => ?_)
      · refine zr_iconst (pc := 52) C dX8_tryHeight_52 ?_
        refine zr_istore (L' := [(5, zv_i 0), (0, .ref (g.2.2.1 26)), (1, zv_i h), (2, zv_i d), (3, zv_i wi), (4, zv_i a)]) (pc := 53) C dX8_tryHeight_53 (by decide) rfl ?_
        refine zr_aload_n (pc := 55) C dX8_tryHeight_55 1 rfl ?_
        refine zr_get (v := .ref (g.2.2.1 45)) (pc := 56) C 4 (some (some 45)) dX8_tryHeight_56 fX8_31 (by decide) (hs_26 _) rfl rfl ?_
        refine zr_get (v := .ref (g.2.2.1 48)) (pc := 59) C 2 (some (some 48)) dX8_tryHeight_59 fX8_121 (by decide) (hs_45 _) rfl rfl ?_
        refine zr_iload (pc := 62) C dX8_tryHeight_62 5 rfl ?_
        refine zr_iload (pc := 64) C dX8_tryHeight_64 0 rfl ?_
        refine zr_if_eq (pc := 66) C 78 dX8_tryHeight_66 (by decide) (by omega) (fun h_3 => ?_) (fun h_3 => ?_)
        · refine zr_iconst (pc := 78) C dX8_tryHeight_78 ?_
          refine zr_iastore (pc := 79) C dX8_tryHeight_79 (by decide) (hs_48 _) (by omega) (by decide) (fun τ_4 e_5 => ?_)
          refine zr_iinc (L' := [(4, zv_i (a + 1)), (5, zv_i 0), (0, .ref (g.2.2.1 26)), (1, zv_i h), (2, zv_i d), (3, zv_i wi)]) (pc := 80) C dX8_tryHeight_80 5 rfl (by decide) rfl ?_
          refine zr_goto (pc := 83) C 9 dX8_tryHeight_83 (by decide) ?_
          refine zr_sub [2, 3, 4, 5, 0] rfl ?_
          exact ih τ_4 (a + 1) (by omega) (by omega) (zf_p fr e_5 (by decide)) (fun y y1 y2 => by
            rw [e_5, zs_put_at]
            by_cases z : y = a
            · subst z
              rw [if_pos rfl]
              unfold sw_lr; rw [if_neg (by omega)]
            · rw [if_neg z]
              exact hA y y1 (by omega))
        · exact absurd h_3 (by decide)
      · refine zr_aload_n (pc := 30) C dX8_tryHeight_30 0 rfl ?_
        refine zr_get (v := .ref (g.2.2.1 45)) (pc := 31) C 4 (some (some 45)) dX8_tryHeight_31 fX8_31 (by decide) (hs_26 _) rfl rfl ?_
        refine zr_get (v := .ref (g.2.2.1 47)) (pc := 34) C 1 (some (some 47)) dX8_tryHeight_34 fX8_70 (by decide) (hs_45 _) rfl rfl ?_
        refine zr_iload (pc := 37) C dX8_tryHeight_37 4 rfl ?_
        refine zr_iaload (pc := 39) C dX8_tryHeight_39 (by decide) (hs_47 _) (by omega) (by decide) ?_
        refine zr_if_le (pc := 40) C 52 dX8_tryHeight_40 (by decide) (by omega) (fun h_6 => ?_) (fun h_6 => ?_)
        · refine zr_iconst (pc := 52) C dX8_tryHeight_52 ?_
          refine zr_istore (L' := [(5, zv_i 0), (0, .ref (g.2.2.1 26)), (1, zv_i h), (2, zv_i d), (3, zv_i wi), (4, zv_i a)]) (pc := 53) C dX8_tryHeight_53 (by decide) rfl ?_
          refine zr_aload_n (pc := 55) C dX8_tryHeight_55 1 rfl ?_
          refine zr_get (v := .ref (g.2.2.1 45)) (pc := 56) C 4 (some (some 45)) dX8_tryHeight_56 fX8_31 (by decide) (hs_26 _) rfl rfl ?_
          refine zr_get (v := .ref (g.2.2.1 48)) (pc := 59) C 2 (some (some 48)) dX8_tryHeight_59 fX8_121 (by decide) (hs_45 _) rfl rfl ?_
          refine zr_iload (pc := 62) C dX8_tryHeight_62 5 rfl ?_
          refine zr_iload (pc := 64) C dX8_tryHeight_64 0 rfl ?_
          refine zr_if_eq (pc := 66) C 78 dX8_tryHeight_66 (by decide) (by omega) (fun h_7 => ?_) (fun h_7 => ?_)
          · refine zr_iconst (pc := 78) C dX8_tryHeight_78 ?_
            refine zr_iastore (pc := 79) C dX8_tryHeight_79 (by decide) (hs_48 _) (by omega) (by decide) (fun τ_8 e_9 => ?_)
            refine zr_iinc (L' := [(4, zv_i (a + 1)), (5, zv_i 0), (0, .ref (g.2.2.1 26)), (1, zv_i h), (2, zv_i d), (3, zv_i wi)]) (pc := 80) C dX8_tryHeight_80 5 rfl (by decide) rfl ?_
            refine zr_goto (pc := 83) C 9 dX8_tryHeight_83 (by decide) ?_
            refine zr_sub [2, 3, 4, 5, 0] rfl ?_
            exact ih τ_8 (a + 1) (by omega) (by omega) (zf_p fr e_9 (by decide)) (fun y y1 y2 => by
              rw [e_9, zs_put_at]
              by_cases z : y = a
              · subst z
                rw [if_pos rfl]
                unfold sw_lr; rw [if_neg (by omega)]
              · rw [if_neg z]
                exact hA y y1 (by omega))
          · exact absurd h_7 (by decide)
        · refine zr_iload_n (pc := 43) C dX8_tryHeight_43 3 rfl ?_
          refine zr_iconst (pc := 44) C dX8_tryHeight_44 ?_
          refine zr_icmp_eq (pc := 45) C 52 dX8_tryHeight_45 (by decide) (by omega) (by omega) (fun h_10 => ?_) (fun h_10 => ?_)
          · refine zr_iconst (pc := 52) C dX8_tryHeight_52 ?_
            refine zr_istore (L' := [(5, zv_i 0), (0, .ref (g.2.2.1 26)), (1, zv_i h), (2, zv_i d), (3, zv_i wi), (4, zv_i a)]) (pc := 53) C dX8_tryHeight_53 (by decide) rfl ?_
            refine zr_aload_n (pc := 55) C dX8_tryHeight_55 1 rfl ?_
            refine zr_get (v := .ref (g.2.2.1 45)) (pc := 56) C 4 (some (some 45)) dX8_tryHeight_56 fX8_31 (by decide) (hs_26 _) rfl rfl ?_
            refine zr_get (v := .ref (g.2.2.1 48)) (pc := 59) C 2 (some (some 48)) dX8_tryHeight_59 fX8_121 (by decide) (hs_45 _) rfl rfl ?_
            refine zr_iload (pc := 62) C dX8_tryHeight_62 5 rfl ?_
            refine zr_iload (pc := 64) C dX8_tryHeight_64 0 rfl ?_
            refine zr_if_eq (pc := 66) C 78 dX8_tryHeight_66 (by decide) (by omega) (fun h_11 => ?_) (fun h_11 => ?_)
            · refine zr_iconst (pc := 78) C dX8_tryHeight_78 ?_
              refine zr_iastore (pc := 79) C dX8_tryHeight_79 (by decide) (hs_48 _) (by omega) (by decide) (fun τ_12 e_13 => ?_)
              refine zr_iinc (L' := [(4, zv_i (a + 1)), (5, zv_i 0), (0, .ref (g.2.2.1 26)), (1, zv_i h), (2, zv_i d), (3, zv_i wi)]) (pc := 80) C dX8_tryHeight_80 5 rfl (by decide) rfl ?_
              refine zr_goto (pc := 83) C 9 dX8_tryHeight_83 (by decide) ?_
              refine zr_sub [2, 3, 4, 5, 0] rfl ?_
              exact ih τ_12 (a + 1) (by omega) (by omega) (zf_p fr e_13 (by decide)) (fun y y1 y2 => by
                rw [e_13, zs_put_at]
                by_cases z : y = a
                · subst z
                  rw [if_pos rfl]
                  unfold sw_lr; rw [if_neg (by omega)]
                · rw [if_neg z]
                  exact hA y y1 (by omega))
            · exact absurd h_11 (by decide)
          · refine zr_iconst (pc := 48) C dX8_tryHeight_48 ?_
            refine zr_goto (pc := 49) C 53 dX8_tryHeight_49 (by decide) ?_
            refine zr_istore (L' := [(5, zv_i 1), (0, .ref (g.2.2.1 26)), (1, zv_i h), (2, zv_i d), (3, zv_i wi), (4, zv_i a)]) (pc := 53) C dX8_tryHeight_53 (by decide) rfl ?_
            refine zr_aload_n (pc := 55) C dX8_tryHeight_55 1 rfl ?_
            refine zr_get (v := .ref (g.2.2.1 45)) (pc := 56) C 4 (some (some 45)) dX8_tryHeight_56 fX8_31 (by decide) (hs_26 _) rfl rfl ?_
            refine zr_get (v := .ref (g.2.2.1 48)) (pc := 59) C 2 (some (some 48)) dX8_tryHeight_59 fX8_121 (by decide) (hs_45 _) rfl rfl ?_
            refine zr_iload (pc := 62) C dX8_tryHeight_62 5 rfl ?_
            refine zr_iload (pc := 64) C dX8_tryHeight_64 0 rfl ?_
            refine zr_if_eq (pc := 66) C 78 dX8_tryHeight_66 (by decide) (by omega) (fun h_14 => ?_) (fun h_14 => ?_)
            · exact absurd h_14 (by decide)
            · refine zr_iload_n (pc := 69) C dX8_tryHeight_69 4 rfl ?_
              refine zr_aload_n (pc := 70) C dX8_tryHeight_70 1 rfl ?_
              refine zr_get (v := zv_i (σ 26 3)) (pc := 71) C 3 none dX8_tryHeight_71 fX8_88 (by decide) (hs_26 _) rfl rfl ?_
              refine zr_iadd (pc := 74) C dX8_tryHeight_74 ?_
              refine zr_goto (pc := 75) C 79 dX8_tryHeight_75 (by decide) ?_
              refine zr_iastore (pc := 79) C dX8_tryHeight_79 (by decide) (hs_48 _) (by omega) (by decide) (fun τ_15 e_16 => ?_)
              refine zr_iinc (L' := [(4, zv_i (a + 1)), (5, zv_i 1), (0, .ref (g.2.2.1 26)), (1, zv_i h), (2, zv_i d), (3, zv_i wi)]) (pc := 80) C dX8_tryHeight_80 5 rfl (by decide) rfl ?_
              refine zr_goto (pc := 83) C 9 dX8_tryHeight_83 (by decide) ?_
              refine zr_sub [2, 3, 4, 5, 0] rfl ?_
              exact ih τ_15 (a + 1) (by omega) (by omega) (zf_p fr e_16 (by decide)) (fun y y1 y2 => by
                rw [e_16, zs_put_at]
                by_cases z : y = a
                · subst z
                  rw [if_pos rfl]
                  unfold sw_lr; rw [if_pos (by omega), e3]
                · rw [if_neg z]
                  exact hA y y1 (by omega))

set_option maxRecDepth 20000 in
set_option maxHeartbeats 4000000 in
theorem m_height (g : zg_G) (σ : zs_S) (p : Nat) (hp : zs_p p) (s pr rc : Int → Int) (gp : Int) (wd : Int → Int) (h d : Int) (h7 : σ 26 7 = p) (hC : sw_C σ s pr rc gp) (hW : ∀ k : Int, 0 ≤ k → k < 6 → σ (28 + 2 * k.toNat) 1 = wd k ∧ 0 ≤ wd k ∧ wd k ≤ 4000) (hh : 300 ≤ h ∧ h ≤ 5000) (hd : 0 ≤ d ∧ d ≤ 9000) : zm_Met g mX8_tryHeight σ [.ref (g.2.2.1 26), zv_i h, zv_i d] (fun v τ => ∃ r1 l1, v = some (zv_i (zi_b (¬ r1 = 0))) ∧ ch_O s pr (sw_lr wd pr h (ro_m d h) gp) r1 l1 ∧ zf_x σ τ [48, 49, p, p + 1, p + 1 + 1, p + 1 + 2, p + 4, p + 4 + 1, p + 4 + 2] ∧ ch_J τ ∧ sw_Y r1 (∃ r2 l2, ch_O s pr (sw_ls pr rc h) r2 l2 ∧ pd_R τ p s h (r1 + 2 * r2) l1 l2 h ∧ (0 ≤ r1 ∧ r1 ≤ 201300000) ∧ (0 ≤ r2 ∧ r2 ≤ 201300000))) := by
  refine zm_of (by decide +kernel) (Nat.le_of_ble_eq_true rfl) ?_
  intro k C hr
  show zw_W g mX8_tryHeight k 0 [(0, .ref (g.2.2.1 26)), (1, zv_i h), (2, zv_i d)] [] σ
  refine zr_iload_n (pc := 0) C dX8_tryHeight_0 2 rfl ?_
  refine zr_iload_n (pc := 1) C dX8_tryHeight_1 1 rfl ?_
  refine zr_callSN (As := [zv_i d, zv_i h]) (rest := []) (pc := 2) C dX8_tryHeight_2 kX10_room sX8_102 rfl (by decide) rfl (Nat.le_of_ble_eq_true rfl) (m_room g σ d h (by omega) (by omega)) (fun v_ τ_ h_ => ?_)
  obtain ⟨rfl, rfl⟩ := h_
  show zw_W g mX8_tryHeight k 5 [(0, .ref (g.2.2.1 26)), (1, zv_i h), (2, zv_i d)] [zv_i (ro_m d h)] σ
  refine zr_istore_n (L' := [(3, zv_i (ro_m d h)), (0, .ref (g.2.2.1 26)), (1, zv_i h), (2, zv_i d)]) (pc := 5) C dX8_tryHeight_5 (by decide) rfl ?_
  refine zr_iconst (pc := 6) C dX8_tryHeight_6 ?_
  refine zr_istore (L' := [(4, zv_i 0), (3, zv_i (ro_m d h)), (0, .ref (g.2.2.1 26)), (1, zv_i h), (2, zv_i d)]) (pc := 7) C dX8_tryHeight_7 (by decide) rfl ?_
  refine zr_sub [2, 3, 4, 1, 0] rfl ?_
  refine l_height C hr s pr rc gp wd h d (ro_m d h) σ hC hW hh (ro_mb hd (by omega)) (fun σ1 f1 hA => ?_) 7 σ 0 (by omega) (by omega) (zf_r σ _) (fun y y1 y2 => absurd y2 (by omega))
  have wb := ro_mb (a := d) (b := h) hd (by omega)
  have k46 : ∀ k : Int, 0 ≤ k → k < 6 → σ1 46 k = s k := fun k y1 y2 => (f1 46 (by decide) k).trans (hC.2.2 k y1 y2).1.1
  have k47 : ∀ k : Int, 0 ≤ k → k < 6 → σ1 47 k = pr k := fun k y1 y2 => (f1 47 (by decide) k).trans (hC.2.2 k y1 y2).1.2.1
  have lb : ∀ k : Int, 0 ≤ k → k < 6 → (-1 ≤ sw_lr wd pr h (ro_m d h) gp k ∧ sw_lr wd pr h (ro_m d h) gp k ≤ 9000 + gp) ∧ (0 ≤ sw_lr wd pr h (ro_m d h) gp k → 0 < pr k) := fun k y1 y2 => by
    have kb := hC.2.2 k y1 y2
    have g1 := hC.1
    unfold sw_lr
    by_cases z : wd k = h ∧ 0 < pr k ∧ ¬ ro_m d h = -1
    · rw [if_pos z]; omega
    · rw [if_neg z]; omega
  have hI1 : ch_I σ1 := fun k y1 y2 => by
    have kb := hC.2.2 k y1 y2
    have g1 := hC.1
    have l1 := lb k y1 y2
    rw [k46 k y1 y2, k47 k y1 y2, hA k y1 y2]
    refine ⟨kb.2.1, kb.2.2.1, by omega, fun z => ?_⟩
    have := l1.2 z
    have := kb.2.2.2.1 this
    omega
  have hJ1 : ch_J σ1 := fun k y1 y2 => by rw [f1 49 (by decide)]; exact hC.2.1 k y1 y2
  refine zr_aload_n (pc := 86) C dX8_tryHeight_86 0 rfl ?_
  refine zr_get (v := .ref (g.2.2.1 45)) (pc := 87) C 4 (some (some 45)) dX8_tryHeight_87 fX8_31 (by decide) (hs_26 _) rfl rfl ?_
  refine zr_callV (As := []) (rest := []) (b := 45) (pc := 90) C dX8_tryHeight_90 kX2_solve vX8_124 rfl (by decide) (by decide) (hs_45 _) rfl (Nat.le_of_ble_eq_true rfl) (m_solve g σ1 (by exact hI1) (by exact hJ1)) (fun v_ τ_ h_ => ?_)
  obtain ⟨rfl, h_102⟩ := h_
  generalize τ_ = τ_101 at h_102 ⊢
  show zw_W g mX8_tryHeight k 93 [(0, .ref (g.2.2.1 26)), (1, zv_i h), (2, zv_i d), (3, zv_i (ro_m d h))] [zv_i (τ_101 49 0)] τ_101
  obtain ⟨f2, hS2, hJ2⟩ := h_102
  have i46 : τ_101 46 = σ1 46 := funext (f2 46 (by decide))
  have i47 : τ_101 47 = σ1 47 := funext (f2 47 (by decide))
  have i48 : τ_101 48 = σ1 48 := funext (f2 48 (by decide))
  have hI2 : ch_I τ_101 := fun k y1 y2 => by rw [i46, i47, i48]; exact hI1 k y1 y2
  have z1 := zs_n1 hp
  have fz2 : zf_x σ τ_101 [48, 49] := zf_t f1 f2 (by simp) (by simp)
  have h72 : τ_101 26 7 = p := (fz2 26 (by decide) 7).trans h7
  have gO : ∀ l, ch_L (τ_101 46) (τ_101 47) (τ_101 48) (τ_101 49) l 0 → ch_O s pr (sw_lr wd pr h (ro_m d h) gp) (τ_101 49 0) l := fun l hL => by
    obtain ⟨Mk, hM, hB⟩ := hS2
    refine ch_Od (st := τ_101 46) (pr := τ_101 47) (li := τ_101 48) (fun k y1 y2 => ?_) ⟨τ_101 49, Mk, hM, hB, rfl, hL⟩
    rw [i46, i47, i48]
    exact ⟨k46 k y1 y2, k47 k y1 y2, hA k y1 y2⟩
  have rb := hJ2 0 (by omega) (by omega)
  refine zr_istore (L' := [(4, zv_i (τ_101 49 0)), (0, .ref (g.2.2.1 26)), (1, zv_i h), (2, zv_i d), (3, zv_i (ro_m d h))]) (pc := 93) C dX8_tryHeight_93 (by decide) rfl ?_
  refine zr_iload (pc := 95) C dX8_tryHeight_95 0 rfl ?_
  refine zr_if_ne (pc := 97) C 102 dX8_tryHeight_97 (by decide) (by omega) (fun h_103 => ?_) (fun h_103 => ?_)
  · refine zr_aload_n (pc := 102) C dX8_tryHeight_102 1 rfl ?_
    refine zr_get (v := .ref (g.2.2.1 45)) (pc := 103) C 4 (some (some 45)) dX8_tryHeight_103 fX8_31 (by decide) (hs_26 _) rfl rfl ?_
    refine zr_aload_n (pc := 106) C dX8_tryHeight_106 1 rfl ?_
    refine zr_get (v := .ref (g.2.2.1 (τ_101 26 7).toNat)) (pc := 107) C 7 (some none) dX8_tryHeight_107 fX8_45 (by decide) (hs_26 _) rfl rfl ?_
    first | rw [h74] | rw [h73] | rw [h72]
    show zw_W g mX8_tryHeight k 110 [(4, zv_i (τ_101 49 0)), (0, .ref (g.2.2.1 26)), (1, zv_i h), (2, zv_i d), (3, zv_i (ro_m d h))] [.ref (g.2.2.1 (p)), .ref (g.2.2.1 45)] τ_101
    refine zr_get (v := .ref (g.2.2.1 (p + 1))) (pc := 110) C 2 (some (some (p + 1))) dX8_tryHeight_110 fX8_109 (hn_pat hp) (hs_pat hp) rfl rfl ?_
    refine zr_callV (As := [.ref (g.2.2.1 (p + 1))]) (rest := []) (b := 45) (pc := 113) C dX8_tryHeight_113 kX2_lay vX8_128 rfl (by decide) (by decide) (hs_45 _) rfl (Nat.le_of_ble_eq_true rfl) (m_lay g τ_101 (p + 1) (zl_1 hp) (by exact hI2) (by exact hJ2) (by exact hS2) (gp) (by exact ⟨hC.1.1, fun k y1 y2 y3 => by rw [i48, hA k y1 y2] at y3 ⊢; rw [i46, k46 k y1 y2]; have l1 := lb k y1 y2; have l2 := l1.2 y3; have kb := (hC.2.2 k y1 y2).2.2.2.1 l2; omega⟩)) (fun v_ τ_ h_ => ?_)
    obtain ⟨rfl, h_105⟩ := h_
    generalize τ_ = τ_104 at h_105 ⊢
    show zw_W g mX8_tryHeight k 116 [(4, zv_i (τ_101 49 0)), (0, .ref (g.2.2.1 26)), (1, zv_i h), (2, zv_i d), (3, zv_i (ro_m d h))] [] τ_104
    obtain ⟨f3, l1, hL, c1, c2, hR⟩ := h_105
    have hm := ch_Lm hL
    have hR2 : ln_R s (τ_104 (p + 1 + 1)) (τ_104 (p + 1 + 2)) l1 := fun j k hj => by
      obtain ⟨r1, r2⟩ := hR j k hj
      refine ⟨r1, r2.trans (ch_tc (fun q hq => ?_))⟩
      have qm := hm q (List.mem_of_mem_take hq)
      rw [i46]
      exact k46 q qm.1 qm.2
    have h73 : τ_104 26 7 = p := (f3 26 (by simp; omega) 7).trans h72
    refine zr_aload_n (pc := 116) C dX8_tryHeight_116 1 rfl ?_
    refine zr_get (v := .ref (g.2.2.1 (τ_104 26 7).toNat)) (pc := 117) C 7 (some none) dX8_tryHeight_117 fX8_45 (by decide) (hs_26 _) rfl rfl ?_
    first | rw [h74] | rw [h73] | rw [h72]
    show zw_W g mX8_tryHeight k 120 [(4, zv_i (τ_101 49 0)), (0, .ref (g.2.2.1 26)), (1, zv_i h), (2, zv_i d), (3, zv_i (ro_m d h))] [.ref (g.2.2.1 (p))] τ_104
    refine zr_iload_n (pc := 120) C dX8_tryHeight_120 2 rfl ?_
    refine zr_put (pc := 121) C 0 0 rfl dX8_tryHeight_121 pX8_106 (hn_pat hp) (hs_pat hp) rfl (fun τ_106 e_107 => ?_)
    have fz3 : zf_x σ τ_106 [48, 49, p, p + 1, p + 1 + 1, p + 1 + 2, p + 4, p + 4 + 1, p + 4 + 2] := zf_p (zf_t fz2 f3 (by simp) (by simp)) e_107 (by simp)
    have h74 : τ_106 26 7 = p := (fz3 26 (by simp; omega) 7).trans h7
    have hC1 : sw_C τ_106 s pr rc gp := ⟨⟨hC.1.1, hC.1.2.1, (fz3 26 (by simp; omega) 3).trans hC.1.2.2⟩, fun x y1 y2 => by rw [e_107, zs_put_ne (by omega), f3 49 (by simp; omega)]; exact hJ2 x y1 y2, fun x y1 y2 => by rw [fz3 46 (by simp; omega), fz3 47 (by simp; omega), fz3 50 (by simp; omega)]; exact hC.2.2 x y1 y2⟩
    refine zr_aload_n (pc := 124) C dX8_tryHeight_124 1 rfl ?_
    refine zr_get (v := .ref (g.2.2.1 (τ_106 26 7).toNat)) (pc := 125) C 7 (some none) dX8_tryHeight_125 fX8_45 (by decide) (hs_26 _) rfl rfl ?_
    first | rw [h74] | rw [h73] | rw [h72]
    show zw_W g mX8_tryHeight k 128 [(4, zv_i (τ_101 49 0)), (0, .ref (g.2.2.1 26)), (1, zv_i h), (2, zv_i d), (3, zv_i (ro_m d h))] [.ref (g.2.2.1 (p))] τ_106
    refine zr_iload (pc := 128) C dX8_tryHeight_128 0 rfl ?_
    refine zr_iconst (pc := 130) C dX8_tryHeight_130 ?_
    refine zr_aload_n (pc := 131) C dX8_tryHeight_131 1 rfl ?_
    refine zr_iload_n (pc := 132) C dX8_tryHeight_132 2 rfl ?_
    refine zr_callV (As := [zv_i h]) (rest := [zv_i 2, zv_i (τ_101 49 0), .ref (g.2.2.1 (p))]) (b := 26) (pc := 133) C dX8_tryHeight_133 kX8_stackFrom vX8_118 rfl (by decide) (by decide) (hs_26 _) rfl (Nat.le_of_ble_eq_true rfl) (m_stack g τ_106 p hp s pr rc gp h (by exact h74) (by exact hC1) (by have := hC.1; omega)) (fun v_ τ_ h_ => ?_)
    obtain ⟨r_110, rfl, h_109⟩ := h_
    generalize τ_ = τ_108 at h_109 ⊢
    show zw_W g mX8_tryHeight k 136 [(4, zv_i (τ_101 49 0)), (0, .ref (g.2.2.1 26)), (1, zv_i h), (2, zv_i d), (3, zv_i (ro_m d h))] [zv_i r_110, zv_i 2, zv_i (τ_101 49 0), .ref (g.2.2.1 (p))] τ_108
    refine zr_imul (pc := 136) C dX8_tryHeight_136 ?_
    refine zr_iadd (pc := 137) C dX8_tryHeight_137 ?_
    refine zr_put (pc := 138) C 1 1 rfl dX8_tryHeight_138 pX8_78 (hn_pat hp) (hs_pat hp) rfl (fun τ_111 e_112 => ?_)
    refine zr_iconst (pc := 141) C dX8_tryHeight_141 ?_
    exact zr_zret (pc := 142) C hr dX8_tryHeight_142 rfl (by decide) (by
            obtain ⟨y1, y2, y3, l2, y4, y5, y6, y7⟩ := h_109
            have off : ∀ q, q ≠ p → τ_111 q = τ_108 q := fun q hq => funext fun j => by rw [e_112, zs_put_ne hq]
            have fe : zf_x σ τ_111 [48, 49, p, p + 1, p + 1 + 1, p + 1 + 2, p + 4, p + 4 + 1, p + 4 + 2] := zf_p (zf_t fz3 (zf_w y1 (by simp) (ds := [48, 49, p, p + 1, p + 1 + 1, p + 1 + 2, p + 4, p + 4 + 1, p + 4 + 2])) (by simp) (by simp)) e_112 (by simp)
            refine ⟨_, l1, zq_1 h_103, gO l1 hL, fe, fun x x1 x2 => by rw [off 49 (by omega)]; exact y2 x x1 x2, fun _ => ⟨_, l2, y4, ⟨?_, by rw [e_112, zs_put_self], ⟨?_, by omega, ?_⟩, by rw [off (p + 4) (by omega)]; exact y5, y6, by rw [off (p + 4 + 1) (by omega), off (p + 4 + 2) (by omega)]; exact y7⟩, rb, y3⟩⟩
            · rw [e_112, zs_put_off (by decide), y1 p (by simp; omega), e_107, zs_put_self]
            · rw [off (p + 1) (by omega), y1 (p + 1) (by simp; omega), e_107, zs_put_ne (by omega)]
              exact c1
            · rw [off (p + 1 + 1) (by omega), off (p + 1 + 2) (by omega), show τ_108 (p + 1 + 1) = τ_104 (p + 1 + 1) from funext fun j => by rw [y1 _ (by simp; omega), e_107, zs_put_ne (by omega)], show τ_108 (p + 1 + 2) = τ_104 (p + 1 + 2) from funext fun j => by rw [y1 _ (by simp; omega), e_107, zs_put_ne (by omega)]]
              exact hR2)
  · refine zr_iconst (pc := 100) C dX8_tryHeight_100 ?_
    exact zr_zret (pc := 101) C hr dX8_tryHeight_101 rfl (by decide) (by
            refine ⟨_, [], zq_0 (fun z => z h_103), gO [] (fun k y1 y2 z => ?_), zf_w fz2 (by simp), hJ2, fun z => absurd h_103 z⟩
            have zz := z.2
            rw [h_103] at zz
            have kb := hI2 k y1 y2
            have z0 := z.1
            have k0 := kb.2.2.2 (by omega)
            have kj := hJ2 (0 + τ_101 46 k) (by omega) (by omega)
            omega)
