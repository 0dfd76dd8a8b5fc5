set_option maxRecDepth 20000 in
set_option maxHeartbeats 4000000 in
theorem l_saw1 {g : zg_G} {k : zk_T} {Q : Option Value → zs_S → Prop} (C : zk_ok g mX8_sawThrough k) (hr : zk_ret g mX8_sawThrough Q k) (s pr rc wd hs : Int → Int) (gp d tp gr : Int) (hd : 0 ≤ d ∧ d ≤ 9000) (σ0 : zs_S) (hU : sw_U s pr) (hW : ∀ k : Int, 0 ≤ k → k < 6 → σ0 (28 + 2 * k.toNat) 1 = wd k ∧ 0 ≤ wd k ∧ wd k ≤ 4000) (hH : ∀ a : Int, 0 ≤ a → a < 4 → σ0 44 a = hs a ∧ (hs a = 0 ∨ (300 ≤ hs a ∧ hs a ≤ 5000))) (hex : ∀ (σ1 : zs_S) (p u : Nat) (ht vl : Int) (l1 l2 : List Int), (zs_p p ∧ zs_p u ∧ u ≠ p) → (σ1 26 6 = u ∧ σ1 26 7 = p) → sw_Q σ0 σ1 → sw_C σ1 s pr rc gp → pd_R σ1 u s ht vl l1 l2 (sw_F gp ht) → sw_D s pr rc wd gp d hs 4 ht vl l1 l2 → sw_X s pr rc wd gp d hs 4 ht vl → ((0 ≤ vl ∧ vl ≤ 1000000000) ∧ (-1 ≤ ht ∧ ht ≤ 5000)) → ((∀ k ∈ l1, 0 ≤ k ∧ k < 6) ∧ (∀ k ∈ l2, 0 ≤ k ∧ k < 6)) → zw_W g mX8_sawThrough k 77 [(0, .ref (g.2.2.1 26))] [] σ1) : ∀ (N : Nat) (σ : zs_S) (p u : Nat) (a ht vl : Int) (l1 l2 : List Int), (4 - a).toNat < N → ((zs_p p ∧ zs_p u ∧ u ≠ p) ∧ 0 ≤ a ∧ a ≤ 4) → (σ 26 6 = u ∧ σ 26 7 = p) → (sw_Q σ0 σ) → (sw_C σ s pr rc gp) → (pd_R σ u s ht vl l1 l2 (sw_F gp ht)) → (sw_D s pr rc wd gp d hs a ht vl l1 l2) → (sw_X s pr rc wd gp d hs a ht vl) → ((0 ≤ vl ∧ vl ≤ 1000000000) ∧ (-1 ≤ ht ∧ ht ≤ 5000)) → ((∀ k ∈ l1, 0 ≤ k ∧ k < 6) ∧ (∀ k ∈ l2, 0 ≤ k ∧ k < 6)) → zw_W g mX8_sawThrough k 22 [(0, .ref (g.2.2.1 26)), (1, zv_i tp), (2, zv_i gr), (3, zv_i d), (4, zv_i a)] [] σ := by
  intro N
  induction N with
  | zero =>
    intro σ p u a ht vl l1 l2 hN
    exact absurd hN (by omega)
  | succ N ih =>
    intro σ p u a ht vl l1 l2 hN hpu h67 fr hC hR hD hX hvb hm
    have hp := hpu.1.1
    have hu := hpu.1.2.1
    refine zr_iload (pc := 22) C dX8_sawThrough_22 4 rfl ?_
    refine zr_iconst (pc := 24) C dX8_sawThrough_24 ?_
    refine zr_icmp_ge (pc := 25) C 77 dX8_sawThrough_25 (by decide) (by omega) (by omega) (fun h_1 => ?_) (fun h_1 => ?_)
    · refine zr_sub [0] rfl ?_
      have e4 : a = 4 := by omega
      subst e4
      exact hex σ p u ht vl l1 l2 hpu.1 h67 fr hC hR hD hX hvb hm
    · have hH1 := hH a (by omega) (by omega)
      have e44 : σ 44 a = hs a := (fr 44 (by omega) (by omega) a).trans hH1.1
      have hW1 : ∀ k : Int, 0 ≤ k → k < 6 → σ (28 + 2 * k.toNat) 1 = wd k ∧ 0 ≤ wd k ∧ wd k ≤ 4000 := fun k y1 y2 => by rw [fr (28 + 2 * k.toNat) (by omega) (by omega)]; exact hW k y1 y2
      refine zr_aload_n (pc := 28) C dX8_sawThrough_28 0 rfl ?_
      refine zr_get (v := .ref (g.2.2.1 44)) (pc := 29) C 2 (some (some 44)) dX8_sawThrough_29 fX8_24 (by decide) (hs_26 _) rfl rfl ?_
      refine zr_iload (pc := 32) C dX8_sawThrough_32 4 rfl ?_
      refine zr_iaload (pc := 34) C dX8_sawThrough_34 (by decide) (hs_44 _) (by omega) (by decide) ?_
      refine zr_if_le (pc := 35) C 71 dX8_sawThrough_35 (by decide) (by omega) (fun h_2 => ?_) (fun h_2 => ?_)
      · 
        refine zr_iinc (L' := [(4, zv_i (a + 1)), (0, .ref (g.2.2.1 26)), (1, zv_i tp), (2, zv_i gr), (3, zv_i d)]) (pc := 71) C dX8_sawThrough_71 4 rfl (by decide) rfl ?_
        refine zr_goto (pc := 74) C 22 dX8_sawThrough_74 (by decide) ?_
        refine zr_sub [1, 2, 3, 4, 0] rfl ?_
        exact ih σ p u (a + 1) ht vl l1 l2 (by omega) (by omega) h67 fr hC hR (sw_Dm hD (by omega)) (sw_X0 hX (by omega)) hvb hm
      · refine zr_aload_n (pc := 38) C dX8_sawThrough_38 0 rfl ?_
        refine zr_aload_n (pc := 39) C dX8_sawThrough_39 0 rfl ?_
        refine zr_get (v := .ref (g.2.2.1 44)) (pc := 40) C 2 (some (some 44)) dX8_sawThrough_40 fX8_24 (by decide) (hs_26 _) rfl rfl ?_
        refine zr_iload (pc := 43) C dX8_sawThrough_43 4 rfl ?_
        refine zr_iaload (pc := 45) C dX8_sawThrough_45 (by decide) (hs_44 _) (by omega) (by decide) ?_
        refine zr_iload_n (pc := 46) C dX8_sawThrough_46 3 rfl ?_
        refine zr_callV (As := [zv_i (σ 44 a), zv_i d]) (rest := []) (b := 26) (pc := 47) C dX8_sawThrough_47 kX8_tryHeight vX8_59 rfl (by decide) (by decide) (hs_26 _) rfl (Nat.le_of_ble_eq_true rfl) (m_height g σ p hp s pr rc gp wd (σ 44 a) d (by exact h67.2) (by exact hC) (by exact hW1) (by omega) (by omega)) (fun v_ τ_ h_ => ?_)
        obtain ⟨r_5, l_6, rfl, h_4⟩ := h_
        generalize τ_ = τ_3 at h_4 ⊢
        show zw_W g mX8_sawThrough k 50 [(0, .ref (g.2.2.1 26)), (1, zv_i tp), (2, zv_i gr), (3, zv_i d), (4, zv_i a)] [zv_i (zi_b (¬ r_5 = 0))] τ_3
        refine zr_if_eq_b (pc := 50) C 71 dX8_sawThrough_50 (by decide) (fun h_7 => ?_) (fun h_7 => ?_)
        · 
          refine zr_iinc (L' := [(4, zv_i (a + 1)), (0, .ref (g.2.2.1 26)), (1, zv_i tp), (2, zv_i gr), (3, zv_i d)]) (pc := 71) C dX8_sawThrough_71 4 rfl (by decide) rfl ?_
          refine zr_goto (pc := 74) C 22 dX8_sawThrough_74 (by decide) ?_
          obtain ⟨o1, fz, hJ2, hyes⟩ := h_4
          have fz' : zf_x σ τ_3 [48, 49, p, p + 1, p + 1 + 1, p + 1 + 2, p + 4, p + 4 + 1, p + 4 + 2] := fz
          have hC2 : sw_C τ_3 s pr rc gp := ⟨⟨hC.1.1, hC.1.2.1, (fz 26 (by simp; omega) 3).trans hC.1.2.2⟩, hJ2, fun x y1 y2 => by rw [fz 46 (by simp; omega), fz 47 (by simp; omega), fz 50 (by simp; omega)]; exact hC.2.2 x y1 y2⟩
          have fr2 : sw_Q σ0 τ_3 := fun c c1 c2 j => by rw [fz c (by simp; omega)]; exact fr c c1 c2 j
          have h672 : τ_3 26 6 = u ∧ τ_3 26 7 = p := ⟨(fz 26 (by simp; omega) 6).trans h67.1, (fz 26 (by simp; omega) 7).trans h67.2⟩
          have hR2 : pd_R τ_3 u s ht vl l1 l2 (sw_F gp ht) := pd_Rx hR (fun c c1 c2 j => fz c (by simp; omega) j)
          refine zr_sub [1, 2, 3, 4, 0] rfl ?_
          exact ih τ_3 p u (a + 1) ht vl l1 l2 (by omega) (by omega) h672 fr2 hC2 hR2 (sw_Dm hD (by omega)) (sw_X1 hU hX (by rw [← e44]; exact o1) (Classical.byContradiction h_7)) hvb hm
        · 
          obtain ⟨o1, fz, hJ2, hyes⟩ := h_4
          obtain ⟨r2, l2', o2, hP, b1, b2⟩ := hyes h_7
          have hC2 : sw_C τ_3 s pr rc gp := ⟨⟨hC.1.1, hC.1.2.1, (fz 26 (by simp; omega) 3).trans hC.1.2.2⟩, hJ2, fun x y1 y2 => by rw [fz 46 (by simp; omega), fz 47 (by simp; omega), fz 50 (by simp; omega)]; exact hC.2.2 x y1 y2⟩
          have fr2 : sw_Q σ0 τ_3 := fun c c1 c2 j => by rw [fz c (by simp; omega)]; exact fr c c1 c2 j
          have h672 : τ_3 26 6 = u ∧ τ_3 26 7 = p := ⟨(fz 26 (by simp; omega) 6).trans h67.1, (fz 26 (by simp; omega) 7).trans h67.2⟩
          have hR2 : pd_R τ_3 u s ht vl l1 l2 (sw_F gp ht) := pd_Rx hR (fun c c1 c2 j => fz c (by simp; omega) j)
          have hI1 : pa_I τ_3 p := pd_I hP (by omega) (by omega) (ch_Om o1) (ch_Om o2)
          have hI2 : pa_I τ_3 u := pd_I hR2 (by omega) (by omega) hm.1 hm.2
          have eb : pa_b τ_3 p u ↔ sw_B (r_5 + 2 * r2) (σ 44 a) vl ht := by
            unfold pa_b sw_B
            rw [hP.1, hP.2.1, hR2.1, hR2.2.1]
          refine zr_aload_n (pc := 53) C dX8_sawThrough_53 0 rfl ?_
          refine zr_get (v := .ref (g.2.2.1 (τ_3 26 7).toNat)) (pc := 54) C 7 (some none) dX8_sawThrough_54 fX8_45 (by decide) (hs_26 _) rfl rfl ?_
          rw [h672.2]
          show zw_W g mX8_sawThrough k 57 [(0, .ref (g.2.2.1 26)), (1, zv_i tp), (2, zv_i gr), (3, zv_i d), (4, zv_i a)] [.ref (g.2.2.1 (p))] τ_3
          refine zr_aload_n (pc := 57) C dX8_sawThrough_57 0 rfl ?_
          refine zr_get (v := .ref (g.2.2.1 (τ_3 26 6).toNat)) (pc := 58) C 6 (some none) dX8_sawThrough_58 fX8_41 (by decide) (hs_26 _) rfl rfl ?_
          rw [h672.1]
          show zw_W g mX8_sawThrough k 61 [(0, .ref (g.2.2.1 26)), (1, zv_i tp), (2, zv_i gr), (3, zv_i d), (4, zv_i a)] [.ref (g.2.2.1 (u)), .ref (g.2.2.1 (p))] τ_3
          refine zr_callV (As := [.ref (g.2.2.1 (u))]) (rest := []) (b := p) (pc := 61) C dX8_sawThrough_61 kX7_isBetterThan vX8_63 rfl (by decide) (hn_pat hp) (hs_pat hp) rfl (Nat.le_of_ble_eq_true rfl) (m_better g τ_3 p hp u hu (by exact hI1) (by exact hI2)) (fun v_ τ_ h_ => ?_)
          obtain ⟨rfl, rfl⟩ := h_
          show zw_W g mX8_sawThrough k 64 [(0, .ref (g.2.2.1 26)), (1, zv_i tp), (2, zv_i gr), (3, zv_i d), (4, zv_i a)] [zv_i (zi_b (pa_b τ_3 p u))] τ_3
          refine zr_if_eq_b (pc := 64) C 71 dX8_sawThrough_64 (by decide) (fun h_8 => ?_) (fun h_8 => ?_)
          · 
            refine zr_iinc (L' := [(4, zv_i (a + 1)), (0, .ref (g.2.2.1 26)), (1, zv_i tp), (2, zv_i gr), (3, zv_i d)]) (pc := 71) C dX8_sawThrough_71 4 rfl (by decide) rfl ?_
            refine zr_goto (pc := 74) C 22 dX8_sawThrough_74 (by decide) ?_
            refine zr_sub [1, 2, 3, 4, 0] rfl ?_
            exact ih τ_3 p u (a + 1) ht vl l1 l2 (by omega) (by omega) h672 fr2 hC2 hR2 (sw_Dm hD (by omega)) (sw_X2 hU hX (by rw [← e44]; exact o1) (by rw [← e44]; exact o2) (fun z => h_8 (by rw [← e44] at z; exact eb.mpr z))) hvb hm
          · 
            refine zr_aload_n (pc := 67) C dX8_sawThrough_67 0 rfl ?_
            refine zr_callV (As := []) (rest := []) (b := 26) (pc := 68) C dX8_sawThrough_68 kX8_keepTrial vX8_56 rfl (by decide) (by decide) (hs_26 _) rfl (Nat.le_of_ble_eq_true rfl) (m_keepTrial g τ_3 p u hp hu (by exact h672.1) (by exact h672.2)) (fun v_ τ_ h_ => ?_)
            obtain ⟨rfl, h_10⟩ := h_
            generalize τ_ = τ_9 at h_10 ⊢
            show zw_W g mX8_sawThrough k 71 [(0, .ref (g.2.2.1 26)), (1, zv_i tp), (2, zv_i gr), (3, zv_i d), (4, zv_i a)] [] τ_9
            refine zr_iinc (L' := [(4, zv_i (a + 1)), (0, .ref (g.2.2.1 26)), (1, zv_i tp), (2, zv_i gr), (3, zv_i d)]) (pc := 71) C dX8_sawThrough_71 4 rfl (by decide) rfl ?_
            refine zr_goto (pc := 74) C 22 dX8_sawThrough_74 (by decide) ?_
            obtain ⟨k1, k2, k3, k4⟩ := h_10
            have hC3 : sw_C τ_9 s pr rc gp := ⟨⟨hC.1.1, hC.1.2.1, k3.trans hC2.1.2.2⟩, fun x y1 y2 => by rw [k4 49 (by simp)]; exact hJ2 x y1 y2, fun x y1 y2 => by rw [k4 46 (by simp), k4 47 (by simp), k4 50 (by simp)]; exact hC2.2.2 x y1 y2⟩
            refine zr_sub [1, 2, 3, 4, 0] rfl ?_
            exact ih τ_9 u p (a + 1) (hs a) (r_5 + 2 * r2) l_6 l2' (by omega) (by omega) ⟨k1, k2⟩ (fun c c1 c2 j => by rw [k4 c (by simp; omega)]; exact fr2 c c1 c2 j) hC3 (pd_Rx (by rw [show sw_F gp (hs a) = hs a from if_neg (by omega), ← e44]; exact hP) (fun c c1 c2 j => k4 c (by simp; omega) j)) (Or.inr ⟨a, by omega, by omega, rfl, by omega, r_5, r2, by rw [← e44]; exact o1, h_7, by rw [← e44]; exact o2, rfl⟩) (sw_X3 hU hX (by rw [← e44]; exact o1) (by rw [← e44]; exact o2) (by rw [← e44]; exact eb.mp h_8)) (by omega) ⟨ch_Om o1, ch_Om o2⟩

set_option maxRecDepth 20000 in
set_option maxHeartbeats 4000000 in
theorem l_saw2 {g : zg_G} {k : zk_T} {Q : Option Value → zs_S → Prop} (C : zk_ok g mX8_sawThrough k) (hr : zk_ret g mX8_sawThrough Q k) (s pr : Int → Int) (u : Nat) (hu : zs_p u) (ht vl face : Int) (l1 l2 : List Int) (σ0 : zs_S) (h6 : σ0 26 6 = u) (hR : pd_R σ0 u s ht vl l1 l2 face) (hvb : (0 ≤ vl ∧ vl ≤ 1000000000) ∧ (-1 ≤ ht ∧ ht ≤ 5000)) (hm : (∀ k ∈ l1, 0 ≤ k ∧ k < 6) ∧ (∀ k ∈ l2, 0 ≤ k ∧ k < 6)) (hpr : ∀ k : Int, 0 ≤ k → k < 6 → σ0 47 k = pr k) (hn : ∀ k : Int, 0 ≤ k → k < 6 → 0 ≤ σ0 41 k ∧ σ0 41 k ≤ 1000) (hQ : ∀ τ, zf_x σ0 τ [41, u + 7] → (∀ y : Int, 0 ≤ y → y < 6 → τ (u + 7) y = pr y ∧ τ 41 y = max 0 (σ0 41 y - (ln_n y l1 + pa_s ht * ln_n y l2))) → Q (some (zv_i vl)) τ) : ∀ (N : Nat) (σ : zs_S) (a : Int), (6 - a).toNat < N → (0 ≤ a ∧ a ≤ 6) → (zf_x σ0 σ [41, u + 7]) → (∀ y : Int, 0 ≤ y → y < a → σ (u + 7) y = pr y ∧ σ 41 y = max 0 (σ0 41 y - (ln_n y l1 + pa_s ht * ln_n y l2))) → (∀ y : Int, a ≤ y → σ 41 y = σ0 41 y) → zw_W g mX8_sawThrough k 80 [(0, .ref (g.2.2.1 26)), (4, zv_i a)] [] σ := by
  intro N
  induction N with
  | zero =>
    intro σ a hN
    exact absurd hN (by omega)
  | succ N ih =>
    intro σ a hN ha fr hA hB
    have h61 : σ 26 6 = u := (fr 26 (by simp; omega) 6).trans h6
    refine zr_iload (pc := 80) C dX8_sawThrough_80 1 rfl ?_
    refine zr_bipush (pc := 82) C dX8_sawThrough_82 (by decide) ?_
    refine zr_icmp_ge (pc := 84) C 131 dX8_sawThrough_84 (by decide) (by omega) (by omega) (fun h_1 => ?_) (fun h_1 => ?_)
    · refine zr_aload_n (pc := 131) C dX8_sawThrough_131 0 rfl ?_
      refine zr_get (v := .ref (g.2.2.1 (σ 26 6).toNat)) (pc := 132) C 6 (some none) dX8_sawThrough_132 fX8_41 (by decide) (hs_26 _) rfl rfl ?_
      first | rw [h62] | rw [h61]
      show zw_W g mX8_sawThrough k 135 [(0, .ref (g.2.2.1 26)), (4, zv_i a)] [.ref (g.2.2.1 (u))] σ
      refine zr_get (v := zv_i (σ u 1)) (pc := 135) C 1 none dX8_sawThrough_135 fX8_78 (hn_pat hu) (hs_pat hu) rfl rfl ?_
      exact zr_iret (pc := 138) C hr dX8_sawThrough_138 rfl (by rw [fr u (by simp; omega) 1, hR.2.1]; exact hQ σ fr (fun y y1 y2 => hA y y1 (by omega)))
    · have e47 : σ 47 a = pr a := (fr 47 (by simp; omega) a).trans (hpr a (by omega) (by omega))
      refine zr_aload_n (pc := 87) C dX8_sawThrough_87 0 rfl ?_
      refine zr_get (v := .ref (g.2.2.1 (σ 26 6).toNat)) (pc := 88) C 6 (some none) dX8_sawThrough_88 fX8_41 (by decide) (hs_26 _) rfl rfl ?_
      first | rw [h62] | rw [h61]
      show zw_W g mX8_sawThrough k 91 [(0, .ref (g.2.2.1 26)), (4, zv_i a)] [.ref (g.2.2.1 (u))] σ
      refine zr_get (v := .ref (g.2.2.1 (u + 7))) (pc := 91) C 4 (some (some (u + 7))) dX8_sawThrough_91 fX8_67 (hn_pat hu) (hs_pat hu) rfl rfl ?_
      refine zr_iload (pc := 94) C dX8_sawThrough_94 1 rfl ?_
      refine zr_aload_n (pc := 96) C dX8_sawThrough_96 0 rfl ?_
      refine zr_get (v := .ref (g.2.2.1 45)) (pc := 97) C 4 (some (some 45)) dX8_sawThrough_97 fX8_31 (by decide) (hs_26 _) rfl rfl ?_
      refine zr_get (v := .ref (g.2.2.1 47)) (pc := 100) C 1 (some (some 47)) dX8_sawThrough_100 fX8_70 (by decide) (hs_45 _) rfl rfl ?_
      refine zr_iload (pc := 103) C dX8_sawThrough_103 1 rfl ?_
      refine zr_iaload (pc := 105) C dX8_sawThrough_105 (by decide) (hs_47 _) (by omega) (by decide) ?_
      refine zr_iastore (pc := 106) C dX8_sawThrough_106 (hn_patP hu) (hs_patP hu) (by omega) (by decide) (fun τ_2 e_3 => ?_)
      have h62 : τ_2 26 6 = u := by rw [e_3, zs_put_ne (by omega)]; exact h61
      have f2 : zf_x σ0 τ_2 [41, u + 7] := zf_p fr e_3 (by simp)
      have hR2 : pd_R τ_2 u s ht vl l1 l2 face := pd_Rx hR (fun c c1 c2 j => f2 c (by simp; omega) j)
      have hI2 : pa_I τ_2 u := pd_I hR2 (by omega) (by omega) hm.1 hm.2
      have ec := pd_c hR2 a
      have n1 := ln_nb a l1
      have n2 := ln_nb a l2
      have m1 := hR.2.2.1.2.1
      have m2 := hR.2.2.2.2.1
      have cb : 0 ≤ pa_c τ_2 u a ∧ pa_c τ_2 u a ≤ 1000 := by
        rw [ec]
        rcases pa_sb ht with z | z
        · rw [z]; omega
        · rw [z]; omega
      have e41 : τ_2 41 a = σ0 41 a := by rw [e_3, zs_put_ne (by omega)]; exact hB a (Int.le_refl _)
      have nb := hn a (by omega) (by omega)
      refine zr_aload_n (pc := 107) C dX8_sawThrough_107 0 rfl ?_
      refine zr_get (v := .ref (g.2.2.1 40)) (pc := 108) C 1 (some (some 40)) dX8_sawThrough_108 fX8_20 (by decide) (hs_26 _) rfl rfl ?_
      refine zr_iload (pc := 111) C dX8_sawThrough_111 1 rfl ?_
      refine zr_aload_n (pc := 113) C dX8_sawThrough_113 0 rfl ?_
      refine zr_get (v := .ref (g.2.2.1 (τ_2 26 6).toNat)) (pc := 114) C 6 (some none) dX8_sawThrough_114 fX8_41 (by decide) (hs_26 _) rfl rfl ?_
      first | rw [h62] | rw [h61]
      show zw_W g mX8_sawThrough k 117 [(0, .ref (g.2.2.1 26)), (4, zv_i a)] [.ref (g.2.2.1 (u)), zv_i a, .ref (g.2.2.1 40)] τ_2
      refine zr_iload (pc := 117) C dX8_sawThrough_117 1 rfl ?_
      refine zr_callV (As := [zv_i a]) (rest := [zv_i a, .ref (g.2.2.1 40)]) (b := u) (pc := 119) C dX8_sawThrough_119 kX7_countOf vX8_71 rfl (by decide) (hn_pat hu) (hs_pat hu) rfl (Nat.le_of_ble_eq_true rfl) (m_pcount g τ_2 u hu a (by omega) (by exact hI2)) (fun v_ τ_ h_ => ?_)
      obtain ⟨rfl, rfl⟩ := h_
      show zw_W g mX8_sawThrough k 122 [(0, .ref (g.2.2.1 26)), (4, zv_i a)] [zv_i (pa_c τ_2 u a), zv_i a, .ref (g.2.2.1 40)] τ_2
      refine zr_callV (As := [zv_i a, zv_i (pa_c τ_2 u a)]) (rest := []) (b := 40) (pc := 122) C dX8_sawThrough_122 kX6_deliver vX8_75 rfl (by decide) (by decide) (hs_40 _) rfl (Nat.le_of_ble_eq_true rfl) (m_deliver g τ_2 a (pa_c τ_2 u a) (by omega) (by rw [e41]; exact nb) (by exact cb)) (fun v_ τ_ h_ => ?_)
      obtain ⟨rfl, h_5⟩ := h_
      generalize τ_ = τ_4 at h_5 ⊢
      show zw_W g mX8_sawThrough k 125 [(0, .ref (g.2.2.1 26)), (4, zv_i a)] [] τ_4
      refine zr_iinc (L' := [(4, zv_i (a + 1)), (0, .ref (g.2.2.1 26))]) (pc := 125) C dX8_sawThrough_125 1 rfl (by decide) rfl ?_
      refine zr_goto (pc := 128) C 80 dX8_sawThrough_128 (by decide) ?_
      refine zr_sub [1, 0] rfl ?_
      exact ih τ_4 (a + 1) (by omega) (by omega) (zf_p f2 h_5 (by simp)) (fun y y1 y2 => by
        by_cases z : y = a
        · subst z
          refine ⟨?_, ?_⟩
          · rw [h_5, zs_put_ne (by omega), e_3, zs_put_self, e47]
          · rw [h_5, zs_put_self, e41, ec]
        · have q := hA y y1 (by omega)
          refine ⟨?_, ?_⟩
          · rw [h_5, zs_put_ne (by omega), e_3, zs_put_off z]
            exact q.1
          · rw [h_5, zs_put_off z, e_3, zs_put_ne (by omega)]
            exact q.2) (fun y y1 => by
        rw [h_5, zs_put_off (by omega), e_3, zs_put_ne (by omega)]
        exact hB y (by omega))

set_option maxRecDepth 20000 in
set_option maxHeartbeats 4000000 in
theorem m_sawThrough (g : zg_G) (σ : zs_S) (p u : Nat) (hp : zs_p p) (hu : zs_p u) (hpu : u ≠ p) (tp gr : Int) (htp : 0 ≤ tp ∧ tp ≤ 900) (hgr : 1 ≤ gr ∧ gr ≤ 3) (h6 : σ 26 6 = u) (h7 : σ 26 7 = p) (hI : sw_I σ) (hJ : ch_J σ) : zm_Met g mX8_sawThrough σ [.ref (g.2.2.1 26), zv_i tp, zv_i gr] (fun v τ => ∃ h x l1 l2 u' p', v = some (zv_i x) ∧ sw_O σ τ (10 * tp) gr h x l1 l2 u' p') := by
  refine zm_of (by decide +kernel) (Nat.le_of_ble_eq_true rfl) ?_
  intro k C hr
  show zw_W g mX8_sawThrough k 0 [(0, .ref (g.2.2.1 26)), (1, zv_i tp), (2, zv_i gr)] [] σ
  obtain ⟨s, hs⟩ : ∃ s, s = sw_s σ := ⟨_, rfl⟩
  obtain ⟨pr, hpr⟩ : ∃ pr, pr = sw_p σ gr := ⟨_, rfl⟩
  obtain ⟨rc, hrc⟩ : ∃ rc, rc = sw_r σ (10 * tp) := ⟨_, rfl⟩
  obtain ⟨gp, hgp⟩ : ∃ gp, gp = σ 26 3 := ⟨_, rfl⟩
  have hU : sw_U s pr := fun k y1 y2 => by
    have q := sw_pb hI hgr ⟨y1, y2⟩
    rw [hs, hpr]
    refine ⟨q.2.2.1, fun z => ?_⟩
    have := q.2.1 z
    have := hI.2.1
    unfold sw_s
    omega
  refine zr_bipush (pc := 0) C dX8_sawThrough_0 (by decide) ?_
  refine zr_iload_n (pc := 2) C dX8_sawThrough_2 1 rfl ?_
  refine zr_imul (pc := 3) C dX8_sawThrough_3 ?_
  refine zr_istore_n (L' := [(3, zv_i (10 * tp)), (0, .ref (g.2.2.1 26)), (1, zv_i tp), (2, zv_i gr)]) (pc := 4) C dX8_sawThrough_4 (by decide) rfl ?_
  refine zr_aload_n (pc := 5) C dX8_sawThrough_5 1 rfl ?_
  refine zr_iload_n (pc := 6) C dX8_sawThrough_6 0 rfl ?_
  refine zr_iload_n (pc := 7) C dX8_sawThrough_7 3 rfl ?_
  refine zr_callV (As := [zv_i (10 * tp), zv_i gr]) (rest := []) (b := 26) (pc := 8) C dX8_sawThrough_8 kX8_prepare vX8_49 rfl (by decide) (by decide) (hs_26 _) rfl (Nat.le_of_ble_eq_true rfl) (m_prep g σ (10 * tp) gr (by omega) (by exact hgr) (by exact hI)) (fun v_ τ_ h_ => ?_)
  obtain ⟨rfl, h_2⟩ := h_
  generalize τ_ = τ_1 at h_2 ⊢
  show zw_W g mX8_sawThrough k 11 [(3, zv_i (10 * tp)), (0, .ref (g.2.2.1 26)), (1, zv_i tp), (2, zv_i gr)] [] τ_1
  obtain ⟨f1, hA⟩ := h_2
  have hC : sw_C τ_1 s pr rc gp := by
    refine ⟨⟨by have := hI.2.1; omega, by have := hI.2.1; omega, by rw [f1 26 (by decide), hgp]⟩, fun x y1 y2 => by rw [f1 49 (by decide)]; exact hJ x y1 y2, fun x y1 y2 => ?_⟩
    obtain ⟨a1, a2, a3⟩ := hA x y1 y2
    have q := sw_pb hI hgr ⟨y1, y2⟩
    have w0 := (hI.1 x y1 y2).2.1
    rw [hs, hpr, hrc]
    refine ⟨⟨a1, a2, a3⟩, q.2.2, q.1, fun z => ?_, ro_mb (by omega) w0.1⟩
    have := q.2.1 z
    have := hI.2.1
    unfold sw_s
    omega
  have h71 : τ_1 26 7 = p := (f1 26 (by decide) 7).trans h7
  have h61 : τ_1 26 6 = u := (f1 26 (by decide) 6).trans h6
  refine zr_aload_n (pc := 11) C dX8_sawThrough_11 1 rfl ?_
  refine zr_callV (As := []) (rest := []) (b := 26) (pc := 12) C dX8_sawThrough_12 kX8_tryWithoutCant vX8_53 rfl (by decide) (by decide) (hs_26 _) rfl (Nat.le_of_ble_eq_true rfl) (m_noCant g τ_1 p hp s pr rc gp (by exact h71) (by exact hC)) (fun v_ τ_ h_ => ?_)
  obtain ⟨rfl, h_4⟩ := h_
  generalize τ_ = τ_3 at h_4 ⊢
  show zw_W g mX8_sawThrough k 15 [(3, zv_i (10 * tp)), (0, .ref (g.2.2.1 26)), (1, zv_i tp), (2, zv_i gr)] [] τ_3
  obtain ⟨f2, hJ2, x0, l0, x1, x2, x3⟩ := h_4
  have h72 : τ_3 26 7 = p := (f2 26 (by simp; omega) 7).trans h71
  have h62 : τ_3 26 6 = u := (f2 26 (by simp; omega) 6).trans h61
  refine zr_aload_n (pc := 15) C dX8_sawThrough_15 1 rfl ?_
  refine zr_callV (As := []) (rest := []) (b := 26) (pc := 16) C dX8_sawThrough_16 kX8_keepTrial vX8_56 rfl (by decide) (by decide) (hs_26 _) rfl (Nat.le_of_ble_eq_true rfl) (m_keepTrial g τ_3 p u hp hu (by exact h62) (by exact h72)) (fun v_ τ_ h_ => ?_)
  obtain ⟨rfl, h_6⟩ := h_
  generalize τ_ = τ_5 at h_6 ⊢
  show zw_W g mX8_sawThrough k 19 [(3, zv_i (10 * tp)), (0, .ref (g.2.2.1 26)), (1, zv_i tp), (2, zv_i gr)] [] τ_5
  refine zr_iconst (pc := 19) C dX8_sawThrough_19 ?_
  refine zr_istore (L' := [(4, zv_i 0), (3, zv_i (10 * tp)), (0, .ref (g.2.2.1 26)), (1, zv_i tp), (2, zv_i gr)]) (pc := 20) C dX8_sawThrough_20 (by decide) rfl ?_
  obtain ⟨k1, k2, k3, k4⟩ := h_6
  have hC2 : sw_C τ_5 s pr rc gp := ⟨⟨hC.1.1, hC.1.2.1, by rw [k3, f2 26 (by simp; omega)]; exact hC.1.2.2⟩, fun x y1 y2 => by rw [k4 49 (by simp)]; exact hJ2 x y1 y2, fun x y1 y2 => by rw [k4 46 (by simp), k4 47 (by simp), k4 50 (by simp), f2 46 (by simp; omega), f2 47 (by simp; omega), f2 50 (by simp; omega)]; exact hC.2.2 x y1 y2⟩
  refine zr_sub [2, 3, 4, 1, 0] rfl ?_
  refine l_saw1 C hr s pr rc (sw_w σ) (σ 44) gp (10 * tp) tp gr (by omega) σ hU (fun k y1 y2 => ⟨rfl, (hI.1 k y1 y2).2.1⟩) (fun a y1 y2 => ⟨rfl, hI.2.2.1 a y1 y2⟩) (fun σ1 p' u' ht vl l1 l2 q1 q2 q3 q4 q5 q6 q7 q8 q9 => ?_) 5 τ_5 u p 0 (-1) x0 [] l0 (by omega) ⟨⟨hu, hp, Ne.symm hpu⟩, by omega, by omega⟩ ⟨k1, k2⟩ (fun c c1 c2 j => by rw [k4 c (by simp; omega), f2 c (by simp; omega), f1 c (by simp; omega)]) hC2 (pd_Rx (by rw [show sw_F gp (-1) = -2 * gp from if_pos rfl]; exact x3) (fun c c1 c2 j => k4 c (by simp; omega) j)) (Or.inl ⟨rfl, rfl, x2⟩) (sw_Xn hU x2) (by omega) ⟨fun k hk => by simp at hk, ch_Om x2⟩
  refine zr_iconst (pc := 77) C dX8_sawThrough_77 ?_
  refine zr_istore (L' := [(4, zv_i 0), (0, .ref (g.2.2.1 26))]) (pc := 78) C dX8_sawThrough_78 (by decide) rfl ?_
  refine zr_sub [1, 0] rfl ?_
  refine l_saw2 C hr s pr u' q1.2.1 ht vl (sw_F gp ht) l1 l2 σ1 q2.1 q5 q8 q9 (fun k y1 y2 => (q4.2.2 k y1 y2).1.2.1) (fun k y1 y2 => by rw [q3 41 (by omega) (by omega)]; exact hI.2.2.2.1 k y1 y2) (fun τ z1 z2 => ⟨ht, vl, l1, l2, u', p', rfl, ?_⟩) 7 σ1 0 (by omega) (by omega) (zf_r σ1 _) (fun y y1 y2 => absurd y2 (by omega)) (fun y _ => rfl)
  have o1 := q1.1
  have o2 := q1.2.1
  have o3 := q1.2.2
  rw [hs, hpr, hrc, hgp] at q6 q7
  have q5' : pd_R τ u' (sw_s σ) ht vl l1 l2 (sw_F (σ 26 3) ht) := by rw [← hs, ← hgp]; exact pd_Rx q5 (fun c c1 c2 j => z1 c (by simp; omega) j)
  refine ⟨q6, q7, ⟨o2, o1, o3⟩, ⟨by rw [z1 26 (by simp; omega)]; exact q2.1, by rw [z1 26 (by simp; omega)]; exact q2.2, by rw [z1 26 (by simp; omega), q4.1.2.2, hgp]⟩, q5', fun y y1 y2 => ?_, fun x y1 y2 => by rw [z1 49 (by simp; omega)]; exact q4.2.1 x y1 y2, pd_I q5' q8.2 q8.1 q9.1 q9.2, fun c c1 c2 c3 j => by rw [z1 c (by simp; omega)]; exact q3 c c1 c2 j⟩
  rw [(z2 y y1 y2).1, (z2 y y1 y2).2, hpr, q3 41 (by omega) (by omega)]
  exact ⟨rfl, rfl⟩
