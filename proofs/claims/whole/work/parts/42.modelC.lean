set_option maxRecDepth 20000 in
set_option maxHeartbeats 4000000 in
theorem l_bk1 {g : zg_G} {k : zk_T} {Q : Option Value → zs_S → Prop} (C : zk_ok g mX11_buck k) (hr : zk_ret g mX11_buck Q k) (n : Int) (hn : 1 ≤ n ∧ n ≤ 80) (σ0 : zs_S) (hex : ∀ σ1, zf_x σ0 σ1 [88] → (∀ x, 0 ≤ x → x ≤ n + 1 → σ1 88 x = 0) → zw_W g mX11_buck k 32 [(0, .ref (g.2.2.1 67)), (1, zv_i (n + 1))] [] σ1) : ∀ (N : Nat) (σ : zs_S) (a : Int), (n + 2 - a).toNat < N → (0 ≤ a ∧ a ≤ n + 2) → (zf_x σ0 σ [88]) → (∀ x, 0 ≤ x → x < a → σ 88 x = 0) → zw_W g mX11_buck k 14 [(0, .ref (g.2.2.1 67)), (1, zv_i (n + 1)), (2, zv_i a)] [] σ := by
  intro N
  induction N with
  | zero =>
    intro σ a hN
    exact absurd hN (by omega)
  | succ N ih =>
    intro σ a hN ha fr h0
    refine zr_iload_n (pc := 14) C dX11_buck_14 2 rfl ?_
    refine zr_iload_n (pc := 15) C dX11_buck_15 1 rfl ?_
    refine zr_icmp_gt (pc := 16) C 32 dX11_buck_16 (by decide) (by omega) (by omega) (fun h_1 => ?_) (fun h_1 => ?_)
    · refine zr_sub [0, 1] rfl ?_
      exact hex σ fr (fun x x1 x2 => h0 x x1 (by omega))
    · refine zr_aload_n (pc := 19) C dX11_buck_19 0 rfl ?_
      refine zr_get (v := .ref (g.2.2.1 88)) (pc := 20) C 27 (some (some 88)) dX11_buck_20 fX11_70 (by decide) (hs_67 _) rfl rfl ?_
      refine zr_iload_n (pc := 23) C dX11_buck_23 2 rfl ?_
      refine zr_iconst (pc := 24) C dX11_buck_24 ?_
      refine zr_iastore (pc := 25) C dX11_buck_25 (by decide) (hs_88 _) (by omega) (by decide) (fun τ_2 e_3 => ?_)
      refine zr_iinc (L' := [(2, zv_i (a + 1)), (0, .ref (g.2.2.1 67)), (1, zv_i (n + 1))]) (pc := 26) C dX11_buck_26 2 rfl (by decide) rfl ?_
      refine zr_goto (pc := 29) C 14 dX11_buck_29 (by decide) ?_
      refine zr_sub [1, 2, 0] rfl ?_
      exact ih τ_2 (a + 1) (by omega) (by omega) (zf_p fr e_3 (by decide)) (fun x x1 x2 => by
        rw [e_3, zs_put_at]
        by_cases z : x = a
        · rw [if_pos z]
        · rw [if_neg z]; exact h0 x x1 (by omega))

set_option maxRecDepth 20000 in
set_option maxHeartbeats 4000000 in
theorem l_bk2i {g : zg_G} {k : zk_T} {Q : Option Value → zs_S → Prop} (C : zk_ok g mX11_buck k) (hr : zk_ret g mX11_buck Q k) (n : Int) (σ0 : zs_S) (hA : md_A σ0 n) (B K : Int → Int) (hz : bk_z σ0 n B K) (p : Int) (hp : 0 ≤ p ∧ p ≤ n) (hex : ∀ σ1, zf_x σ0 σ1 [88] → mb_U n B (σ1 88) → mb_E σ0 n (σ1 88) (p + 1) → zw_W g mX11_buck k 147 [(0, .ref (g.2.2.1 67)), (1, zv_i (n + 1)), (2, zv_i p)] [] σ1) : ∀ (N : Nat) (σ : zs_S) (a : Int), (6 - a).toNat < N → (0 ≤ a ∧ a ≤ 6) → (zf_x σ0 σ [88]) → (mb_U n B (σ 88)) → (mb_E σ0 n (σ 88) p) → (mb_I σ0 n (σ 88) p a) → zw_W g mX11_buck k 75 [(0, .ref (g.2.2.1 67)), (1, zv_i (n + 1)), (2, zv_i p), (3, zv_i a)] [] σ := by
  intro N
  induction N with
  | zero =>
    intro σ a hN
    exact absurd hN (by omega)
  | succ N ih =>
    intro σ a hN ha0 fr hU hE hI
    obtain ⟨hS, hK, hl, hd, hk, hc20, hdf, hgr⟩ := id hA
    obtain ⟨hn1, hn2, hlast, hd3, hd4⟩ := id hS
    have hA1 : md_A σ n := md_Af hA fr (by simp)
    have hE1 : md_E σ0 σ := md_Ef (md_Er σ0) fr (by simp)
    have e67 : σ 67 1 = n := hA1.2.2.1
    have vB : ∀ x, 0 ≤ x → x ≤ n + 1 → 0 ≤ σ 88 x ∧ σ 88 x ≤ 81000000 := fun x x1 x2 => by
      have u := hU x x1 x2
      have b := mb_1 hz ⟨hn1, hn2⟩ ⟨x1, x2⟩
      omega
    refine zr_iload_n (pc := 75) C dX11_buck_75 3 rfl ?_
    refine zr_bipush (pc := 76) C dX11_buck_76 (by decide) ?_
    refine zr_icmp_ge (pc := 78) C 147 dX11_buck_78 (by decide) (by omega) (by omega) (fun h_1 => ?_) (fun h_1 => ?_)
    · refine zr_sub [0, 1, 2] rfl ?_
      have e6 : a = 6 := by omega
      subst e6
      exact hex σ fr hU (mb_Ei hE hI)
    · have ev := md_Ev (n := n) (p := p) (j := a) hE1 ⟨by omega, by omega⟩
      refine zr_aload_n (pc := 81) C dX11_buck_81 0 rfl ?_
      refine zr_iload_n (pc := 82) C dX11_buck_82 3 rfl ?_
      refine zr_iload_n (pc := 83) C dX11_buck_83 2 rfl ?_
      refine zr_callV (As := [zv_i a, zv_i p]) (rest := []) (b := 67) (pc := 84) C dX11_buck_84 kX11_isAllowed vX11_108 rfl (by decide) (by decide) (hs_67 _) rfl (Nat.le_of_ble_eq_true rfl) (n_allowed g σ n a p (by omega) (by omega) (by exact hA1)) (fun v_ τ_ h_ => ?_)
      obtain ⟨rfl, rfl⟩ := h_
      show zw_W g mX11_buck k 87 [(0, .ref (g.2.2.1 67)), (1, zv_i (n + 1)), (2, zv_i p), (3, zv_i a)] [zv_i (zi_b (bk_a σ n p a))] σ
      refine zr_if_ne_b (pc := 87) C 93 dX11_buck_87 (by decide) (fun h_2 => ?_) (fun h_2 => ?_)
      · have ha := ev.1.mp h_2
        have a1 : 0 < bk_n σ0 a := ha.1
        have a2 : p + bk_n σ0 a ≤ n := ha.2.1
        have et : p + σ 72 a + 1 = p + bk_n σ0 a + 1 := by rw [(hA1.2.2.2.2.1 a (by omega) (by omega)).1]; show p + bk_n σ a + 1 = _; rw [ev.2.2.1]
        have vb := bk_vb hS hK (j := a) (by omega) (by omega) ha
        rw [← ev.2.1] at vb
        have bb := (mb_B hz (p := p) (by omega)).2.1 a (by omega) (by omega) ha
        have v1 := vB p (by omega) (by omega)
        have v2 := vB (p + σ 72 a + 1) (by omega) (by omega)
        refine zr_iload_n (pc := 93) C dX11_buck_93 2 rfl ?_
        refine zr_aload_n (pc := 94) C dX11_buck_94 0 rfl ?_
        refine zr_get (v := .ref (g.2.2.1 72)) (pc := 95) C 7 (some (some 72)) dX11_buck_95 fX11_22 (by decide) (hs_67 _) rfl rfl ?_
        refine zr_iload_n (pc := 98) C dX11_buck_98 3 rfl ?_
        refine zr_iaload (pc := 99) C dX11_buck_99 (by decide) (hs_72 _) (by omega) (by decide) ?_
        refine zr_iadd (pc := 100) C dX11_buck_100 ?_
        refine zr_iconst (pc := 101) C dX11_buck_101 ?_
        refine zr_iadd (pc := 102) C dX11_buck_102 ?_
        refine zr_istore (L' := [(4, zv_i ((p + (σ 72 a)) + 1)), (0, .ref (g.2.2.1 67)), (1, zv_i (n + 1)), (2, zv_i p), (3, zv_i a)]) (pc := 103) C dX11_buck_103 (by decide) rfl ?_
        refine zr_aload_n (pc := 105) C dX11_buck_105 1 rfl ?_
        refine zr_get (v := .ref (g.2.2.1 88)) (pc := 106) C 27 (some (some 88)) dX11_buck_106 fX11_70 (by decide) (hs_67 _) rfl rfl ?_
        refine zr_iload_n (pc := 109) C dX11_buck_109 3 rfl ?_
        refine zr_iaload (pc := 110) C dX11_buck_110 (by decide) (hs_88 _) (by omega) (by decide) ?_
        refine zr_aload_n (pc := 111) C dX11_buck_111 1 rfl ?_
        refine zr_iload_n (pc := 112) C dX11_buck_112 4 rfl ?_
        refine zr_iload_n (pc := 113) C dX11_buck_113 3 rfl ?_
        refine zr_callV (As := [zv_i a, zv_i p]) (rest := [zv_i (σ 88 p)]) (b := 67) (pc := 114) C dX11_buck_114 kX11_worth vX11_105 rfl (by decide) (by decide) (hs_67 _) rfl (Nat.le_of_ble_eq_true rfl) (n_worth g σ n a p (by omega) (by omega) (by exact hA1) (by exact ev.1.mpr ha)) (fun v_ τ_ h_ => ?_)
        obtain ⟨rfl, rfl⟩ := h_
        show zw_W g mX11_buck k 117 [(4, zv_i ((p + (σ 72 a)) + 1)), (0, .ref (g.2.2.1 67)), (1, zv_i (n + 1)), (2, zv_i p), (3, zv_i a)] [zv_i (bk_v σ p a), zv_i (σ 88 p)] σ
        refine zr_iadd (pc := 117) C dX11_buck_117 ?_
        refine zr_istore (L' := [(5, zv_i ((σ 88 p) + (bk_v σ p a))), (4, zv_i ((p + (σ 72 a)) + 1)), (0, .ref (g.2.2.1 67)), (1, zv_i (n + 1)), (2, zv_i p), (3, zv_i a)]) (pc := 118) C dX11_buck_118 (by decide) rfl ?_
        refine zr_iload (pc := 120) C dX11_buck_120 0 rfl ?_
        refine zr_aload_n (pc := 122) C dX11_buck_122 2 rfl ?_
        refine zr_get (v := .ref (g.2.2.1 88)) (pc := 123) C 27 (some (some 88)) dX11_buck_123 fX11_70 (by decide) (hs_67 _) rfl rfl ?_
        refine zr_iload (pc := 126) C dX11_buck_126 1 rfl ?_
        refine zr_iaload (pc := 128) C dX11_buck_128 (by decide) (hs_88 _) (by omega) (by decide) ?_
        refine zr_icmp_le (pc := 129) C 141 dX11_buck_129 (by decide) (by omega) (by omega) (fun h_3 => ?_) (fun h_3 => ?_)
        · refine zr_iinc (L' := [(3, zv_i (a + 1)), (5, zv_i ((σ 88 p) + (bk_v σ p a))), (4, zv_i ((p + (σ 72 a)) + 1)), (0, .ref (g.2.2.1 67)), (1, zv_i (n + 1)), (2, zv_i p)]) (pc := 141) C dX11_buck_141 5 rfl (by decide) rfl ?_
          refine zr_goto (pc := 144) C 75 dX11_buck_144 (by decide) ?_
          refine zr_sub [3, 4, 5, 0] rfl ?_
          exact ih σ (a + 1) (by omega) (by omega) fr hU hE (mb_Is hI (fun _ => by rw [← et, ← ev.2.1]; omega))
        · refine zr_aload_n (pc := 132) C dX11_buck_132 2 rfl ?_
          refine zr_get (v := .ref (g.2.2.1 88)) (pc := 133) C 27 (some (some 88)) dX11_buck_133 fX11_70 (by decide) (hs_67 _) rfl rfl ?_
          refine zr_iload (pc := 136) C dX11_buck_136 1 rfl ?_
          refine zr_iload (pc := 138) C dX11_buck_138 0 rfl ?_
          refine zr_iastore (pc := 140) C dX11_buck_140 (by decide) (hs_88 _) (by omega) (by decide) (fun τ_4 e_5 => ?_)
          refine zr_iinc (L' := [(3, zv_i (a + 1)), (5, zv_i ((σ 88 p) + (bk_v σ p a))), (4, zv_i ((p + (σ 72 a)) + 1)), (0, .ref (g.2.2.1 67)), (1, zv_i (n + 1)), (2, zv_i p)]) (pc := 141) C dX11_buck_141 5 rfl (by decide) rfl ?_
          refine zr_goto (pc := 144) C 75 dX11_buck_144 (by decide) ?_
          have hW : ∀ x, τ_4 88 x = if x = p + σ 72 a + 1 then σ 88 p + bk_v σ p a else σ 88 x := fun x => by rw [e_5, zs_put_at]
          have hI2 := mb_Iu hI hW (by omega) (by omega)
          refine zr_sub [3, 4, 5, 0] rfl ?_
          exact ih τ_4 (a + 1) (by omega) (by omega) (zf_p fr e_5 (by decide)) (mb_Uu hU hW (by omega) (by have u := hU p (by omega) (by omega); rw [← et, ← ev.2.1] at bb; omega)) (mb_Eu hE hW (by omega) (by omega)) (mb_Is hI2 (fun _ => by rw [← et, hW p, if_neg (by omega), hW (p + σ 72 a + 1), if_pos rfl, ev.2.1]; exact Int.le_refl _))
      · refine zr_goto (pc := 90) C 141 dX11_buck_90 (by decide) ?_
        refine zr_iinc (L' := [(3, zv_i (a + 1)), (0, .ref (g.2.2.1 67)), (1, zv_i (n + 1)), (2, zv_i p)]) (pc := 141) C dX11_buck_141 3 rfl (by decide) rfl ?_
        refine zr_goto (pc := 144) C 75 dX11_buck_144 (by decide) ?_
        refine zr_sub [1, 2, 3, 0] rfl ?_
        exact ih σ (a + 1) (by omega) (by omega) fr hU hE (mb_Is hI (fun z => absurd (ev.1.mpr z) h_2))

set_option maxRecDepth 20000 in
set_option maxHeartbeats 4000000 in
theorem l_bk2 {g : zg_G} {k : zk_T} {Q : Option Value → zs_S → Prop} (C : zk_ok g mX11_buck k) (hr : zk_ret g mX11_buck Q k) (n : Int) (σ0 : zs_S) (hA : md_A σ0 n) (B K : Int → Int) (hz : bk_z σ0 n B K) (hex : ∀ σ1, zf_x σ0 σ1 [88] → mb_U n B (σ1 88) → mb_E σ0 n (σ1 88) (n + 1) → zw_W g mX11_buck k 153 [(0, .ref (g.2.2.1 67)), (1, zv_i (n + 1))] [] σ1) : ∀ (N : Nat) (σ : zs_S) (p : Int), (n + 1 - p).toNat < N → (0 ≤ p ∧ p ≤ n + 1) → (zf_x σ0 σ [88]) → (mb_U n B (σ 88)) → (mb_E σ0 n (σ 88) p) → zw_W g mX11_buck k 34 [(0, .ref (g.2.2.1 67)), (1, zv_i (n + 1)), (2, zv_i p)] [] σ := by
  intro N
  induction N with
  | zero =>
    intro σ p hN
    exact absurd hN (by omega)
  | succ N ih =>
    intro σ p hN hp fr hU hE
    obtain ⟨hS, hK, hl, hd, hk, hc20, hdf, hgr⟩ := id hA
    obtain ⟨hn1, hn2, hlast, hd3, hd4⟩ := id hS
    have hA1 : md_A σ n := md_Af hA fr (by simp)
    have hE1 : md_E σ0 σ := md_Ef (md_Er σ0) fr (by simp)
    have e67 : σ 67 1 = n := hA1.2.2.1
    have vB : ∀ x, 0 ≤ x → x ≤ n + 1 → 0 ≤ σ 88 x ∧ σ 88 x ≤ 81000000 := fun x x1 x2 => by
      have u := hU x x1 x2
      have b := mb_1 hz ⟨hn1, hn2⟩ ⟨x1, x2⟩
      omega
    refine zr_iload_n (pc := 34) C dX11_buck_34 2 rfl ?_
    refine zr_aload_n (pc := 35) C dX11_buck_35 0 rfl ?_
    refine zr_get (v := zv_i (σ 67 1)) (pc := 36) C 1 none dX11_buck_36 fX11_77 (by decide) (hs_67 _) rfl rfl ?_
    refine zr_icmp_gt (pc := 39) C 153 dX11_buck_39 (by decide) (by omega) (by omega) (fun h_1 => ?_) (fun h_1 => ?_)
    · refine zr_sub [0, 1] rfl ?_
      have e6 : p = n + 1 := by omega
      subst e6
      exact hex σ fr hU hE
    · have v1 := vB p (by omega) (by omega)
      have v2 := vB (p + 1) (by omega) (by omega)
      have bb := (mb_B hz (p := p) (by omega)).1
      have u := hU p (by omega) (by omega)
      refine zr_aload_n (pc := 42) C dX11_buck_42 0 rfl ?_
      refine zr_get (v := .ref (g.2.2.1 88)) (pc := 43) C 27 (some (some 88)) dX11_buck_43 fX11_70 (by decide) (hs_67 _) rfl rfl ?_
      refine zr_iload_n (pc := 46) C dX11_buck_46 2 rfl ?_
      refine zr_iaload (pc := 47) C dX11_buck_47 (by decide) (hs_88 _) (by omega) (by decide) ?_
      refine zr_aload_n (pc := 48) C dX11_buck_48 0 rfl ?_
      refine zr_get (v := .ref (g.2.2.1 88)) (pc := 49) C 27 (some (some 88)) dX11_buck_49 fX11_70 (by decide) (hs_67 _) rfl rfl ?_
      refine zr_iload_n (pc := 52) C dX11_buck_52 2 rfl ?_
      refine zr_iconst (pc := 53) C dX11_buck_53 ?_
      refine zr_iadd (pc := 54) C dX11_buck_54 ?_
      refine zr_iaload (pc := 55) C dX11_buck_55 (by decide) (hs_88 _) (by omega) (by decide) ?_
      refine zr_icmp_le (pc := 56) C 73 dX11_buck_56 (by decide) (by omega) (by omega) (fun h_2 => ?_) (fun h_2 => ?_)
      · refine zr_iconst (pc := 73) C dX11_buck_73 ?_
        refine zr_istore_n (L' := [(3, zv_i 0), (0, .ref (g.2.2.1 67)), (1, zv_i (n + 1)), (2, zv_i p)]) (pc := 74) C dX11_buck_74 (by decide) rfl ?_
        refine zr_sub [1, 2, 3, 0] rfl ?_
        refine l_bk2i C hr n σ0 hA B K hz p (by omega) (fun σ1 f1 U1 E1 => ?_) 7 σ 0 (by omega) (by omega) fr hU hE ⟨by omega, fun j j1 j2 => absurd j2 (by omega)⟩
        refine zr_iinc (L' := [(2, zv_i (p + 1)), (0, .ref (g.2.2.1 67)), (1, zv_i (n + 1))]) (pc := 147) C dX11_buck_147 2 rfl (by decide) rfl ?_
        refine zr_goto (pc := 150) C 34 dX11_buck_150 (by decide) ?_
        refine zr_sub [1, 2, 0] rfl ?_
        exact ih σ1 (p + 1) (by omega) (by omega) f1 U1 E1
      · refine zr_aload_n (pc := 59) C dX11_buck_59 0 rfl ?_
        refine zr_get (v := .ref (g.2.2.1 88)) (pc := 60) C 27 (some (some 88)) dX11_buck_60 fX11_70 (by decide) (hs_67 _) rfl rfl ?_
        refine zr_iload_n (pc := 63) C dX11_buck_63 2 rfl ?_
        refine zr_iconst (pc := 64) C dX11_buck_64 ?_
        refine zr_iadd (pc := 65) C dX11_buck_65 ?_
        refine zr_aload_n (pc := 66) C dX11_buck_66 0 rfl ?_
        refine zr_get (v := .ref (g.2.2.1 88)) (pc := 67) C 27 (some (some 88)) dX11_buck_67 fX11_70 (by decide) (hs_67 _) rfl rfl ?_
        refine zr_iload_n (pc := 70) C dX11_buck_70 2 rfl ?_
        refine zr_iaload (pc := 71) C dX11_buck_71 (by decide) (hs_88 _) (by omega) (by decide) ?_
        refine zr_iastore (pc := 72) C dX11_buck_72 (by decide) (hs_88 _) (by omega) (by decide) (fun τ_3 e_4 => ?_)
        refine zr_iconst (pc := 73) C dX11_buck_73 ?_
        refine zr_istore_n (L' := [(3, zv_i 0), (0, .ref (g.2.2.1 67)), (1, zv_i (n + 1)), (2, zv_i p)]) (pc := 74) C dX11_buck_74 (by decide) rfl ?_
        refine zr_sub [1, 2, 3, 0] rfl ?_
        have hW : ∀ x, τ_3 88 x = if x = p + 1 then σ 88 p else σ 88 x := fun x => by rw [e_4, zs_put_at]
        refine l_bk2i C hr n σ0 hA B K hz p (by omega) (fun σ1 f1 U1 E1 => ?_) 7 τ_3 0 (by omega) (by omega) (zf_p fr e_4 (by decide)) (mb_Uu hU hW (by omega) (by omega)) (mb_Eu hE hW (by omega) (by omega)) ⟨by rw [hW, hW, if_neg (by omega), if_pos rfl]; exact Int.le_refl _, fun j j1 j2 => absurd j2 (by omega)⟩
        refine zr_iinc (L' := [(2, zv_i (p + 1)), (0, .ref (g.2.2.1 67)), (1, zv_i (n + 1))]) (pc := 147) C dX11_buck_147 2 rfl (by decide) rfl ?_
        refine zr_goto (pc := 150) C 34 dX11_buck_150 (by decide) ?_
        refine zr_sub [1, 2, 0] rfl ?_
        exact ih σ1 (p + 1) (by omega) (by omega) f1 U1 E1
