theorem sw_big {s pr wd : Int → Int} {h d gp r : Int} {l : List Int} (hU : sw_U s pr) (hh : d < h) (hd : 0 ≤ d ∧ d ≤ 9000) (hO : ch_O s pr (sw_lr wd pr h (ro_m d h) gp) r l) : r = 0 := by
  have e : ro_m d h = -1 := by
    unfold ro_m
    rw [if_pos]
    have q1 : d * d ≤ d * h := Int.mul_le_mul_of_nonneg_left (by omega) hd.1
    have q2 : d * h < h * h := Int.mul_lt_mul_of_pos_right hh (by omega)
    omega
  obtain ⟨G, Mk, hM, hG, rfl, -⟩ := hO
  have el : ∀ k, sw_lr wd pr h (ro_m d h) gp k = -1 := fun k => by unfold sw_lr; rw [if_neg (by rw [e]; exact fun z => z.2.2 rfl)]
  rw [hG 0 hM.1]
  have z : ∀ j : Nat, j ≤ 6 → ch_f s pr (sw_lr wd pr h (ro_m d h) gp) G 0 j = 0 := by
    intro j
    induction j with
    | zero => intro _; rfl
    | succ j ih =>
      intro hj
      have := (hU j (by omega) (by omega)).1
      rw [ch_f, if_neg (by rw [el]; omega)]
      exact ih (by omega)
  exact z 6 (by omega)
set_option maxRecDepth 20000 in
set_option maxHeartbeats 4000000 in
theorem l_nswC {g : zg_G} {k : zk_T} {Q : Option Value → zs_S → Prop} (C : zk_ok g mX11_saw k) (hr : zk_ret g mX11_saw Q k) (ii d mo ch a : Int) (ha : 0 ≤ a ∧ a ≤ 4) (σs : zs_S) (hex : ∀ σ1, zf_x σs σ1 [87] → (∀ y, 0 ≤ y → y < 300 → σ1 87 y = (if a < 4 then σs 85 y else -1) ∧ σ1 87 (300 + y) = σs 86 y) → zw_W g mX11_saw k 306 [(0, .ref (g.2.2.1 67)), (1, zv_i ii), (2, zv_i d), (3, zv_i mo), (4, zv_i ch), (5, zv_i a)] [] σ1) : ∀ (N : Nat) (σ : zs_S) (t : Int), (300 - t).toNat < N → (0 ≤ t ∧ t ≤ 300) → (zf_x σs σ [87]) → (∀ y, 0 ≤ y → y < t → σ 87 y = (if a < 4 then σs 85 y else -1) ∧ σ 87 (300 + y) = σs 86 y) → zw_W g mX11_saw k 250 [(0, .ref (g.2.2.1 67)), (1, zv_i ii), (2, zv_i d), (3, zv_i mo), (4, zv_i ch), (5, zv_i a), (8, zv_i t)] [] σ := by
  intro N
  induction N with
  | zero =>
    intro σ t hN
    exact absurd hN (by omega)
  | succ N ih =>
    intro σ t hN ht fr hx
    refine zr_iload (pc := 250) C dX11_saw_250 6 rfl ?_
    refine zr_sipush (pc := 252) C dX11_saw_252 (by decide) ?_
    refine zr_icmp_ge (pc := 255) C 306 dX11_saw_255 (by decide) (by omega) (by omega) (fun h_1 => ?_) (fun h_1 => ?_)
    · refine zr_sub [0, 1, 2, 3, 4, 5] rfl ?_
      exact hex σ fr (fun y y1 y2 => hx y y1 (by omega))
    · refine zr_aload_n (pc := 258) C dX11_saw_258 0 rfl ?_
      refine zr_get (v := .ref (g.2.2.1 87)) (pc := 259) C 26 (some (some 87)) dX11_saw_259 fX11_67 (by decide) (hs_67 _) rfl rfl ?_
      refine zr_iload (pc := 262) C dX11_saw_262 6 rfl ?_
      refine zr_iload (pc := 264) C dX11_saw_264 5 rfl ?_
      refine zr_iconst (pc := 266) C dX11_saw_266 ?_
      refine zr_icmp_ge (pc := 267) C 280 dX11_saw_267 (by decide) (by omega) (by omega) (fun h_2 => ?_) (fun h_2 => ?_)
      · refine zr_iconst (pc := 280) C dX11_saw_280 ?_
        refine zr_iastore (pc := 281) C dX11_saw_281 (by decide) (hs_87 _) (by omega) (by decide) (fun τ_3 e_4 => ?_)
        refine zr_aload_n (pc := 282) C dX11_saw_282 0 rfl ?_
        refine zr_get (v := .ref (g.2.2.1 87)) (pc := 283) C 26 (some (some 87)) dX11_saw_283 fX11_67 (by decide) (hs_67 _) rfl rfl ?_
        refine zr_sipush (pc := 286) C dX11_saw_286 (by decide) ?_
        refine zr_iload (pc := 289) C dX11_saw_289 6 rfl ?_
        refine zr_iadd (pc := 291) C dX11_saw_291 ?_
        refine zr_aload_n (pc := 292) C dX11_saw_292 0 rfl ?_
        refine zr_get (v := .ref (g.2.2.1 86)) (pc := 293) C 25 (some (some 86)) dX11_saw_293 fX11_64 (by decide) (hs_67 _) rfl rfl ?_
        refine zr_iload (pc := 296) C dX11_saw_296 6 rfl ?_
        refine zr_iaload (pc := 298) C dX11_saw_298 (by decide) (hs_86 _) (by omega) (by decide) ?_
        have hv86 : τ_3 86 t = σs 86 t := by rw [e_4, zs_put_ne (by decide)]; exact fr 86 (by decide) t
        refine zr_iastore (pc := 299) C dX11_saw_299 (by decide) (hs_87 _) (by omega) (by decide) (fun τ_5 e_6 => ?_)
        refine zr_iinc (L' := [(8, zv_i (t + 1)), (0, .ref (g.2.2.1 67)), (1, zv_i ii), (2, zv_i d), (3, zv_i mo), (4, zv_i ch), (5, zv_i a)]) (pc := 300) C dX11_saw_300 6 rfl (by decide) rfl ?_
        refine zr_goto (pc := 303) C 250 dX11_saw_303 (by decide) ?_
        have r1 : ∀ y, y < 300 → τ_5 87 y = if y = t then (-1) else σ 87 y := fun y hy => by
          rw [e_6, zs_put_off (by omega), e_4, zs_put_at]
        have r2 : ∀ y, 0 ≤ y → τ_5 87 (300 + y) = if y = t then σs 86 t else σ 87 (300 + y) := fun y hy => by
          rw [e_6, zs_put_at, hv86]
          by_cases z : y = t
          · rw [if_pos (by omega), if_pos z]
          · rw [if_neg (by omega), if_neg z, e_4, zs_put_off (by omega)]
        refine zr_sub [1, 2, 3, 4, 5, 6, 0] rfl ?_
        exact ih τ_5 (t + 1) (by omega) (by omega) (zf_p (zf_p fr e_4 (by decide)) e_6 (by decide)) (fun y y1 y2 => by
          rw [r1 y (by omega), r2 y y1]
          by_cases z : y = t
          · rw [if_pos z, if_pos z, z, if_neg (show ¬ a < 4 by omega)]; exact ⟨rfl, rfl⟩
          · rw [if_neg z, if_neg z]; exact hx y y1 (by omega))
      · refine zr_aload_n (pc := 270) C dX11_saw_270 0 rfl ?_
        refine zr_get (v := .ref (g.2.2.1 85)) (pc := 271) C 24 (some (some 85)) dX11_saw_271 fX11_61 (by decide) (hs_67 _) rfl rfl ?_
        refine zr_iload (pc := 274) C dX11_saw_274 6 rfl ?_
        refine zr_iaload (pc := 276) C dX11_saw_276 (by decide) (hs_85 _) (by omega) (by decide) ?_
        refine zr_goto (pc := 277) C 281 dX11_saw_277 (by decide) ?_
        refine zr_iastore (pc := 281) C dX11_saw_281 (by decide) (hs_87 _) (by omega) (by decide) (fun τ_7 e_8 => ?_)
        refine zr_aload_n (pc := 282) C dX11_saw_282 0 rfl ?_
        refine zr_get (v := .ref (g.2.2.1 87)) (pc := 283) C 26 (some (some 87)) dX11_saw_283 fX11_67 (by decide) (hs_67 _) rfl rfl ?_
        refine zr_sipush (pc := 286) C dX11_saw_286 (by decide) ?_
        refine zr_iload (pc := 289) C dX11_saw_289 6 rfl ?_
        refine zr_iadd (pc := 291) C dX11_saw_291 ?_
        refine zr_aload_n (pc := 292) C dX11_saw_292 0 rfl ?_
        refine zr_get (v := .ref (g.2.2.1 86)) (pc := 293) C 25 (some (some 86)) dX11_saw_293 fX11_64 (by decide) (hs_67 _) rfl rfl ?_
        refine zr_iload (pc := 296) C dX11_saw_296 6 rfl ?_
        refine zr_iaload (pc := 298) C dX11_saw_298 (by decide) (hs_86 _) (by omega) (by decide) ?_
        have hv86 : τ_7 86 t = σs 86 t := by rw [e_8, zs_put_ne (by decide)]; exact fr 86 (by decide) t
        refine zr_iastore (pc := 299) C dX11_saw_299 (by decide) (hs_87 _) (by omega) (by decide) (fun τ_9 e_10 => ?_)
        refine zr_iinc (L' := [(8, zv_i (t + 1)), (0, .ref (g.2.2.1 67)), (1, zv_i ii), (2, zv_i d), (3, zv_i mo), (4, zv_i ch), (5, zv_i a)]) (pc := 300) C dX11_saw_300 6 rfl (by decide) rfl ?_
        refine zr_goto (pc := 303) C 250 dX11_saw_303 (by decide) ?_
        have r1 : ∀ y, y < 300 → τ_9 87 y = if y = t then (σs 85 t) else σ 87 y := fun y hy => by
          rw [e_10, zs_put_off (by omega), e_8, zs_put_at]; rw [fr 85 (by decide)]
        have r2 : ∀ y, 0 ≤ y → τ_9 87 (300 + y) = if y = t then σs 86 t else σ 87 (300 + y) := fun y hy => by
          rw [e_10, zs_put_at, hv86]
          by_cases z : y = t
          · rw [if_pos (by omega), if_pos z]
          · rw [if_neg (by omega), if_neg z, e_8, zs_put_off (by omega)]
        refine zr_sub [1, 2, 3, 4, 5, 6, 0] rfl ?_
        exact ih τ_9 (t + 1) (by omega) (by omega) (zf_p (zf_p fr e_8 (by decide)) e_10 (by decide)) (fun y y1 y2 => by
          rw [r1 y (by omega), r2 y y1]
          by_cases z : y = t
          · rw [if_pos z, if_pos z, z, if_pos (show a < 4 by omega)]; exact ⟨rfl, rfl⟩
          · rw [if_neg z, if_neg z]; exact hx y y1 (by omega))

set_option maxRecDepth 20000 in
set_option maxHeartbeats 4000000 in
theorem l_nsw1 {g : zg_G} {k : zk_T} {Q : Option Value → zs_S → Prop} (C : zk_ok g mX11_saw k) (hr : zk_ret g mX11_saw Q k) (σ0 : zs_S) (gr d ii : Int) (hg : 1 ≤ gr ∧ gr ≤ 3) (hd : 0 ≤ d ∧ d ≤ 9000) (σ1 : zs_S) (hM : md_S σ0 σ1) (hp : ∀ y : Int, 0 ≤ y → y < 6 → σ1 84 y = sw_p σ0 gr y) (hex : ∀ σ2 mo ch, zf_x σ1 σ2 [85, 86, 87, 88, 89] → mo_J σ0 gr d 4 mo ch (σ2 87) → zw_W g mX11_saw k 71 [(0, .ref (g.2.2.1 67)), (1, zv_i ii), (2, zv_i d), (3, zv_i mo), (4, zv_i ch), (5, zv_i 4)] [] σ2) : ∀ (N : Nat) (σ : zs_S) (mo ch a : Int), (4 - a).toNat < N → (0 ≤ a ∧ a ≤ 4) → (zf_x σ1 σ [85, 86, 87, 88, 89]) → (mo_J σ0 gr d a mo ch (σ 87)) → zw_W g mX11_saw k 71 [(0, .ref (g.2.2.1 67)), (1, zv_i ii), (2, zv_i d), (3, zv_i mo), (4, zv_i ch), (5, zv_i a)] [] σ := by
  intro N
  induction N with
  | zero =>
    intro σ mo ch a hN
    exact absurd hN (by omega)
  | succ N ih =>
    intro σ mo ch a hN ha fr hJ
    obtain ⟨hI, hz, hkf, hof⟩ := id hM
    have hU := sw_Ui hI hg
    have g0 := hI.2.1
    have jb := mo_Jb hJ
    have sqI : sq_I σ1 := ⟨fun k k1 k2 => by
      obtain ⟨z1, z2, -, -⟩ := hz k k1 k2
      have b := sw_pb (k := k) hI hg ⟨k1, k2⟩
      have q := hI.1 k k1 k2
      rw [z1, z2, hp k k1 k2]
      omega, by rw [hkf]; exact g0.1, by rw [hkf]; exact g0.2⟩
    rcases (show a = 4 ∨ a < 4 by omega) with z4 | z4
    · subst z4
      exact hex σ mo ch fr hJ
    refine zr_iload (pc := 71) C dX11_saw_71 5 rfl ?_
    refine zr_iconst (pc := 73) C dX11_saw_73 ?_
    refine zr_icmp_ge (pc := 74) C 312 dX11_saw_74 (by decide) (by omega) (by omega) (fun h_1 => ?_) (fun h_1 => ?_)
    · exact absurd h_1 (by omega)
    · refine zr_iload (pc := 77) C dX11_saw_77 5 rfl ?_
      refine zr_iconst (pc := 79) C dX11_saw_79 ?_
      refine zr_icmp_ge (pc := 80) C 107 dX11_saw_80 (by decide) (by omega) (by omega) (fun h_2 => ?_) (fun h_2 => ?_)
      · exact absurd h_2 (by omega)
      · have e80 : σ 80 a = σ0 44 a := by rw [fr 80 (by decide)]; exact (hof a (by omega) (by omega)).1
        have hb := hI.2.2.1 a (by omega) (by omega)
        refine zr_aload_n (pc := 83) C dX11_saw_83 0 rfl ?_
        refine zr_get (v := .ref (g.2.2.1 80)) (pc := 84) C 16 (some (some 80)) dX11_saw_84 fX11_46 (by decide) (hs_67 _) rfl rfl ?_
        refine zr_iload (pc := 87) C dX11_saw_87 5 rfl ?_
        refine zr_iaload (pc := 89) C dX11_saw_89 (by decide) (hs_80 _) (by omega) (by decide) ?_
        refine zr_if_eq (pc := 90) C 306 dX11_saw_90 (by decide) (by omega) (fun h_3 => ?_) (fun h_3 => ?_)
        · refine zr_iinc (L' := [(5, zv_i (a + 1)), (0, .ref (g.2.2.1 67)), (1, zv_i ii), (2, zv_i d), (3, zv_i mo), (4, zv_i ch)]) (pc := 306) C dX11_saw_306 5 rfl (by decide) rfl ?_
          refine zr_goto (pc := 309) C 71 dX11_saw_309 (by decide) ?_
          refine zr_sub [1, 2, 3, 4, 5, 0] rfl ?_
          exact ih σ mo ch (a + 1) (by omega) (by omega) fr (mo_Jn hJ (fun h v l1 l2 k => by have := k.1; have := k.2.1; omega))
        · refine zr_aload_n (pc := 93) C dX11_saw_93 0 rfl ?_
          refine zr_get (v := .ref (g.2.2.1 80)) (pc := 94) C 16 (some (some 80)) dX11_saw_94 fX11_46 (by decide) (hs_67 _) rfl rfl ?_
          refine zr_iload (pc := 97) C dX11_saw_97 5 rfl ?_
          refine zr_iaload (pc := 99) C dX11_saw_99 (by decide) (hs_80 _) (by omega) (by decide) ?_
          refine zr_iload_n (pc := 100) C dX11_saw_100 2 rfl ?_
          refine zr_icmp_le (pc := 101) C 107 dX11_saw_101 (by decide) (by omega) (by omega) (fun h_4 => ?_) (fun h_4 => ?_)
          · refine zr_iload (pc := 107) C dX11_saw_107 5 rfl ?_
            refine zr_iconst (pc := 109) C dX11_saw_109 ?_
            refine zr_icmp_ge (pc := 110) C 134 dX11_saw_110 (by decide) (by omega) (by omega) (fun h_5 => ?_) (fun h_5 => ?_)
            · exact absurd h_5 (by omega)
            · obtain ⟨r1, l1, o1⟩ := ch_E (pr := sw_p σ0 gr) (sw_ur (h := σ0 44 a) (wi := ro_m d (σ0 44 a)) (gp := σ0 26 3) (wd := sw_w σ0) hU) (fun k k1 k2 => by
                have rb := ro_mb (a := d) (b := σ0 44 a) hd (by omega)
                unfold sw_lr
                split <;> omega)
              obtain ⟨G1, R1, q1, q2, q3, q4⟩ := sq_row (md_Sf hM fr (by simp)) hg (fun y y1 y2 => by rw [fr 84 (by decide)]; exact hp y y1 y2) (by omega) hd o1
              have gb1 := (q1 0 q2).1.2
              rw [← e80] at q1 q3
              subst q4
              refine zr_aload_n (pc := 113) C dX11_saw_113 0 rfl ?_
              refine zr_iconst (pc := 114) C dX11_saw_114 ?_
              refine zr_iconst (pc := 115) C dX11_saw_115 ?_
              refine zr_aload_n (pc := 116) C dX11_saw_116 0 rfl ?_
              refine zr_get (v := .ref (g.2.2.1 80)) (pc := 117) C 16 (some (some 80)) dX11_saw_117 fX11_46 (by decide) (hs_67 _) rfl rfl ?_
              refine zr_iload (pc := 120) C dX11_saw_120 5 rfl ?_
              refine zr_iaload (pc := 122) C dX11_saw_122 (by decide) (hs_80 _) (by omega) (by decide) ?_
              refine zr_iload_n (pc := 123) C dX11_saw_123 2 rfl ?_
              refine zr_aload_n (pc := 124) C dX11_saw_124 0 rfl ?_
              refine zr_get (v := .ref (g.2.2.1 85)) (pc := 125) C 24 (some (some 85)) dX11_saw_125 fX11_61 (by decide) (hs_67 _) rfl rfl ?_
              refine zr_callV (As := [zv_i 1, zv_i 0, zv_i (σ 80 a), zv_i d, .ref (g.2.2.1 85)]) (rest := []) (b := 67) (pc := 128) C dX11_saw_128 kX11_sequence vX11_148 rfl (by decide) (by decide) (hs_67 _) rfl (Nat.le_of_ble_eq_true rfl) (n_sequence g σ 1 0 (σ 80 a) d (by omega) (by omega) (by omega) (by omega) 85 (by omega) (by decide) (hs_85 _) (by exact sq_If fr (by simp) sqI) G1 R1 q1 q2 l1 q3) (fun v_ τ_ h_ => ?_)
              obtain ⟨rfl, h_7⟩ := h_
              generalize τ_ = τ_6 at h_7 ⊢
              show zw_W g mX11_saw k 131 [(0, .ref (g.2.2.1 67)), (1, zv_i ii), (2, zv_i d), (3, zv_i mo), (4, zv_i ch), (5, zv_i a)] [zv_i (G1 0)] τ_6
              refine zr_goto (pc := 131) C 135 dX11_saw_131 (by decide) ?_
              obtain ⟨f1, t1, t2, t3⟩ := h_7
              have fr2 : zf_x σ1 τ_6 [85, 86, 87, 88, 89] := zf_t fr f1 (by simp) (by simp)
              refine zr_istore (L' := [(6, zv_i (G1 0)), (0, .ref (g.2.2.1 67)), (1, zv_i ii), (2, zv_i d), (3, zv_i mo), (4, zv_i ch), (5, zv_i a)]) (pc := 135) C dX11_saw_135 (by decide) rfl ?_
              refine zr_iload (pc := 137) C dX11_saw_137 6 rfl ?_
              refine zr_iconst (pc := 139) C dX11_saw_139 ?_
              refine zr_icmp_ge (pc := 140) C 151 dX11_saw_140 (by decide) (by omega) (by omega) (fun h_8 => ?_) (fun h_8 => ?_)
              · exact absurd h_8 (by omega)
              · refine zr_iload (pc := 143) C dX11_saw_143 0 rfl ?_
                refine zr_if_ne (pc := 145) C 151 dX11_saw_145 (by decide) (by omega) (fun h_9 => ?_) (fun h_9 => ?_)
                · have e80b : τ_6 80 a = σ0 44 a := by rw [fr2 80 (by decide)]; exact (hof a (by omega) (by omega)).1
                  obtain ⟨r2, l2, o2⟩ := ch_E (pr := sw_p σ0 gr) (sw_us (rc := sw_r σ0 d) (face := σ0 44 a) hU) (fun k k1 k2 => by
                    have rb := ro_mb (a := d) (b := sw_w σ0 k) hd (hI.1 k k1 k2).2.1.1
                    unfold sw_ls sw_r
                    split <;> omega)
                  obtain ⟨G2, R2, p1, p2, p3, p4⟩ := sq_stk (md_Sf hM fr2 (by simp)) hg (fun y y1 y2 => by rw [fr2 84 (by decide)]; exact hp y y1 y2) (Or.inl ⟨rfl, by omega, by omega⟩) hd o2
                  have gb2 := (p1 _ p2).1.2
                  rw [← e80b] at p2 p3 p4 gb2
                  subst p4
                  refine zr_iload (pc := 151) C dX11_saw_151 0 rfl ?_
                  refine zr_iload (pc := 153) C dX11_saw_153 6 rfl ?_
                  refine zr_iconst (pc := 155) C dX11_saw_155 ?_
                  refine zr_icmp_ge (pc := 156) C 163 dX11_saw_156 (by decide) (by omega) (by omega) (fun h_10 => ?_) (fun h_10 => ?_)
                  · exact absurd h_10 (by omega)
                  · refine zr_iconst (pc := 159) C dX11_saw_159 ?_
                    refine zr_goto (pc := 160) C 164 dX11_saw_160 (by decide) ?_
                    refine zr_aload_n (pc := 164) C dX11_saw_164 1 rfl ?_
                    refine zr_iconst (pc := 165) C dX11_saw_165 ?_
                    refine zr_iload (pc := 166) C dX11_saw_166 6 rfl ?_
                    refine zr_iconst (pc := 168) C dX11_saw_168 ?_
                    refine zr_icmp_ge (pc := 169) C 182 dX11_saw_169 (by decide) (by omega) (by omega) (fun h_11 => ?_) (fun h_11 => ?_)
                    · exact absurd h_11 (by omega)
                    · refine zr_aload_n (pc := 172) C dX11_saw_172 1 rfl ?_
                      refine zr_get (v := .ref (g.2.2.1 80)) (pc := 173) C 16 (some (some 80)) dX11_saw_173 fX11_46 (by decide) (hs_67 _) rfl rfl ?_
                      refine zr_iload (pc := 176) C dX11_saw_176 6 rfl ?_
                      refine zr_iaload (pc := 178) C dX11_saw_178 (by decide) (hs_80 _) (by omega) (by decide) ?_
                      refine zr_goto (pc := 179) C 183 dX11_saw_179 (by decide) ?_
                      refine zr_iconst (pc := 183) C dX11_saw_183 ?_
                      refine zr_iload_n (pc := 184) C dX11_saw_184 3 rfl ?_
                      refine zr_aload_n (pc := 185) C dX11_saw_185 1 rfl ?_
                      refine zr_get (v := .ref (g.2.2.1 86)) (pc := 186) C 25 (some (some 86)) dX11_saw_186 fX11_64 (by decide) (hs_67 _) rfl rfl ?_
                      refine zr_callV (As := [zv_i 0, zv_i (τ_6 80 a), zv_i 0, zv_i d, .ref (g.2.2.1 86)]) (rest := [zv_i 2, zv_i (G1 0)]) (b := 67) (pc := 189) C dX11_saw_189 kX11_sequence vX11_148 rfl (by decide) (by decide) (hs_67 _) rfl (Nat.le_of_ble_eq_true rfl) (n_sequence g τ_6 0 (τ_6 80 a) 0 d (by omega) (by omega) (by omega) (by omega) 86 (by omega) (by decide) (hs_86 _) (by exact sq_If fr2 (by simp) sqI) G2 R2 p1 p2 l2 p3) (fun v_ τ_ h_ => ?_)
                      obtain ⟨rfl, h_13⟩ := h_
                      generalize τ_ = τ_12 at h_13 ⊢
                      show zw_W g mX11_saw k 192 [(6, zv_i (G1 0)), (0, .ref (g.2.2.1 67)), (1, zv_i ii), (2, zv_i d), (3, zv_i mo), (4, zv_i ch), (5, zv_i a)] [zv_i (G2 (τ_6 80 a)), zv_i 2, zv_i (G1 0)] τ_12
                      refine zr_imul (pc := 192) C dX11_saw_192 ?_
                      refine zr_iadd (pc := 193) C dX11_saw_193 ?_
                      obtain ⟨f2, u1, u2, u3⟩ := h_13
                      have fr3 : zf_x σ1 τ_12 [85, 86, 87, 88, 89] := zf_t fr2 f2 (by simp) (by simp)
                      have h87 : τ_12 87 = σ 87 := funext fun y => by rw [f2 87 (by decide), f1 87 (by decide)]
                      have hK : sw_K σ0 gr d a (σ0 44 a) ((G1 0) + (2 * (G2 (τ_6 80 a)))) l1 l2 := ⟨rfl, by omega, _, _, o1, h_9, o2, rfl⟩
                      have e3a : τ_12 80 a = σ0 44 a := by rw [fr3 80 (by decide)]; exact (hof a (by omega) (by omega)).1
                      refine zr_istore (L' := [(7, zv_i ((G1 0) + (2 * (G2 (τ_6 80 a))))), (6, zv_i (G1 0)), (0, .ref (g.2.2.1 67)), (1, zv_i ii), (2, zv_i d), (3, zv_i mo), (4, zv_i ch), (5, zv_i a)]) (pc := 194) C dX11_saw_194 (by decide) rfl ?_
                      refine zr_iload (pc := 196) C dX11_saw_196 0 rfl ?_
                      refine zr_iload_n (pc := 198) C dX11_saw_198 5 rfl ?_
                      refine zr_icmp_lt (pc := 199) C 306 dX11_saw_199 (by decide) (by omega) (by omega) (fun h_14 => ?_) (fun h_14 => ?_)
                      · refine zr_iinc (L' := [(5, zv_i (a + 1)), (7, zv_i ((G1 0) + (2 * (G2 (τ_6 80 a))))), (6, zv_i (G1 0)), (0, .ref (g.2.2.1 67)), (1, zv_i ii), (2, zv_i d), (3, zv_i mo), (4, zv_i ch)]) (pc := 306) C dX11_saw_306 7 rfl (by decide) rfl ?_
                        refine zr_goto (pc := 309) C 71 dX11_saw_309 (by decide) ?_
                        refine zr_sub [3, 4, 5, 6, 7, 0] rfl ?_
                        exact ih τ_12 mo ch (a + 1) (by omega) (by omega) fr3 (mo_Jc (mo_Jk hU hJ (by omega) hK (by omega) (by omega)) h87)
                      · refine zr_iload (pc := 202) C dX11_saw_202 0 rfl ?_
                        refine zr_iload_n (pc := 204) C dX11_saw_204 5 rfl ?_
                        refine zr_icmp_ne (pc := 205) C 240 dX11_saw_205 (by decide) (by omega) (by omega) (fun h_15 => ?_) (fun h_15 => ?_)
                        · refine zr_iload (pc := 240) C dX11_saw_240 0 rfl ?_
                          refine zr_istore_n (L' := [(3, zv_i ((G1 0) + (2 * (G2 (τ_6 80 a))))), (7, zv_i ((G1 0) + (2 * (G2 (τ_6 80 a))))), (6, zv_i (G1 0)), (0, .ref (g.2.2.1 67)), (1, zv_i ii), (2, zv_i d), (4, zv_i ch), (5, zv_i a)]) (pc := 242) C dX11_saw_242 (by decide) rfl ?_
                          refine zr_iload (pc := 243) C dX11_saw_243 7 rfl ?_
                          refine zr_istore (L' := [(4, zv_i a), (3, zv_i ((G1 0) + (2 * (G2 (τ_6 80 a))))), (7, zv_i ((G1 0) + (2 * (G2 (τ_6 80 a))))), (6, zv_i (G1 0)), (0, .ref (g.2.2.1 67)), (1, zv_i ii), (2, zv_i d), (5, zv_i a)]) (pc := 245) C dX11_saw_245 (by decide) rfl ?_
                          refine zr_iconst (pc := 247) C dX11_saw_247 ?_
                          refine zr_istore (L' := [(8, zv_i 0), (4, zv_i a), (3, zv_i ((G1 0) + (2 * (G2 (τ_6 80 a))))), (7, zv_i ((G1 0) + (2 * (G2 (τ_6 80 a))))), (6, zv_i (G1 0)), (0, .ref (g.2.2.1 67)), (1, zv_i ii), (2, zv_i d), (5, zv_i a)]) (pc := 248) C dX11_saw_248 (by decide) rfl ?_
                          refine zr_sub [5, 6, 7, 2, 1, 8, 0] rfl ?_
                          refine l_nswC C hr ii d ((G1 0) + (2 * (G2 (τ_6 80 a)))) a a (by omega) τ_12 (fun σ2 f3 cp => ?_) 301 τ_12 0 (by omega) (by omega) (zf_r _ _) (fun y y1 y2 => absurd y2 (by omega))
                          have hA2 : mo_A (σ2 87) l1 l2 := by
                            refine ⟨⟨⟨fun j x hj => ?_, ?_⟩, fun j x hj => ?_, ?_⟩, t3, u3⟩
                            · have := (List.getElem?_eq_some_iff.mp hj).1
                              rw [(cp (0 + j) (by omega) (by omega)).1, if_pos (by omega), f2 85 (by decide), Int.zero_add]
                              exact t1 j x hj
                            · rw [(cp (0 + l1.length) (by omega) (by omega)).1, if_pos (by omega), f2 85 (by decide), Int.zero_add]
                              exact t2
                            · have := (List.getElem?_eq_some_iff.mp hj).1
                              rw [(cp j (by omega) (by omega)).2]
                              exact u1 j x hj
                            · rw [(cp l2.length (by omega) (by omega)).2]
                              exact u2
                          refine zr_iinc (L' := [(5, zv_i (a + 1)), (0, .ref (g.2.2.1 67)), (1, zv_i ii), (2, zv_i d), (3, zv_i ((G1 0) + (2 * (G2 (τ_6 80 a))))), (4, zv_i a)]) (pc := 306) C dX11_saw_306 5 rfl (by decide) rfl ?_
                          refine zr_goto (pc := 309) C 71 dX11_saw_309 (by decide) ?_
                          refine zr_sub [1, 2, 3, 4, 5, 0] rfl ?_
                          exact ih σ2 ((G1 0) + (2 * (G2 (τ_6 80 a)))) a (a + 1) (by omega) (by omega) (zf_t fr3 f3 (by simp) (by simp)) (mo_Jy hU hJ ha.1 hK (by omega) (by omega) hA2)
                        · refine zr_iload (pc := 208) C dX11_saw_208 7 rfl ?_
                          refine zr_iconst (pc := 210) C dX11_saw_210 ?_
                          refine zr_icmp_eq (pc := 211) C 306 dX11_saw_211 (by decide) (by omega) (by omega) (fun h_16 => ?_) (fun h_16 => ?_)
                          · exact absurd h_16 (by omega)
                          · refine zr_iload (pc := 214) C dX11_saw_214 6 rfl ?_
                            refine zr_iconst (pc := 216) C dX11_saw_216 ?_
                            refine zr_icmp_eq (pc := 217) C 306 dX11_saw_217 (by decide) (by omega) (by omega) (fun h_17 => ?_) (fun h_17 => ?_)
                            · refine zr_iinc (L' := [(5, zv_i (a + 1)), (7, zv_i ((G1 0) + (2 * (G2 (τ_6 80 a))))), (6, zv_i (G1 0)), (0, .ref (g.2.2.1 67)), (1, zv_i ii), (2, zv_i d), (3, zv_i mo), (4, zv_i ch)]) (pc := 306) C dX11_saw_306 7 rfl (by decide) rfl ?_
                              refine zr_goto (pc := 309) C 71 dX11_saw_309 (by decide) ?_
                              refine zr_sub [3, 4, 5, 6, 7, 0] rfl ?_
                              exact ih τ_12 mo ch (a + 1) (by omega) (by omega) fr3 (mo_Jc (mo_Jk hU hJ (by omega) hK (by omega) (by omega)) h87)
                            · have e3c : τ_12 80 ch = σ0 44 ch := by rw [fr3 80 (by decide)]; exact (hof ch (by omega) (by omega)).1
                              have hcb := hI.2.2.1 ch (by omega) (by omega)
                              refine zr_aload_n (pc := 220) C dX11_saw_220 2 rfl ?_
                              refine zr_get (v := .ref (g.2.2.1 80)) (pc := 221) C 16 (some (some 80)) dX11_saw_221 fX11_46 (by decide) (hs_67 _) rfl rfl ?_
                              refine zr_iload (pc := 224) C dX11_saw_224 7 rfl ?_
                              refine zr_iaload (pc := 226) C dX11_saw_226 (by decide) (hs_80 _) (by omega) (by decide) ?_
                              refine zr_aload_n (pc := 227) C dX11_saw_227 2 rfl ?_
                              refine zr_get (v := .ref (g.2.2.1 80)) (pc := 228) C 16 (some (some 80)) dX11_saw_228 fX11_46 (by decide) (hs_67 _) rfl rfl ?_
                              refine zr_iload (pc := 231) C dX11_saw_231 6 rfl ?_
                              refine zr_iaload (pc := 233) C dX11_saw_233 (by decide) (hs_80 _) (by omega) (by decide) ?_
                              refine zr_icmp_lt (pc := 234) C 240 dX11_saw_234 (by decide) (by omega) (by omega) (fun h_18 => ?_) (fun h_18 => ?_)
                              · refine zr_iload (pc := 240) C dX11_saw_240 0 rfl ?_
                                refine zr_istore_n (L' := [(3, zv_i ((G1 0) + (2 * (G2 (τ_6 80 a))))), (7, zv_i ((G1 0) + (2 * (G2 (τ_6 80 a))))), (6, zv_i (G1 0)), (0, .ref (g.2.2.1 67)), (1, zv_i ii), (2, zv_i d), (4, zv_i ch), (5, zv_i a)]) (pc := 242) C dX11_saw_242 (by decide) rfl ?_
                                refine zr_iload (pc := 243) C dX11_saw_243 7 rfl ?_
                                refine zr_istore (L' := [(4, zv_i a), (3, zv_i ((G1 0) + (2 * (G2 (τ_6 80 a))))), (7, zv_i ((G1 0) + (2 * (G2 (τ_6 80 a))))), (6, zv_i (G1 0)), (0, .ref (g.2.2.1 67)), (1, zv_i ii), (2, zv_i d), (5, zv_i a)]) (pc := 245) C dX11_saw_245 (by decide) rfl ?_
                                refine zr_iconst (pc := 247) C dX11_saw_247 ?_
                                refine zr_istore (L' := [(8, zv_i 0), (4, zv_i a), (3, zv_i ((G1 0) + (2 * (G2 (τ_6 80 a))))), (7, zv_i ((G1 0) + (2 * (G2 (τ_6 80 a))))), (6, zv_i (G1 0)), (0, .ref (g.2.2.1 67)), (1, zv_i ii), (2, zv_i d), (5, zv_i a)]) (pc := 248) C dX11_saw_248 (by decide) rfl ?_
                                refine zr_sub [5, 6, 7, 2, 1, 8, 0] rfl ?_
                                refine l_nswC C hr ii d ((G1 0) + (2 * (G2 (τ_6 80 a)))) a a (by omega) τ_12 (fun σ2 f3 cp => ?_) 301 τ_12 0 (by omega) (by omega) (zf_r _ _) (fun y y1 y2 => absurd y2 (by omega))
                                have hA2 : mo_A (σ2 87) l1 l2 := by
                                  refine ⟨⟨⟨fun j x hj => ?_, ?_⟩, fun j x hj => ?_, ?_⟩, t3, u3⟩
                                  · have := (List.getElem?_eq_some_iff.mp hj).1
                                    rw [(cp (0 + j) (by omega) (by omega)).1, if_pos (by omega), f2 85 (by decide), Int.zero_add]
                                    exact t1 j x hj
                                  · rw [(cp (0 + l1.length) (by omega) (by omega)).1, if_pos (by omega), f2 85 (by decide), Int.zero_add]
                                    exact t2
                                  · have := (List.getElem?_eq_some_iff.mp hj).1
                                    rw [(cp j (by omega) (by omega)).2]
                                    exact u1 j x hj
                                  · rw [(cp l2.length (by omega) (by omega)).2]
                                    exact u2
                                refine zr_iinc (L' := [(5, zv_i (a + 1)), (0, .ref (g.2.2.1 67)), (1, zv_i ii), (2, zv_i d), (3, zv_i ((G1 0) + (2 * (G2 (τ_6 80 a))))), (4, zv_i a)]) (pc := 306) C dX11_saw_306 5 rfl (by decide) rfl ?_
                                refine zr_goto (pc := 309) C 71 dX11_saw_309 (by decide) ?_
                                refine zr_sub [1, 2, 3, 4, 5, 0] rfl ?_
                                exact ih σ2 ((G1 0) + (2 * (G2 (τ_6 80 a)))) a (a + 1) (by omega) (by omega) (zf_t fr3 f3 (by simp) (by simp)) (mo_Jy hU hJ ha.1 hK (by omega) (by omega) hA2)
                              · refine zr_goto (pc := 237) C 306 dX11_saw_237 (by decide) ?_
                                refine zr_iinc (L' := [(5, zv_i (a + 1)), (7, zv_i ((G1 0) + (2 * (G2 (τ_6 80 a))))), (6, zv_i (G1 0)), (0, .ref (g.2.2.1 67)), (1, zv_i ii), (2, zv_i d), (3, zv_i mo), (4, zv_i ch)]) (pc := 306) C dX11_saw_306 7 rfl (by decide) rfl ?_
                                refine zr_goto (pc := 309) C 71 dX11_saw_309 (by decide) ?_
                                refine zr_sub [3, 4, 5, 6, 7, 0] rfl ?_
                                exact ih τ_12 mo ch (a + 1) (by omega) (by omega) fr3 (mo_Jc (mo_Jk hU hJ (by omega) hK (by omega) (by omega)) h87)
                · refine zr_goto (pc := 148) C 306 dX11_saw_148 (by decide) ?_
                  refine zr_iinc (L' := [(5, zv_i (a + 1)), (6, zv_i (G1 0)), (0, .ref (g.2.2.1 67)), (1, zv_i ii), (2, zv_i d), (3, zv_i mo), (4, zv_i ch)]) (pc := 306) C dX11_saw_306 6 rfl (by decide) rfl ?_
                  refine zr_goto (pc := 309) C 71 dX11_saw_309 (by decide) ?_
                  refine zr_sub [2, 3, 4, 5, 6, 0] rfl ?_
                  exact ih τ_6 mo ch (a + 1) (by omega) (by omega) fr2 (mo_Jc (mo_Jn hJ (fun h v l1' l2' k => by
                    obtain ⟨k1, k2, r1', r2', o1', on, -, -⟩ := k
                    subst k1
                    exact on ((ch_Ou (sw_ur hU) o1' o1).1.trans h_9))) (funext fun y => f1 87 (by decide) y))
          · refine zr_goto (pc := 104) C 306 dX11_saw_104 (by decide) ?_
            refine zr_iinc (L' := [(5, zv_i (a + 1)), (0, .ref (g.2.2.1 67)), (1, zv_i ii), (2, zv_i d), (3, zv_i mo), (4, zv_i ch)]) (pc := 306) C dX11_saw_306 5 rfl (by decide) rfl ?_
            refine zr_goto (pc := 309) C 71 dX11_saw_309 (by decide) ?_
            refine zr_sub [1, 2, 3, 4, 5, 0] rfl ?_
            exact ih σ mo ch (a + 1) (by omega) (by omega) fr (mo_Jn hJ (fun h v l1 l2 k => by
              obtain ⟨k1, k2, r1, r2, o1, on, -, -⟩ := k
              subst k1
              exact on (sw_big hU (by omega) hd o1)))
