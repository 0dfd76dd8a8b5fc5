theorem bo_Rp {A pr pr' : Int → Int} {L : List (Int × Int × Int)} (hp : ∀ y : Int, 0 ≤ y → y < 6 → pr y = pr' y) (h : bo_R A pr L) (hm : ∀ b ∈ L, 0 ≤ b.1 ∧ b.1 < 6) : bo_R A pr' L := by
  intro i k w x hi
  obtain ⟨a, b, c, d⟩ := h i k w x hi
  have q := hm _ (List.mem_of_getElem? hi)
  exact ⟨a, b, c, by rw [d]; exact hp k q.1 q.2⟩
theorem bo_Tq {σ0 : zs_S} {gr d h v : Int} {l1 l2 : List Int} {st : Int → Int} {gp : Int} (hg : 1 ≤ gr ∧ gr ≤ 3) (hI : sw_I σ0) (hD : sw_D0 σ0 gr d h v l1 l2) : ∀ b ∈ bo_T st gp h l1 l2, 0 ≤ b.1 ∧ b.1 < 6 := by
  obtain ⟨m1, m2⟩ := sw_Dm1 hI hg hD
  exact bo_Tm m1 (fun x hx => (m2 x hx).1)
set_option maxRecDepth 20000 in
set_option maxHeartbeats 4000000 in
theorem l_nsw3 {g : zg_G} {k : zk_T} {Q : Option Value → zs_S → Prop} (C : zk_ok g mX11_saw k) (hr : zk_ret g mX11_saw Q k) (vv : Int) (L : List (Int × Int × Int)) (σ3 : zs_S) (h20 : σ3 67 20 = L.length) (hL : (L.length : Int) ≤ 600) (hm : ∀ b ∈ L, 0 ≤ b.1 ∧ b.1 < 6) (hR : ∀ (j : Nat) (b : Int × Int × Int), L[j]? = some b → σ3 83 (4 * j) = b.1) (h79 : ∀ y : Int, 0 ≤ y → y < 6 → 0 ≤ σ3 79 y ∧ σ3 79 y ≤ 1000) (hQ : ∀ τ, zf_x σ3 τ [79] → (∀ y : Int, 0 ≤ y → y < 6 → τ 79 y = max 0 (σ3 79 y - bo_n y L)) → Q (some (zv_i vv)) τ) : ∀ (N : Nat) (σ : zs_S) (m : Nat), L.length - m < N → (m ≤ L.length) → (zf_x σ3 σ [79]) → (∀ y : Int, 0 ≤ y → y < 6 → σ 79 y = max 0 (σ3 79 y - bo_n y (L.take m))) → zw_W g mX11_saw k 321 [(0, .ref (g.2.2.1 67)), (3, zv_i vv), (5, zv_i ((m : Int)))] [] σ := by
  intro N
  induction N with
  | zero =>
    intro σ m hN
    exact absurd hN (by omega)
  | succ N ih =>
    intro σ m hN hm0 fr hn
    have e20 : σ 67 20 = L.length := by rw [fr 67 (by decide)]; exact h20
    refine zr_iload (pc := 321) C dX11_saw_321 2 rfl ?_
    refine zr_aload_n (pc := 323) C dX11_saw_323 0 rfl ?_
    refine zr_get (v := zv_i (σ 67 20)) (pc := 324) C 20 none dX11_saw_324 fX11_155 (by decide) (hs_67 _) rfl rfl ?_
    refine zr_icmp_ge (pc := 327) C 368 dX11_saw_327 (by decide) (by omega) (by omega) (fun h_1 => ?_) (fun h_1 => ?_)
    · refine zr_iload_n (pc := 368) C dX11_saw_368 1 rfl ?_
      exact zr_iret (pc := 369) C hr dX11_saw_369 rfl (hQ σ fr (fun y y1 y2 => by rw [hn y y1 y2, show m = L.length by omega, List.take_length]))
    · obtain ⟨b, hb⟩ : ∃ b, L[m]? = some b := ⟨_, List.getElem?_eq_getElem (by omega)⟩
      have e83 : σ 83 (4 * (m : Int)) = b.1 := by rw [fr 83 (by decide)]; exact hR m b hb
      have bb := hm b (List.mem_of_getElem? hb)
      have nb := hn b.1 bb.1 bb.2
      have nb2 := h79 b.1 bb.1 bb.2
      have nb3 := bo_nb b.1 (L.take m)
      have nb4 : 0 ≤ σ 79 (σ 83 (4 * (m : Int))) ∧ σ 79 (σ 83 (4 * (m : Int))) ≤ 1000 := by rw [e83]; omega
      refine zr_aload_n (pc := 330) C dX11_saw_330 0 rfl ?_
      refine zr_get (v := .ref (g.2.2.1 83)) (pc := 331) C 22 (some (some 83)) dX11_saw_331 fX11_55 (by decide) (hs_67 _) rfl rfl ?_
      refine zr_iconst (pc := 334) C dX11_saw_334 ?_
      refine zr_iload (pc := 335) C dX11_saw_335 2 rfl ?_
      refine zr_imul (pc := 337) C dX11_saw_337 ?_
      refine zr_iaload (pc := 338) C dX11_saw_338 (by decide) (hs_83 _) (by omega) (by decide) ?_
      refine zr_istore (L' := [(6, zv_i (σ 83 (4 * ((m : Int))))), (0, .ref (g.2.2.1 67)), (3, zv_i vv), (5, zv_i ((m : Int)))]) (pc := 339) C dX11_saw_339 (by decide) rfl ?_
      refine zr_aload_n (pc := 341) C dX11_saw_341 1 rfl ?_
      refine zr_get (v := .ref (g.2.2.1 79)) (pc := 342) C 15 (some (some 79)) dX11_saw_342 fX11_43 (by decide) (hs_67 _) rfl rfl ?_
      refine zr_iload (pc := 345) C dX11_saw_345 0 rfl ?_
      refine zr_iaload (pc := 347) C dX11_saw_347 (by decide) (hs_79 _) (by omega) (by decide) ?_
      refine zr_if_le (pc := 348) C 362 dX11_saw_348 (by decide) (by omega) (fun h_2 => ?_) (fun h_2 => ?_)
      · refine zr_iinc (L' := [(5, zv_i (((m : Int)) + 1)), (6, zv_i (σ 83 (4 * ((m : Int))))), (0, .ref (g.2.2.1 67)), (3, zv_i vv)]) (pc := 362) C dX11_saw_362 3 rfl (by decide) rfl ?_
        refine zr_goto (pc := 365) C 321 dX11_saw_365 (by decide) ?_
        refine zr_sub [2, 3, 0] rfl ?_
        exact ih σ (m + 1) (by omega) (by omega) fr (fun y y1 y2 => by
          rw [bo_nt hb, hn y y1 y2]
          by_cases z : b.1 = y
          · rw [if_pos z]
            have q := hn y y1 y2
            rw [← z, ← e83] at q
            have := bo_nb y (L.take m)
            rw [e83, z] at q h_2
            omega
          · rw [if_neg z]; omega)
      · refine zr_aload_n (pc := 351) C dX11_saw_351 1 rfl ?_
        refine zr_get (v := .ref (g.2.2.1 79)) (pc := 352) C 15 (some (some 79)) dX11_saw_352 fX11_43 (by decide) (hs_67 _) rfl rfl ?_
        refine zr_iload (pc := 355) C dX11_saw_355 0 rfl ?_
        refine zr_dup2_11 (pc := 357) C dX11_saw_357 rfl rfl ?_
        refine zr_iaload (pc := 358) C dX11_saw_358 (by decide) (hs_79 _) (by omega) (by decide) ?_
        refine zr_iconst (pc := 359) C dX11_saw_359 ?_
        refine zr_isub (pc := 360) C dX11_saw_360 ?_
        refine zr_iastore (pc := 361) C dX11_saw_361 (by decide) (hs_79 _) (by omega) (by decide) (fun τ_3 e_4 => ?_)
        refine zr_iinc (L' := [(5, zv_i (((m : Int)) + 1)), (6, zv_i (σ 83 (4 * ((m : Int))))), (0, .ref (g.2.2.1 67)), (3, zv_i vv)]) (pc := 362) C dX11_saw_362 3 rfl (by decide) rfl ?_
        refine zr_goto (pc := 365) C 321 dX11_saw_365 (by decide) ?_
        refine zr_sub [2, 3, 0] rfl ?_
        exact ih τ_3 (m + 1) (by omega) (by omega) (zf_p fr e_4 (by decide)) (fun y y1 y2 => by
          rw [bo_nt hb, e_4, e83, zs_put_at]
          have q := hn y y1 y2
          by_cases z : b.1 = y
          · rw [if_pos z, if_pos z.symm, z]
            rw [e83, z] at h_2
            omega
          · rw [if_neg z, if_neg (fun q => z q.symm)]; omega)

set_option maxRecDepth 20000 in
set_option maxHeartbeats 4000000 in
theorem l_nsw2 {g : zg_G} {k : zk_T} {Q : Option Value → zs_S → Prop} (C : zk_ok g mX11_saw k) (hr : zk_ret g mX11_saw Q k) (σ0 : zs_S) (gr d ii : Int) (hg : 1 ≤ gr ∧ gr ≤ 3) (hd : 0 ≤ d ∧ d ≤ 9000) (σ1 : zs_S) (hM : md_S σ0 σ1) (hp : ∀ y : Int, 0 ≤ y → y < 6 → σ1 84 y = sw_p σ0 gr y) (vv ch : Int) (σ : zs_S) (fr : zf_x σ1 σ [85, 86, 87, 88, 89]) (hF : mo_F σ0 gr d vv ch (σ 87)) (hQ : ∀ (τ : zs_S) (h : Int) (l1 l2 : List Int), sw_D0 σ0 gr d h vv l1 l2 → sw_X0' σ0 gr d h vv → (τ 67 21 = h ∧ (τ 67 20 = (bo_T (sw_s σ0) (σ0 26 3) h l1 l2).length ∧ ((bo_T (sw_s σ0) (σ0 26 3) h l1 l2).length : Int) ≤ 600) ∧ bo_R (τ 83) (σ1 84) (bo_T (sw_s σ0) (σ0 26 3) h l1 l2) ∧ (∀ y : Int, 0 ≤ y → y < 6 → τ 79 y = max 0 (σ0 41 y - (ln_n y l1 + pa_s h * ln_n y l2))) ∧ zf_x σ1 τ [67, 79, 83, 85, 86, 87, 88, 89] ∧ ∀ y, y ≠ 20 → y ≠ 21 → τ 67 y = σ1 67 y) → Q (some (zv_i vv)) τ) : zw_W g mX11_saw k 312 [(0, .ref (g.2.2.1 67)), (1, zv_i ii), (2, zv_i d), (3, zv_i vv), (4, zv_i ch)] [] σ := by
  obtain ⟨hI, hz, hkf, hof⟩ := id hM
  obtain ⟨h, l1, l2, hD, hX, hA, hch⟩ := hF
  obtain ⟨⟨a1, a2⟩, a3, a4⟩ := hA
  obtain ⟨m1, m2⟩ := sw_Dm1 hI hg hD
  have g0 := hI.2.1
  have hT : (((bo_T (sw_s σ0) (σ0 26 3) h l1 l2).length : Int)) ≤ 600 := by
    rw [bo_Tl]
    rcases pa_sb h with z | z <;> rw [z] <;> omega
  have hk : σ 67 17 = σ0 26 3 := by rw [fr 67 (by decide)]; exact hkf
  have hst : ∀ k : Int, 0 ≤ k → k < 6 → σ 76 k + σ0 26 3 = sw_s σ0 k := fun k k1 k2 => by rw [fr 76 (by decide), (hz k k1 k2).1]; rfl
  have hlay : zm_Met g mX11_lay σ [.ref (g.2.2.1 67), zv_i ch] (fun v τ => v = none ∧ τ 67 21 = h ∧ τ 67 20 = (bo_T (sw_s σ0) (σ0 26 3) h l1 l2).length ∧ bo_R (τ 83) (σ 84) (bo_T (sw_s σ0) (σ0 26 3) h l1 l2) ∧ zf_x σ τ [67, 83] ∧ ∀ y, y ≠ 20 → y ≠ 21 → τ 67 y = σ 67 y) := by
    rcases hch with z | z
    · refine n_layC g σ (sw_s σ0) (σ0 26 3) ⟨g0, hk⟩ hst ch h ⟨z.1, ?_, z.2.2, ?_⟩ l1 l2 a1 a2 m1 m2 a3 a4
      · rw [fr 80 (by decide), (hof ch z.1.1 z.1.2).1]; exact z.2.1
      · have := hI.2.2.1 ch z.1.1 z.1.2
        omega
    · exact n_layN g σ (sw_s σ0) (σ0 26 3) ⟨g0, hk⟩ hst ch h z l1 l2 a1 a2 m1 m2 a3 a4
  refine zr_aload_n (pc := 312) C dX11_saw_312 0 rfl ?_
  refine zr_iload (pc := 313) C dX11_saw_313 4 rfl ?_
  refine zr_callV (As := [zv_i ch]) (rest := []) (b := 67) (pc := 315) C dX11_saw_315 kX11_lay vX11_152 rfl (by decide) (by decide) (hs_67 _) rfl (Nat.le_of_ble_eq_true rfl) hlay (fun v_ τ_ h_ => ?_)
  obtain ⟨rfl, b1, b2, b3, b4, b5⟩ := h_
  show zw_W g mX11_saw k 318 [(0, .ref (g.2.2.1 67)), (1, zv_i ii), (2, zv_i d), (3, zv_i vv), (4, zv_i ch)] [] τ_
  refine zr_iconst (pc := 318) C dX11_saw_318 ?_
  refine zr_istore (L' := [(5, zv_i 0), (0, .ref (g.2.2.1 67)), (1, zv_i ii), (2, zv_i d), (3, zv_i vv), (4, zv_i ch)]) (pc := 319) C dX11_saw_319 (by decide) rfl ?_
  refine zr_sub [1, 4, 0] rfl ?_
  refine l_nsw3 C hr vv (bo_T (sw_s σ0) (σ0 26 3) h l1 l2) τ_ b2 hT (bo_Tm m1 (fun x hx => (m2 x hx).1)) (fun j b hb => ?_) (fun y y1 y2 => ?_) (fun τ f n => ?_) ((bo_T (sw_s σ0) (σ0 26 3) h l1 l2).length + 1) τ_ 0 (by omega) (Nat.zero_le _) (zf_r _ _) (fun y y1 y2 => ?_)
  · obtain ⟨b6, b7, b8⟩ := b
    exact (b3 j b6 b7 b8 hb).1
  · rw [b4 79 (by decide), fr 79 (by decide), (hz y y1 y2).2.2.1]
    exact hI.2.2.2.1 y y1 y2
  · refine hQ τ h l1 l2 hD hX ⟨by rw [f 67 (by decide)]; exact b1, ⟨by rw [f 67 (by decide)]; exact b2, hT⟩, ?_, fun y y1 y2 => ?_, zf_t (zf_t fr b4 (es := [67, 79, 83, 85, 86, 87, 88, 89]) (by simp) (by simp)) f (by simp) (by simp), fun y y1 y2 => ?_⟩
    · rw [show τ 83 = τ_ 83 from funext (f 83 (by decide)), ← show σ 84 = σ1 84 from funext (fr 84 (by decide))]
      exact b3
    · rw [n y y1 y2, bo_Tn, b4 79 (by decide), fr 79 (by decide), (hz y y1 y2).2.2.1]
    · rw [f 67 (by decide), b5 y y1 y2, fr 67 (by decide)]
  · have q : 0 ≤ τ_ 79 y := by
      rw [b4 79 (by decide), fr 79 (by decide), (hz y y1 y2).2.2.1]
      exact (hI.2.2.2.1 y y1 y2).1
    simp only [List.take_zero, bo_n]
    omega

set_option maxRecDepth 20000 in
set_option maxHeartbeats 4000000 in
theorem n_saw (g : zg_G) (σ : zs_S) (σ0 : zs_S) (hM : md_S σ0 σ) (a : Int) (har : zi_r a) (hc : 0 ≤ σ 67 10 ∧ σ 67 10 ≤ 80) (tp gr : Int) (ha : 0 ≤ a ∧ a ≤ σ 67 10 - 1) (htp : σ 75 (6 * a + 2) = tp ∧ 0 ≤ tp ∧ tp ≤ 900) (hgr : σ 75 (6 * a + 4) = gr ∧ 1 ≤ gr ∧ gr ≤ 3) : zm_Met g mX11_saw σ [.ref (g.2.2.1 67), zv_i a] (fun v τ => ∃ h x l1 l2, v = some (zv_i x) ∧ sw_D0 σ0 gr (10 * tp) h x l1 l2 ∧ sw_X0' σ0 gr (10 * tp) h x ∧ τ 67 21 = h ∧ (τ 67 20 = (bo_T (sw_s σ0) (σ0 26 3) h l1 l2).length ∧ ((bo_T (sw_s σ0) (σ0 26 3) h l1 l2).length : Int) ≤ 600) ∧ bo_R (τ 83) (sw_p σ0 gr) (bo_T (sw_s σ0) (σ0 26 3) h l1 l2) ∧ (∀ y : Int, 0 ≤ y → y < 6 → τ 79 y = max 0 (σ0 41 y - (ln_n y l1 + pa_s h * ln_n y l2))) ∧ zf_x σ τ [67, 79, 83, 84, 85, 86, 87, 88, 89] ∧ τ 67 0 = 0 ∧ ∀ y, y ≠ 0 → y ≠ 20 → y ≠ 21 → τ 67 y = σ 67 y) := by
  refine zm_of (by decide +kernel) (Nat.le_of_ble_eq_true rfl) ?_
  intro k C hr
  show zw_W g mX11_saw k 0 [(0, .ref (g.2.2.1 67)), (1, zv_i a)] [] σ
  refine zr_aload_n (pc := 0) C dX11_saw_0 0 rfl ?_
  refine zr_iload_n (pc := 1) C dX11_saw_1 1 rfl ?_
  refine zr_iconst (pc := 2) C dX11_saw_2 ?_
  refine zr_aload_n (pc := 3) C dX11_saw_3 0 rfl ?_
  refine zr_get (v := zv_i (σ 67 10)) (pc := 4) C 10 none dX11_saw_4 fX11_102 (by decide) (hs_67 _) rfl rfl ?_
  refine zr_iconst (pc := 7) C dX11_saw_7 ?_
  refine zr_isub (pc := 8) C dX11_saw_8 ?_
  refine zr_callS (As := [zv_i a, zv_i 0, zv_i ((σ 67 10) - 1)]) (rest := [.ref (g.2.2.1 67)]) (pc := 9) C dX11_saw_9 kX11_in sX11_87 rfl (by decide) rfl (Nat.le_of_ble_eq_true rfl) (n_in g σ a 0 ((σ 67 10) - 1) (by omega) (by omega) (by omega)) (fun v_ τ_ h_ => ?_)
  obtain ⟨rfl, rfl⟩ := h_
  show zw_W g mX11_saw k 12 [(0, .ref (g.2.2.1 67)), (1, zv_i a)] [zv_i (zi_b (0 ≤ a ∧ a ≤ ((σ 67 10) - 1))), .ref (g.2.2.1 67)] σ
  refine zr_if_eq_b (pc := 12) C 19 dX11_saw_12 (by decide) (fun h_1 => ?_) (fun h_1 => ?_)
  · exact absurd ha h_1
  · refine zr_iconst (pc := 15) C dX11_saw_15 ?_
    refine zr_goto (pc := 16) C 20 dX11_saw_16 (by decide) ?_
    refine zr_put (pc := 20) C 0 0 rfl dX11_saw_20 pX11_84 (by decide) (hs_67 _) rfl (fun τ_2 e_3 => ?_)
    have h0 : τ_2 67 0 = 0 := by rw [e_3, zs_put_self]
    have f0 : zf_x σ τ_2 [67] := zf_p (zf_r σ _) e_3 (by decide)
    have f1 : ∀ y, y ≠ 0 → τ_2 67 y = σ 67 y := fun y hy => by rw [e_3, zs_put_off hy]
    have hM0 : md_S σ0 τ_2 := md_Sx hM (fun c c1 c2 y => f0 c (by simp; omega) y) (f1 17 (by decide))
    have e75 : ∀ y, τ_2 75 y = σ 75 y := f0 75 (by decide)
    refine zr_aload_n (pc := 23) C dX11_saw_23 0 rfl ?_
    refine zr_get (v := zv_i (τ_2 67 0)) (pc := 24) C 0 none dX11_saw_24 fX11_84 (by decide) (hs_67 _) rfl rfl ?_
    refine zr_iconst (pc := 27) C dX11_saw_27 ?_
    refine zr_icmp_ne (pc := 28) C 33 dX11_saw_28 (by decide) (by omega) (by omega) (fun h_4 => ?_) (fun h_4 => ?_)
    · refine zr_aload_n (pc := 33) C dX11_saw_33 0 rfl ?_
      refine zr_aload_n (pc := 34) C dX11_saw_34 0 rfl ?_
      refine zr_get (v := .ref (g.2.2.1 75)) (pc := 35) C 11 (some (some 75)) dX11_saw_35 fX11_31 (by decide) (hs_67 _) rfl rfl ?_
      refine zr_bipush (pc := 38) C dX11_saw_38 (by decide) ?_
      refine zr_iload_n (pc := 40) C dX11_saw_40 1 rfl ?_
      refine zr_imul (pc := 41) C dX11_saw_41 ?_
      refine zr_iconst (pc := 42) C dX11_saw_42 ?_
      refine zr_iadd (pc := 43) C dX11_saw_43 ?_
      refine zr_iaload (pc := 44) C dX11_saw_44 (by decide) (hs_75 _) (by omega) (by decide) ?_
      rw [show τ_2 75 (6 * a + 4) = gr from (e75 _).trans hgr.1]
      refine zr_callV (As := [zv_i gr]) (rest := []) (b := 67) (pc := 45) C dX11_saw_45 kX11_prices vX11_144 rfl (by decide) (by decide) (hs_67 _) rfl (Nat.le_of_ble_eq_true rfl) (n_prices g τ_2 σ0 (by exact hM0) gr (by exact hgr.2)) (fun v_ τ_ h_ => ?_)
      obtain ⟨rfl, fp, hpp⟩ := h_
      generalize τ_ = τp at fp hpp ⊢
      show zw_W g mX11_saw k 48 [(0, .ref (g.2.2.1 67)), (1, zv_i a)] [] τp
      refine zr_bipush (pc := 48) C dX11_saw_48 (by decide) ?_
      refine zr_aload_n (pc := 50) C dX11_saw_50 0 rfl ?_
      refine zr_get (v := .ref (g.2.2.1 75)) (pc := 51) C 11 (some (some 75)) dX11_saw_51 fX11_31 (by decide) (hs_67 _) rfl rfl ?_
      refine zr_bipush (pc := 54) C dX11_saw_54 (by decide) ?_
      refine zr_iload_n (pc := 56) C dX11_saw_56 1 rfl ?_
      refine zr_imul (pc := 57) C dX11_saw_57 ?_
      refine zr_iconst (pc := 58) C dX11_saw_58 ?_
      refine zr_iadd (pc := 59) C dX11_saw_59 ?_
      refine zr_iaload (pc := 60) C dX11_saw_60 (by decide) (hs_75 _) (by omega) (by decide) ?_
      rw [show τp 75 (6 * a + 2) = tp from (fp 75 (by decide) _).trans ((e75 _).trans htp.1)]
      refine zr_imul (pc := 61) C dX11_saw_61 ?_
      refine zr_istore_n (L' := [(2, zv_i (10 * tp)), (0, .ref (g.2.2.1 67)), (1, zv_i a)]) (pc := 62) C dX11_saw_62 (by decide) rfl ?_
      refine zr_iconst (pc := 63) C dX11_saw_63 ?_
      refine zr_istore_n (L' := [(3, zv_i ((-1))), (2, zv_i (10 * tp)), (0, .ref (g.2.2.1 67)), (1, zv_i a)]) (pc := 64) C dX11_saw_64 (by decide) rfl ?_
      refine zr_iconst (pc := 65) C dX11_saw_65 ?_
      refine zr_istore (L' := [(4, zv_i 4), (3, zv_i ((-1))), (2, zv_i (10 * tp)), (0, .ref (g.2.2.1 67)), (1, zv_i a)]) (pc := 66) C dX11_saw_66 (by decide) rfl ?_
      refine zr_iconst (pc := 68) C dX11_saw_68 ?_
      refine zr_istore (L' := [(5, zv_i 0), (4, zv_i 4), (3, zv_i ((-1))), (2, zv_i (10 * tp)), (0, .ref (g.2.2.1 67)), (1, zv_i a)]) (pc := 69) C dX11_saw_69 (by decide) rfl ?_
      refine zr_sub [4, 5, 3, 2, 1, 0] rfl ?_
      have hMp : md_S σ0 τp := md_Sf hM0 fp (by simp)
      have hgg : 1 ≤ gr ∧ gr ≤ 3 := hgr.2
      have fsp : zf_x σ τp [67, 84] := zf_t f0 fp (by simp) (by simp)
      have hdd : 0 ≤ 10 * tp ∧ 10 * tp ≤ 9000 := by omega
      refine l_nsw1 C hr σ0 gr (10 * tp) a hgg hdd τp hMp hpp (fun σ2 mo ch fr hJ => ?_) 5 τp (-1) 4 0 (by omega) (by omega) (zf_r _ _) (Or.inl ⟨rfl, rfl, fun i i1 i2 => absurd i2 (by omega)⟩)
      obtain ⟨hI, hz, hkf, hof⟩ := id hMp
      have hU := sw_Ui hI hgg
      have g0 := hI.2.1
      have jb := mo_Jb hJ
      have sqI : sq_I τp := ⟨fun k k1 k2 => by
        obtain ⟨z1, z2, -, -⟩ := hz k k1 k2
        have b := sw_pb (k := k) hI hgg ⟨k1, k2⟩
        have q := hI.1 k k1 k2
        rw [z1, z2, hpp k k1 k2]
        omega, by rw [hkf]; exact g0.1, by rw [hkf]; exact g0.2⟩
      refine zr_iload (pc := 71) C dX11_saw_71 5 rfl ?_
      refine zr_iconst (pc := 73) C dX11_saw_73 ?_
      refine zr_icmp_ge (pc := 74) C 312 dX11_saw_74 (by decide) (by omega) (by omega) (fun h_201 => ?_) (fun h_201 => ?_)
      · exact absurd h_201 (by omega)
      · refine zr_iload (pc := 77) C dX11_saw_77 5 rfl ?_
        refine zr_iconst (pc := 79) C dX11_saw_79 ?_
        refine zr_icmp_ge (pc := 80) C 107 dX11_saw_80 (by decide) (by omega) (by omega) (fun h_202 => ?_) (fun h_202 => ?_)
        · refine zr_iload (pc := 107) C dX11_saw_107 5 rfl ?_
          refine zr_iconst (pc := 109) C dX11_saw_109 ?_
          refine zr_icmp_ge (pc := 110) C 134 dX11_saw_110 (by decide) (by omega) (by omega) (fun h_203 => ?_) (fun h_203 => ?_)
          · refine zr_iconst (pc := 134) C dX11_saw_134 ?_
            refine zr_istore (L' := [(6, zv_i 0), (0, .ref (g.2.2.1 67)), (1, zv_i a), (2, zv_i (10 * tp)), (3, zv_i mo), (4, zv_i ch), (5, zv_i 4)]) (pc := 135) C dX11_saw_135 (by decide) rfl ?_
            refine zr_iload (pc := 137) C dX11_saw_137 6 rfl ?_
            refine zr_iconst (pc := 139) C dX11_saw_139 ?_
            refine zr_icmp_ge (pc := 140) C 151 dX11_saw_140 (by decide) (by omega) (by omega) (fun h_204 => ?_) (fun h_204 => ?_)
            · obtain ⟨r2, l2, o2⟩ := ch_E (pr := sw_p σ0 gr) (sw_us (rc := sw_r σ0 (10 * tp)) (face := -2 * σ0 26 3) hU) (fun k k1 k2 => by
                have rb := ro_mb (a := 10 * tp) (b := sw_w σ0 k) hdd (hI.1 k k1 k2).2.1.1
                unfold sw_ls sw_r
                split <;> omega)
              obtain ⟨G2, R2, p1, p2, p3, p4⟩ := sq_stk (md_Sf hMp fr (by simp)) hgg (fun y y1 y2 => by rw [fr 84 (by decide)]; exact hpp y y1 y2) (Or.inr ⟨rfl, rfl⟩) hdd o2
              have gb2 := (p1 _ p2).1.2
              subst p4
              refine zr_iload (pc := 151) C dX11_saw_151 0 rfl ?_
              refine zr_iload (pc := 153) C dX11_saw_153 6 rfl ?_
              refine zr_iconst (pc := 155) C dX11_saw_155 ?_
              refine zr_icmp_ge (pc := 156) C 163 dX11_saw_156 (by decide) (by omega) (by omega) (fun h_205 => ?_) (fun h_205 => ?_)
              · refine zr_iconst (pc := 163) C dX11_saw_163 ?_
                refine zr_aload_n (pc := 164) C dX11_saw_164 1 rfl ?_
                refine zr_iconst (pc := 165) C dX11_saw_165 ?_
                refine zr_iload (pc := 166) C dX11_saw_166 6 rfl ?_
                refine zr_iconst (pc := 168) C dX11_saw_168 ?_
                refine zr_icmp_ge (pc := 169) C 182 dX11_saw_169 (by decide) (by omega) (by omega) (fun h_206 => ?_) (fun h_206 => ?_)
                · refine zr_iconst (pc := 182) C dX11_saw_182 ?_
                  refine zr_iconst (pc := 183) C dX11_saw_183 ?_
                  refine zr_iload_n (pc := 184) C dX11_saw_184 3 rfl ?_
                  refine zr_aload_n (pc := 185) C dX11_saw_185 1 rfl ?_
                  refine zr_get (v := .ref (g.2.2.1 86)) (pc := 186) C 25 (some (some 86)) dX11_saw_186 fX11_64 (by decide) (hs_67 _) rfl rfl ?_
                  refine zr_callV (As := [zv_i 0, zv_i 0, zv_i 0, zv_i (10 * tp), .ref (g.2.2.1 86)]) (rest := [zv_i 1, zv_i 0]) (b := 67) (pc := 189) C dX11_saw_189 kX11_sequence vX11_148 rfl (by decide) (by decide) (hs_67 _) rfl (Nat.le_of_ble_eq_true rfl) (n_sequence g σ2 0 0 0 (10 * tp) (by omega) (by omega) (by omega) (by omega) 86 (by omega) (by decide) (hs_86 _) (by exact sq_If fr (by simp) sqI) G2 R2 p1 p2 l2 p3) (fun v_ τ_ h_ => ?_)
                  obtain ⟨rfl, h_208⟩ := h_
                  generalize τ_ = τ_207 at h_208 ⊢
                  show zw_W g mX11_saw k 192 [(6, zv_i 0), (0, .ref (g.2.2.1 67)), (1, zv_i a), (2, zv_i (10 * tp)), (3, zv_i mo), (4, zv_i ch), (5, zv_i 4)] [zv_i (G2 0), zv_i 1, zv_i 0] τ_207
                  refine zr_imul (pc := 192) C dX11_saw_192 ?_
                  refine zr_iadd (pc := 193) C dX11_saw_193 ?_
                  obtain ⟨f2, u1, u2, u3⟩ := h_208
                  have fr3 : zf_x τp τ_207 [85, 86, 87, 88, 89] := zf_t fr f2 (by simp) (by simp)
                  have h87 : τ_207 87 = σ2 87 := funext fun y => f2 87 (by decide) y
                  have ev : 0 + (1 * (G2 0)) = G2 0 := by omega
                  rw [ev]
                  refine zr_istore (L' := [(7, zv_i (G2 0)), (6, zv_i 0), (0, .ref (g.2.2.1 67)), (1, zv_i a), (2, zv_i (10 * tp)), (3, zv_i mo), (4, zv_i ch), (5, zv_i 4)]) (pc := 194) C dX11_saw_194 (by decide) rfl ?_
                  refine zr_iload (pc := 196) C dX11_saw_196 0 rfl ?_
                  refine zr_iload_n (pc := 198) C dX11_saw_198 5 rfl ?_
                  refine zr_icmp_lt (pc := 199) C 306 dX11_saw_199 (by decide) (by omega) (by omega) (fun h_209 => ?_) (fun h_209 => ?_)
                  · refine zr_sub [2, 3, 4, 5, 6, 7] rfl ?_
                    refine zr_iinc (L' := [(5, zv_i (4 + 1)), (0, .ref (g.2.2.1 67)), (1, zv_i a), (2, zv_i (10 * tp)), (3, zv_i mo), (4, zv_i ch)]) (pc := 306) C dX11_saw_306 5 rfl (by decide) rfl ?_
                    refine zr_goto (pc := 309) C 71 dX11_saw_309 (by decide) ?_
                    refine zr_iload (pc := 71) C dX11_saw_71 0 rfl ?_
                    refine zr_iconst (pc := 73) C dX11_saw_73 ?_
                    refine zr_icmp_ge (pc := 74) C 312 dX11_saw_74 (by decide) (by omega) (by omega) (fun h_301 => ?_) (fun h_301 => ?_)
                    · refine zr_sub [1, 2, 3, 4, 5] rfl ?_
                      exact l_nsw2 C hr σ0 gr (10 * tp) a hgg hdd τp hMp hpp mo ch τ_207 fr3 (by rw [h87]; exact mo_Fk hU hJ o2 (by omega) (by omega)) (fun τ h l1 l2 q1 q2 q3 => ⟨h, _, l1, l2, rfl, q1, q2, q3.1, q3.2.1, bo_Rp (fun y y1 y2 => hpp y y1 y2) q3.2.2.1 (bo_Tq hgg hMp.1 q1), q3.2.2.2.1, zf_t fsp q3.2.2.2.2.1 (by simp) (by simp), (q3.2.2.2.2.2 0 (by decide) (by decide)).trans ((fp 67 (by decide) 0).trans h0), fun y y0 y1 y2 => (q3.2.2.2.2.2 y y1 y2).trans ((fp 67 (by decide) y).trans (f1 y y0))⟩)
                    · exact absurd h_301 (by omega)
                  · refine zr_iload (pc := 202) C dX11_saw_202 0 rfl ?_
                    refine zr_iload_n (pc := 204) C dX11_saw_204 5 rfl ?_
                    refine zr_icmp_ne (pc := 205) C 240 dX11_saw_205 (by decide) (by omega) (by omega) (fun h_210 => ?_) (fun h_210 => ?_)
                    · refine zr_iload (pc := 240) C dX11_saw_240 0 rfl ?_
                      refine zr_istore_n (L' := [(3, zv_i (G2 0)), (7, zv_i (G2 0)), (6, zv_i 0), (0, .ref (g.2.2.1 67)), (1, zv_i a), (2, zv_i (10 * tp)), (4, zv_i ch), (5, zv_i 4)]) (pc := 242) C dX11_saw_242 (by decide) rfl ?_
                      refine zr_iload (pc := 243) C dX11_saw_243 7 rfl ?_
                      refine zr_istore (L' := [(4, zv_i 4), (3, zv_i (G2 0)), (7, zv_i (G2 0)), (6, zv_i 0), (0, .ref (g.2.2.1 67)), (1, zv_i a), (2, zv_i (10 * tp)), (5, zv_i 4)]) (pc := 245) C dX11_saw_245 (by decide) rfl ?_
                      refine zr_iconst (pc := 247) C dX11_saw_247 ?_
                      refine zr_istore (L' := [(8, zv_i 0), (4, zv_i 4), (3, zv_i (G2 0)), (7, zv_i (G2 0)), (6, zv_i 0), (0, .ref (g.2.2.1 67)), (1, zv_i a), (2, zv_i (10 * tp)), (5, zv_i 4)]) (pc := 248) C dX11_saw_248 (by decide) rfl ?_
                      refine zr_sub [5, 6, 7, 2, 1, 8, 0] rfl ?_
                      refine l_nswC C hr a (10 * tp) (G2 0) 4 4 (by omega) τ_207 (fun σ4 f3 cp => ?_) 301 τ_207 0 (by omega) (by omega) (zf_r _ _) (fun y y1 y2 => absurd y2 (by omega))
                      have hA2 : mo_A (σ4 87) [] l2 := by
                        refine ⟨⟨⟨fun j x hj => by simp at hj, ?_⟩, fun j x hj => ?_, ?_⟩, by simp, u3⟩
                        · exact (cp 0 (by omega) (by omega)).1
                        · have := (List.getElem?_eq_some_iff.mp hj).1
                          rw [(cp j (by omega) (by omega)).2]
                          exact u1 j x hj
                        · rw [(cp l2.length (by omega) (by omega)).2]
                          exact u2
                      refine zr_iinc (L' := [(5, zv_i (4 + 1)), (0, .ref (g.2.2.1 67)), (1, zv_i a), (2, zv_i (10 * tp)), (3, zv_i (G2 0)), (4, zv_i 4)]) (pc := 306) C dX11_saw_306 5 rfl (by decide) rfl ?_
                      refine zr_goto (pc := 309) C 71 dX11_saw_309 (by decide) ?_
                      refine zr_iload (pc := 71) C dX11_saw_71 0 rfl ?_
                      refine zr_iconst (pc := 73) C dX11_saw_73 ?_
                      refine zr_icmp_ge (pc := 74) C 312 dX11_saw_74 (by decide) (by omega) (by omega) (fun h_401 => ?_) (fun h_401 => ?_)
                      · refine zr_sub [1, 2, 3, 4, 5] rfl ?_
                        exact l_nsw2 C hr σ0 gr (10 * tp) a hgg hdd τp hMp hpp (G2 0) 4 σ4 (zf_t fr3 f3 (by simp) (by simp)) (mo_Fy hU hJ o2 (by omega) (by omega) hA2) (fun τ h l1 l2 q1 q2 q3 => ⟨h, _, l1, l2, rfl, q1, q2, q3.1, q3.2.1, bo_Rp (fun y y1 y2 => hpp y y1 y2) q3.2.2.1 (bo_Tq hgg hMp.1 q1), q3.2.2.2.1, zf_t fsp q3.2.2.2.2.1 (by simp) (by simp), (q3.2.2.2.2.2 0 (by decide) (by decide)).trans ((fp 67 (by decide) 0).trans h0), fun y y0 y1 y2 => (q3.2.2.2.2.2 y y1 y2).trans ((fp 67 (by decide) y).trans (f1 y y0))⟩)
                      · exact absurd h_401 (by omega)
                    · refine zr_iload (pc := 208) C dX11_saw_208 7 rfl ?_
                      refine zr_iconst (pc := 210) C dX11_saw_210 ?_
                      refine zr_icmp_eq (pc := 211) C 306 dX11_saw_211 (by decide) (by omega) (by omega) (fun h_211 => ?_) (fun h_211 => ?_)
                      · refine zr_sub [2, 3, 4, 5, 6, 7] rfl ?_
                        refine zr_iinc (L' := [(5, zv_i (4 + 1)), (0, .ref (g.2.2.1 67)), (1, zv_i a), (2, zv_i (10 * tp)), (3, zv_i mo), (4, zv_i ch)]) (pc := 306) C dX11_saw_306 5 rfl (by decide) rfl ?_
                        refine zr_goto (pc := 309) C 71 dX11_saw_309 (by decide) ?_
                        refine zr_iload (pc := 71) C dX11_saw_71 0 rfl ?_
                        refine zr_iconst (pc := 73) C dX11_saw_73 ?_
                        refine zr_icmp_ge (pc := 74) C 312 dX11_saw_74 (by decide) (by omega) (by omega) (fun h_301 => ?_) (fun h_301 => ?_)
                        · refine zr_sub [1, 2, 3, 4, 5] rfl ?_
                          exact l_nsw2 C hr σ0 gr (10 * tp) a hgg hdd τp hMp hpp mo ch τ_207 fr3 (by rw [h87]; exact mo_Fk hU hJ o2 (by omega) (by omega)) (fun τ h l1 l2 q1 q2 q3 => ⟨h, _, l1, l2, rfl, q1, q2, q3.1, q3.2.1, bo_Rp (fun y y1 y2 => hpp y y1 y2) q3.2.2.1 (bo_Tq hgg hMp.1 q1), q3.2.2.2.1, zf_t fsp q3.2.2.2.2.1 (by simp) (by simp), (q3.2.2.2.2.2 0 (by decide) (by decide)).trans ((fp 67 (by decide) 0).trans h0), fun y y0 y1 y2 => (q3.2.2.2.2.2 y y1 y2).trans ((fp 67 (by decide) y).trans (f1 y y0))⟩)
                        · exact absurd h_301 (by omega)
                      · exact absurd h_211 (by omega)
                · exact absurd h_206 (by omega)
              · exact absurd h_205 (by omega)
            · exact absurd h_204 (by omega)
          · exact absurd h_203 (by omega)
        · exact absurd h_202 (by omega)
    · exact absurd (h0.symm.trans h_4) (by decide)

set_option maxRecDepth 20000 in
set_option maxHeartbeats 4000000 in
theorem n_sawT (g : zg_G) (σ : zs_S) (a : Int) (har : zi_r a) (hc : 0 ≤ σ 67 10 ∧ σ 67 10 ≤ 80) (ha : ¬ (0 ≤ a ∧ a ≤ σ 67 10 - 1)) : zm_Met g mX11_saw σ [.ref (g.2.2.1 67), zv_i a] (fun v τ => v = some (zv_i 0) ∧ τ = zs_put σ 67 0 1) := by
  refine zm_of (by decide +kernel) (Nat.le_of_ble_eq_true rfl) ?_
  intro k C hr
  show zw_W g mX11_saw k 0 [(0, .ref (g.2.2.1 67)), (1, zv_i a)] [] σ
  refine zr_aload_n (pc := 0) C dX11_saw_0 0 rfl ?_
  refine zr_iload_n (pc := 1) C dX11_saw_1 1 rfl ?_
  refine zr_iconst (pc := 2) C dX11_saw_2 ?_
  refine zr_aload_n (pc := 3) C dX11_saw_3 0 rfl ?_
  refine zr_get (v := zv_i (σ 67 10)) (pc := 4) C 10 none dX11_saw_4 fX11_102 (by decide) (hs_67 _) rfl rfl ?_
  refine zr_iconst (pc := 7) C dX11_saw_7 ?_
  refine zr_isub (pc := 8) C dX11_saw_8 ?_
  refine zr_callS (As := [zv_i a, zv_i 0, zv_i ((σ 67 10) - 1)]) (rest := [.ref (g.2.2.1 67)]) (pc := 9) C dX11_saw_9 kX11_in sX11_87 rfl (by decide) rfl (Nat.le_of_ble_eq_true rfl) (n_in g σ a 0 ((σ 67 10) - 1) (by omega) (by omega) (by omega)) (fun v_ τ_ h_ => ?_)
  obtain ⟨rfl, rfl⟩ := h_
  show zw_W g mX11_saw k 12 [(0, .ref (g.2.2.1 67)), (1, zv_i a)] [zv_i (zi_b (0 ≤ a ∧ a ≤ ((σ 67 10) - 1))), .ref (g.2.2.1 67)] σ
  refine zr_if_eq_b (pc := 12) C 19 dX11_saw_12 (by decide) (fun h_1 => ?_) (fun h_1 => ?_)
  · refine zr_iconst (pc := 19) C dX11_saw_19 ?_
    refine zr_put (pc := 20) C 0 0 rfl dX11_saw_20 pX11_84 (by decide) (hs_67 _) rfl (fun τ_2 e_3 => ?_)
    have h0 : τ_2 67 0 = 1 := by rw [e_3, zs_put_self]
    refine zr_aload_n (pc := 23) C dX11_saw_23 0 rfl ?_
    refine zr_get (v := zv_i (τ_2 67 0)) (pc := 24) C 0 none dX11_saw_24 fX11_84 (by decide) (hs_67 _) rfl rfl ?_
    refine zr_iconst (pc := 27) C dX11_saw_27 ?_
    refine zr_icmp_ne (pc := 28) C 33 dX11_saw_28 (by decide) (by omega) (by omega) (fun h_4 => ?_) (fun h_4 => ?_)
    · exact absurd h0 h_4
    · refine zr_iconst (pc := 31) C dX11_saw_31 ?_
      exact zr_iret (pc := 32) C hr dX11_saw_32 rfl (⟨rfl, e_3⟩)
  · exact absurd h_1 ha
