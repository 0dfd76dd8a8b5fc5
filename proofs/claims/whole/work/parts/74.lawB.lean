section ZLS
variable {g : zg_G} {M : zm_T} {k : zk_T} {pc : Nat} {L L' : List (Nat × Value)} {S : List Value} {σ : zs_S}
theorem zl_rr {x : Int} (h : zi_r x) : zl_r x := ⟨by omega, by omega⟩
theorem zr_lsame (C : zk_ok g M k) {x y : Int} (hd : decode M.2.1 pc = .ok (.lcmp, 1)) (hxy : y = x) (hy9 : zl_r y) (K : zw_W g M k (pc + 1) L (zv_i 0 :: S) σ) : zw_W g M k pc L (zv_l y :: zv_l x :: S) σ := by
  subst hxy
  refine zr_lcmp C hd hy9 hy9 ?_
  rw [zl_ce.mpr rfl]
  exact K
end ZLS
/-- what a cutting by hand answers -/
def by_v (σ : zs_S) (n : Int) (w : Int64) : Int := match by_f σ n w 8 with
  | none => -1
  | some (_, l) => bk_S σ l
theorem by_vn {σ : zs_S} {n : Int} {w : Int64} (h : by_f σ n w 8 = none) : by_v σ n w = -1 := by
  unfold by_v
  rw [h]
theorem by_vs {σ : zs_S} {n : Int} {w : Int64} {f : Int} {l : List (Int × Int)} (h : by_f σ n w 8 = some (f, l)) : by_v σ n w = bk_S σ l := by
  unfold by_v
  rw [h]
theorem by_v1 {σ : zs_S} {n : Int} {w : Int64} {v : Option Value} {P : Prop} {Q : Int → List (Int × Int) → Prop} (h : (by_f σ n w 8 = none → v = some (zv_i (-1)) ∧ P) ∧ (∀ f l, by_f σ n w 8 = some (f, l) → v = some (zv_i (bk_S σ l)) ∧ Q f l)) : v = some (zv_i (by_v σ n w)) ∧ (by_f σ n w 8 = none → P) ∧ (∀ f l, by_f σ n w 8 = some (f, l) → Q f l) := by
  refine ⟨?_, fun z => (h.1 z).2, fun f l z => (h.2 f l z).2⟩
  cases hf : by_f σ n w 8 with
  | none => rw [by_vn hf]; exact (h.1 hf).1
  | some z =>
    obtain ⟨f, l⟩ := z
    rw [by_vs hf]; exact (h.2 f l hf).1
set_option maxRecDepth 20000 in
set_option maxHeartbeats 4000000 in
theorem lc_buck {g : zg_G} {k : zk_T} (C : zk_ok g mL_law k) (n : Int) (hg : (g.2.2.2 : Int) = n) (bb Ls : Nat) (xs : Nat → Int32) (i : Int) (hi : 1 ≤ i ∧ i + 5 ≤ Ls) (hL : Ls ≤ 2561) (hk : lw_k bb Ls xs i k) (b q u p : Nat) (σ : zs_S) (hR : rl_R σ n b q u p) (hex : lw_N g n bb Ls xs i)  : zw_W g mL_law k 340 [(0, .ref bb), (1, .ref (g.2.2.1 0)), (2, .ref (g.2.2.1 67)), (3, .ref (g.2.2.1 90)), (4, zv_i i)] [] σ := by
  obtain ⟨hA, hS, h23, hLo, ⟨⟨gb, gq, gqb, g4, g5⟩, gp, gu, gup, g6, g7⟩, h20, hPt, hJ⟩ := id hR
  obtain ⟨a1, a2, a3, a4, a5, a6, a7, a8⟩ := id hA
  obtain ⟨s1, s2, s3, s4⟩ := id hS
  have gq' : q = 22 ∨ q = 24 := gq
  have gb' : b = 22 ∨ b = 24 := gb
  refine zr_aload_n (pc := 340) C dL_law_340 1 rfl ?_
  refine zr_callV (As := []) (rest := []) (b := 0) (pc := 341) C dL_law_341 kX10_buck vL_53 rfl (by decide) (by decide) (hs_0 _) rfl (Nat.le_of_ble_eq_true rfl) (s_buck g σ n hg q b gq gb gqb g4 g5 a1 a2 h20) (fun v_ τ_ h_ => ?_)
  obtain ⟨r, B, Kf, l, rfl, z1, z2, z3, z4, z5, z6, z7, z8, z9, z10, z11⟩ := h_
  generalize τ_ = τ1 at z5 z7 z8 z9 z10 z11 ⊢
  have hE : md_E σ τ1 := ⟨fun j => z11 3 (by simp only [List.mem_cons, List.not_mem_nil, or_false]; omega) j, fun j => z11 4 (by simp only [List.mem_cons, List.not_mem_nil, or_false]; omega) j, fun c c1 c2 j => z11 c (by simp only [List.mem_cons, List.not_mem_nil, or_false]; omega) j⟩
  have hA1 : md_A τ1 n := md_Ax hA (fun c hc j => z11 c (by simp only [List.mem_cons, List.not_mem_nil, or_false]; omega) j) (z11 67 (by simp only [List.mem_cons, List.not_mem_nil, or_false]; omega) 1) (z11 67 (by simp only [List.mem_cons, List.not_mem_nil, or_false]; omega) 3)
  show zw_W g mL_law k 344 [(0, .ref bb), (1, .ref (g.2.2.1 0)), (2, .ref (g.2.2.1 67)), (3, .ref (g.2.2.1 90)), (4, zv_i i)] [zv_i r] τ1
  refine zr_aload_n (pc := 344) C dL_law_344 2 rfl ?_
  refine zr_callV (As := []) (rest := [zv_i r]) (b := 67) (pc := 345) C dL_law_345 kX11_buck vL_57 rfl (by decide) (by decide) (hs_67 _) rfl (Nat.le_of_ble_eq_true rfl) (n_buck g τ1 n hA1 B Kf (bk_zc z1 hE)) (fun v_ τ_ h_ => ?_)
  obtain ⟨l', rfl, ⟨w0, w1⟩, w2, w3, w4, w5, w6⟩ := h_
  generalize τ_ = τ2 at w0 w1 w4 w6 ⊢
  show zw_W g mL_law k 348 [(0, .ref bb), (1, .ref (g.2.2.1 0)), (2, .ref (g.2.2.1 67)), (3, .ref (g.2.2.1 90)), (4, zv_i i)] [zv_i (B 0), zv_i r] τ2
  refine zr_same (pc := 348) C 961 dL_law_348 (by decide) (z4.symm) ?_
  refine hex k τ2 q b u p C (lw_km hk (by omega)) ?_
  have w7 : bk_D σ Kf l' 0 (n + 1) := bk_Dc w2 (fun j j1 j2 => (md_Ev (n := n) (p := 0) hE ⟨j1, j2⟩).2.2.1) (fun z hz => (w3 z hz).2.2.1)
  obtain rfl := bk_Du z2 w7 (fun z hz => (z3 z hz).1) (fun z hz => (w3 z hz).1)
  exact rl_cut hR z3 z6 (by rw [w0 q (by simp only [List.mem_cons, List.not_mem_nil, or_false]; omega)]; exact z5) w4 (by rw [show τ2 (q + 1) = τ1 (q + 1) from funext (fun j => w0 (q + 1) (by simp only [List.mem_cons, List.not_mem_nil, or_false]; omega) j)]; exact z7) (bk_Rv w6 (fun z hz => (z3 z hz).2.2.1) hE) (by rw [w0 1 (by decide)]; exact z8) (by rw [w0 1 (by decide)]; exact z9) (by rw [w0 20 (by decide)]; exact z10) (fun c hc j => by rw [w0 c (by simp only [List.mem_cons, List.not_mem_nil, or_false]; omega), z11 c (by simp only [List.mem_cons, List.not_mem_nil, or_false]; omega)]) (fun y y0 y1 => by rw [w1 y y0 y1, z11 67 (by simp only [List.mem_cons, List.not_mem_nil, or_false]; omega)])

set_option maxRecDepth 20000 in
set_option maxHeartbeats 4000000 in
theorem lc_byHand {g : zg_G} {k : zk_T} (C : zk_ok g mL_law k) (n : Int) (hg : (g.2.2.2 : Int) = n) (bb Ls : Nat) (xs : Nat → Int32) (i : Int) (hi : 1 ≤ i ∧ i + 5 ≤ Ls) (hL : Ls ≤ 2561) (hk : lw_k bb Ls xs i k) (b q u p : Nat) (σ : zs_S) (hR : rl_R σ n b q u p) (hex : lw_N g n bb Ls xs i)  : zw_W g mL_law k 353 [(0, .ref bb), (1, .ref (g.2.2.1 0)), (2, .ref (g.2.2.1 67)), (3, .ref (g.2.2.1 90)), (4, zv_i i)] [] σ := by
  obtain ⟨hA, hS, h23, hLo, ⟨⟨gb, gq, gqb, g4, g5⟩, gp, gu, gup, g6, g7⟩, h20, hPt, hJ⟩ := id hR
  obtain ⟨a1, a2, a3, a4, a5, a6, a7, a8⟩ := id hA
  obtain ⟨s1, s2, s3, s4⟩ := id hS
  have gq' : q = 22 ∨ q = 24 := gq
  have gb' : b = 22 ∨ b = 24 := gb
  refine zr_aload_n (pc := 353) C dL_law_353 1 rfl ?_
  refine zr_aload_n (pc := 354) C dL_law_354 0 rfl ?_
  refine zr_iload (pc := 355) C dL_law_355 4 rfl ?_
  refine zr_iconst (pc := 357) C dL_law_357 ?_
  refine zr_iadd (pc := 358) C dL_law_358 ?_
  refine zr_sld (pc := 359) C hk dL_law_359 (by omega) hL ?_
  refine zr_i2l (pc := 360) C dL_law_360 (by exact sx_r _ _) ?_
  refine zr_bipush (pc := 361) C dL_law_361 (by decide) ?_
  refine zr_lshl (pc := 363) C dL_law_363 ?_
  refine zr_aload_n (pc := 364) C dL_law_364 0 rfl ?_
  refine zr_iload (pc := 365) C dL_law_365 4 rfl ?_
  refine zr_iconst (pc := 367) C dL_law_367 ?_
  refine zr_iadd (pc := 368) C dL_law_368 ?_
  refine zr_sld (pc := 369) C hk dL_law_369 (by omega) hL ?_
  refine zr_i2l (pc := 370) C dL_law_370 (by exact sx_r _ _) ?_
  refine zr_ldc2 (v := 4294967295) (pc := 371) C 4294967295 dL_law_371 (zt_mem 904 (by decide +kernel) rfl) (by decide) ?_
  refine zr_land (pc := 374) C dL_law_374 ?_
  refine zr_lor (pc := 375) C dL_law_375 ?_
  refine zr_callV (As := [.long (((zi_l (sx xs (i + 1))) <<< ((zi_w 32).toInt64 &&& 63)) ||| ((zi_l (sx xs (i + 2))) &&& (zi_l 4294967295)))]) (rest := []) (b := 0) (pc := 376) C dL_law_376 kX10_byHand vL_60 rfl (by decide) (by decide) (hs_0 _) rfl (Nat.le_of_ble_eq_true rfl) (s_byHand g σ n hg (((zi_l (sx xs (i + 1))) <<< ((zi_w 32).toInt64 &&& 63)) ||| ((zi_l (sx xs (i + 2))) &&& (zi_l 4294967295))) q b gq gb gqb g4 g5 a1 a2) (fun v_ τ_ h_ => ?_)
  obtain ⟨rfl, n1, y1⟩ := by_v1 h_
  clear h_
  generalize τ_ = τ1 at n1 y1 ⊢
  have f1 : zf_x σ τ1 [1, 5, 6, q, q + 1] := by
    cases hf : by_f σ n (((zi_l (sx xs (i + 1))) <<< ((zi_w 32).toInt64 &&& 63)) ||| ((zi_l (sx xs (i + 2))) &&& (zi_l 4294967295))) 8 with
    | none => exact zf_w (n1 hf) (fun c hc => by simp only [List.mem_cons, List.not_mem_nil, or_false] at hc ⊢; omega)
    | some z =>
      obtain ⟨f, l⟩ := z
      exact (y1 f l hf).2.2.2.2.2.2
  have hE : md_E σ τ1 := ⟨fun j => f1 3 (by simp only [List.mem_cons, List.not_mem_nil, or_false]; omega) j, fun j => f1 4 (by simp only [List.mem_cons, List.not_mem_nil, or_false]; omega) j, fun c c1 c2 j => f1 c (by simp only [List.mem_cons, List.not_mem_nil, or_false]; omega) j⟩
  have hA1 : md_A τ1 n := md_Ax hA (fun c hc j => f1 c (by simp only [List.mem_cons, List.not_mem_nil, or_false]; omega) j) (f1 67 (by simp only [List.mem_cons, List.not_mem_nil, or_false]; omega) 1) (f1 67 (by simp only [List.mem_cons, List.not_mem_nil, or_false]; omega) 3)
  have eF := by_fE hE (n := n) (((zi_l (sx xs (i + 1))) <<< ((zi_w 32).toInt64 &&& 63)) ||| ((zi_l (sx xs (i + 2))) &&& (zi_l 4294967295))) 8
  have eV : by_v τ1 n (((zi_l (sx xs (i + 1))) <<< ((zi_w 32).toInt64 &&& 63)) ||| ((zi_l (sx xs (i + 2))) &&& (zi_l 4294967295))) = by_v σ n (((zi_l (sx xs (i + 1))) <<< ((zi_w 32).toInt64 &&& 63)) ||| ((zi_l (sx xs (i + 2))) &&& (zi_l 4294967295))) := by
    cases hf : by_f σ n (((zi_l (sx xs (i + 1))) <<< ((zi_w 32).toInt64 &&& 63)) ||| ((zi_l (sx xs (i + 2))) &&& (zi_l 4294967295))) 8 with
    | none => rw [by_vn hf, by_vn (eF.trans hf)]
    | some z =>
      obtain ⟨f, l⟩ := z
      rw [by_vs hf, by_vs (eF.trans hf)]
      exact bk_SE hE (fun z hz => ((y1 f l hf).2.2.2.1 z hz).2.2.1)
  show zw_W g mL_law k 379 [(0, .ref bb), (1, .ref (g.2.2.1 0)), (2, .ref (g.2.2.1 67)), (3, .ref (g.2.2.1 90)), (4, zv_i i)] [zv_i (by_v σ n (((zi_l (sx xs (i + 1))) <<< ((zi_w 32).toInt64 &&& 63)) ||| ((zi_l (sx xs (i + 2))) &&& (zi_l 4294967295))))] τ1
  refine zr_aload_n (pc := 379) C dL_law_379 2 rfl ?_
  refine zr_aload_n (pc := 380) C dL_law_380 0 rfl ?_
  refine zr_iload (pc := 381) C dL_law_381 4 rfl ?_
  refine zr_iconst (pc := 383) C dL_law_383 ?_
  refine zr_iadd (pc := 384) C dL_law_384 ?_
  refine zr_sld (pc := 385) C hk dL_law_385 (by omega) hL ?_
  refine zr_i2l (pc := 386) C dL_law_386 (by exact sx_r _ _) ?_
  refine zr_bipush (pc := 387) C dL_law_387 (by decide) ?_
  refine zr_lshl (pc := 389) C dL_law_389 ?_
  refine zr_aload_n (pc := 390) C dL_law_390 0 rfl ?_
  refine zr_iload (pc := 391) C dL_law_391 4 rfl ?_
  refine zr_iconst (pc := 393) C dL_law_393 ?_
  refine zr_iadd (pc := 394) C dL_law_394 ?_
  refine zr_sld (pc := 395) C hk dL_law_395 (by omega) hL ?_
  refine zr_i2l (pc := 396) C dL_law_396 (by exact sx_r _ _) ?_
  refine zr_ldc2 (v := 4294967295) (pc := 397) C 4294967295 dL_law_397 (zt_mem 904 (by decide +kernel) rfl) (by decide) ?_
  refine zr_land (pc := 400) C dL_law_400 ?_
  refine zr_lor (pc := 401) C dL_law_401 ?_
  refine zr_callV (As := [.long (((zi_l (sx xs (i + 1))) <<< ((zi_w 32).toInt64 &&& 63)) ||| ((zi_l (sx xs (i + 2))) &&& (zi_l 4294967295)))]) (rest := [zv_i (by_v σ n (((zi_l (sx xs (i + 1))) <<< ((zi_w 32).toInt64 &&& 63)) ||| ((zi_l (sx xs (i + 2))) &&& (zi_l 4294967295))))]) (b := 67) (pc := 402) C dL_law_402 kX11_byHand vL_64 rfl (by decide) (by decide) (hs_67 _) rfl (Nat.le_of_ble_eq_true rfl) (n_byHand g τ1 n (((zi_l (sx xs (i + 1))) <<< ((zi_w 32).toInt64 &&& 63)) ||| ((zi_l (sx xs (i + 2))) &&& (zi_l 4294967295))) hA1) (fun v_ τ_ h_ => ?_)
  obtain ⟨rfl, n2, y2⟩ := by_v1 h_
  clear h_
  generalize τ_ = τ2 at n2 y2 ⊢
  show zw_W g mL_law k 405 [(0, .ref bb), (1, .ref (g.2.2.1 0)), (2, .ref (g.2.2.1 67)), (3, .ref (g.2.2.1 90)), (4, zv_i i)] [zv_i (by_v τ1 n (((zi_l (sx xs (i + 1))) <<< ((zi_w 32).toInt64 &&& 63)) ||| ((zi_l (sx xs (i + 2))) &&& (zi_l 4294967295)))), zv_i (by_v σ n (((zi_l (sx xs (i + 1))) <<< ((zi_w 32).toInt64 &&& 63)) ||| ((zi_l (sx xs (i + 2))) &&& (zi_l 4294967295))))] τ2
  refine zr_same (pc := 405) C 961 dL_law_405 (by decide) eV ?_
  cases hf : by_f σ n (((zi_l (sx xs (i + 1))) <<< ((zi_w 32).toInt64 &&& 63)) ||| ((zi_l (sx xs (i + 2))) &&& (zi_l 4294967295))) 8 with
  | none =>
    refine hex k τ2 b q u p C (lw_km hk (by omega)) ?_
    have z1 := n1 hf
    obtain ⟨w0, w1⟩ := n2 (eF.trans hf)
    exact rl_nocut hR (fun c hc j => by rw [w0 c (by simp only [List.mem_cons, List.not_mem_nil, or_false]; omega), z1 c (by simp only [List.mem_cons, List.not_mem_nil, or_false]; omega)]) (fun y y0 => by rw [w1 y y0, z1 67 (by simp only [List.mem_cons, List.not_mem_nil, or_false]; omega)])
  | some z =>
    obtain ⟨f, l⟩ := z
    refine hex k τ2 q b u p C (lw_km hk (by omega)) ?_
    obtain ⟨z5, z6, z7, z3, z8, z9, z11⟩ := y1 f l hf
    obtain ⟨⟨w0, w1⟩, w4, w6, w3⟩ := y2 f l (eF.trans hf)
    exact rl_cut hR z3 (by omega) (by rw [w0 q (by simp only [List.mem_cons, List.not_mem_nil, or_false]; omega)]; exact z5) w4 (by rw [show τ2 (q + 1) = τ1 (q + 1) from funext (fun j => w0 (q + 1) (by simp only [List.mem_cons, List.not_mem_nil, or_false]; omega) j)]; exact z7) (bk_Rv w6 (fun z hz => (z3 z hz).2.2.1) hE) (by rw [w0 1 (by decide)]; exact z8) (by rw [w0 1 (by decide)]; exact z9) (by rw [w0 20 (by decide), z11 20 (by simp only [List.mem_cons, List.not_mem_nil, or_false]; omega)]; exact h20) (fun c hc j => by rw [w0 c (by simp only [List.mem_cons, List.not_mem_nil, or_false]; omega), z11 c (by simp only [List.mem_cons, List.not_mem_nil, or_false]; omega)]) (fun y y0 y1 => by rw [w1 y y0 y1, z11 67 (by simp only [List.mem_cons, List.not_mem_nil, or_false]; omega)])

theorem hL_log : zl_H mL_log [(0, 10, 13, 13)] 4 := ⟨(zt_mem 489 (by decide +kernel) rfl), (zt_mem 30 (by decide +kernel) rfl), by decide, by decide, by decide +kernel⟩
theorem sL_69 : zl_S RL 69 mL_log := ⟨(zt_mem 487 (by decide +kernel) rfl), (zt_mem 488 (by decide +kernel) rfl)⟩
theorem hL_saw : zl_H mL_saw [(0, 9, 12, 13)] 3 := ⟨(zt_mem 562 (by decide +kernel) rfl), (zt_mem 30 (by decide +kernel) rfl), by decide, by decide, by decide +kernel⟩
theorem sL_105 : zl_S RL 105 mL_saw := ⟨(zt_mem 560 (by decide +kernel) rfl), (zt_mem 561 (by decide +kernel) rfl)⟩
theorem hL_board : zl_H mL_board [(0, 10, 13, 13)] 4 := ⟨(zt_mem 646 (by decide +kernel) rfl), (zt_mem 30 (by decide +kernel) rfl), by decide, by decide, by decide +kernel⟩
theorem sL_113 : zl_S RL 113 mL_board := ⟨(zt_mem 644 (by decide +kernel) rfl), (zt_mem 645 (by decide +kernel) rfl)⟩
set_option maxRecDepth 20000 in
set_option maxHeartbeats 4000000 in
theorem lc_logY {g : zg_G} {k : zk_T} (C : zk_ok g mL_law k) (n : Int) (hg : (g.2.2.2 : Int) = n) (bb Ls : Nat) (xs : Nat → Int32) (i : Int) (hi : 1 ≤ i ∧ i + 5 ≤ Ls) (hL : Ls ≤ 2561) (hk : lw_k bb Ls xs (i + 1) k) (b q u p : Nat) (σ : zs_S) (hR : rl_R σ n b q u p) (hex : lw_N g n bb Ls xs i) (hC : ((0 ≤ (sx xs (i + 1)) ∧ (sx xs (i + 1)) ≤ σ b 0 - 1) ∧ (0 ≤ (sx xs (i + 2)) ∧ (sx xs (i + 2)) ≤ 5))) (τ1 : zs_S) (e1 : τ1 = zs_put σ 90 0 (σ (b + 1) ((sx xs (i + 1)) * 6 + (sx xs (i + 2))))) : zw_W g mL_law k 440 [(0, .ref bb), (1, .ref (g.2.2.1 0)), (2, .ref (g.2.2.1 67)), (3, .ref (g.2.2.1 90)), (4, zv_i i)] [zv_i 0] τ1 := by
  obtain ⟨hA, hS, h23, hLo, ⟨⟨gb, gq, gqb, g4, g5⟩, gp, gu, gup, g6, g7⟩, h20, hPt, hJ⟩ := id hR
  obtain ⟨a1, a2, a3, a4, a5, a6, a7, a8⟩ := id hA
  obtain ⟨s1, s2, s3, s4⟩ := id hS
  have f1 : ∀ c : Nat, c ≠ 90 → ∀ j, τ1 c j = σ c j := fun c hc j => by rw [e1, zs_put_ne hc]
  have eN : τ1 67 10 = σ b 0 := by
    rw [f1 67 (by decide)]
    exact hLo.1.symm
  have hC1 : ((0 ≤ (sx xs (i + 1)) ∧ (sx xs (i + 1)) ≤ τ1 67 10 - 1) ∧ (0 ≤ (sx xs (i + 2)) ∧ (sx xs (i + 2)) ≤ 5)) := by
    rw [eN]
    exact hC
  refine zr_istore (L' := [(5, zv_i 0), (0, .ref bb), (1, .ref (g.2.2.1 0)), (2, .ref (g.2.2.1 67)), (3, .ref (g.2.2.1 90)), (4, zv_i i)]) (pc := 440) C dL_law_440 (by decide) rfl ?_
  refine zr_aload_n (pc := 442) C dL_law_442 3 rfl ?_
  refine zr_aload_n (pc := 443) C dL_law_443 1 rfl ?_
  refine zr_iload (pc := 444) C dL_law_444 5 rfl ?_
  refine zr_iconst (pc := 446) C dL_law_446 ?_
  refine zr_iadd (pc := 447) C dL_law_447 ?_
  refine zr_sld (pc := 448) C hk dL_law_448 (by omega) hL ?_
  refine zr_aload_n (pc := 449) C dL_law_449 1 rfl ?_
  refine zr_iload (pc := 450) C dL_law_450 5 rfl ?_
  refine zr_iconst (pc := 452) C dL_law_452 ?_
  refine zr_iadd (pc := 453) C dL_law_453 ?_
  refine zr_sld (pc := 454) C hk dL_law_454 (by omega) hL ?_
  refine zr_callV (As := [zv_i (sx xs (i + 1)), zv_i (sx xs (i + 2))]) (rest := []) (b := 67) (pc := 455) C dL_law_455 kX11_log vL_72 rfl (by decide) (by decide) (hs_67 _) rfl (Nat.le_of_ble_eq_true rfl) (n_log g τ1 (sx xs (i + 1)) (sx xs (i + 2)) (sx_r _ _) (sx_r _ _) (by rw [eN]; have := hLo.2.1; omega)) (fun v_ τ_ h_ => ?_)
  obtain ⟨rfl, e2⟩ := h_
  generalize τ_ = τ2 at e2 ⊢
  rw [zi_bf (fun z => z hC1)] at e2
  rw [if_pos hC1]
  show zw_W g mL_law k 458 [(5, zv_i 0), (0, .ref bb), (1, .ref (g.2.2.1 0)), (2, .ref (g.2.2.1 67)), (3, .ref (g.2.2.1 90)), (4, zv_i i)] [zv_i (τ1 75 (6 * (sx xs (i + 1)) + (sx xs (i + 2))))] τ2
  refine zr_istore (L' := [(6, zv_i (τ1 75 (6 * (sx xs (i + 1)) + (sx xs (i + 2))))), (5, zv_i 0), (0, .ref bb), (1, .ref (g.2.2.1 0)), (2, .ref (g.2.2.1 67)), (3, .ref (g.2.2.1 90)), (4, zv_i i)]) (pc := 458) C dL_law_458 (by decide) rfl ?_
  refine zr_aload_n (pc := 460) C dL_law_460 4 rfl ?_
  refine zr_callV (As := []) (rest := []) (b := 67) (pc := 461) C dL_law_461 kX11_thrown vL_73 rfl (by decide) (by decide) (hs_67 _) rfl (Nat.le_of_ble_eq_true rfl) (n_thrown g τ2) (fun v_ τ_ h_ => ?_)
  obtain ⟨rfl, rfl⟩ := h_
  show zw_W g mL_law k 464 [(6, zv_i (τ1 75 (6 * (sx xs (i + 1)) + (sx xs (i + 2))))), (5, zv_i 0), (0, .ref bb), (1, .ref (g.2.2.1 0)), (2, .ref (g.2.2.1 67)), (3, .ref (g.2.2.1 90)), (4, zv_i i)] [zv_i (τ2 67 0)] τ2
  refine zr_iload (pc := 464) C dL_law_464 1 rfl ?_
  refine zr_same (pc := 466) C 471 dL_law_466 (by decide) (by rw [e2, zs_put_self]) ?_
  refine zr_iload (pc := 471) C dL_law_471 1 rfl ?_
  refine zr_if_ne (pc := 473) C 488 dL_law_473 (by decide) (by omega) (fun h_1 => ?_) (fun h_1 => ?_)
  · exact absurd h_1 (by decide)
  · refine zr_aload_n (pc := 476) C dL_law_476 5 rfl ?_
    refine zr_iconst (pc := 477) C dL_law_477 ?_
    refine zr_laload (pc := 478) C dL_law_478 (by decide) (hs_90 _) (by omega) (by decide) ?_
    refine zr_iload (pc := 479) C dL_law_479 0 rfl ?_
    refine zr_i2l (pc := 481) C dL_law_481 (by have z9 := hLo.2.2.1 ((sx xs (i + 1)) * 6 + (sx xs (i + 2))) (by omega) (by omega); rw [f1 75 (by decide), show 6 * (sx xs (i + 1)) + (sx xs (i + 2)) = (sx xs (i + 1)) * 6 + (sx xs (i + 2)) by omega, ← z9.1]; omega) ?_
    refine zr_lsame (pc := 482) C dL_law_482 (by rw [e2, zs_put_ne (by decide), e1, zs_put_self, zs_put_ne (by decide), show 6 * (sx xs (i + 1)) + (sx xs (i + 2)) = (sx xs (i + 1)) * 6 + (sx xs (i + 2)) by omega]; exact (hLo.2.2.1 _ (by omega) (by omega)).1.symm) (by exact zl_rr (x := τ1 75 (6 * (sx xs (i + 1)) + (sx xs (i + 2)))) (by have z9 := hLo.2.2.1 ((sx xs (i + 1)) * 6 + (sx xs (i + 2))) (by omega) (by omega); rw [f1 75 (by decide), show 6 * (sx xs (i + 1)) + (sx xs (i + 2)) = (sx xs (i + 1)) * 6 + (sx xs (i + 2)) by omega, ← z9.1]; omega)) ?_
    refine zr_if_eq (pc := 483) C 488 dL_law_483 (by decide) (by omega) (fun h_2 => ?_) (fun h_2 => ?_)
    · refine zr_goto (pc := 488) C 961 dL_law_488 (by decide) ?_
      refine zr_sub [2, 3, 4, 5, 6] rfl ?_
      exact hex k τ2 b q u p C hk (rl_E hR (fun c c1 c2 j => by rw [e2, zs_put_ne c1, f1 c c2]) (fun y y0 => by rw [e2, zs_put_off y0, f1 67 (by decide)]))
    · exact absurd h_2 (by decide)

set_option maxRecDepth 20000 in
set_option maxHeartbeats 4000000 in
theorem lc_logN {g : zg_G} {k : zk_T} (C : zk_ok g mL_law k) (n : Int) (hg : (g.2.2.2 : Int) = n) (bb Ls : Nat) (xs : Nat → Int32) (i : Int) (hi : 1 ≤ i ∧ i + 5 ≤ Ls) (hL : Ls ≤ 2561) (hk : lw_k bb Ls xs (i + 1) k) (b q u p : Nat) (σ : zs_S) (hR : rl_R σ n b q u p) (hex : lw_N g n bb Ls xs i) (hC : ¬ ((0 ≤ (sx xs (i + 1)) ∧ (sx xs (i + 1)) ≤ σ b 0 - 1) ∧ (0 ≤ (sx xs (i + 2)) ∧ (sx xs (i + 2)) ≤ 5))) (τ1 : zs_S) (e1 : τ1 = σ) : zw_W g mL_law k 440 [(0, .ref bb), (1, .ref (g.2.2.1 0)), (2, .ref (g.2.2.1 67)), (3, .ref (g.2.2.1 90)), (4, zv_i i)] [zv_i 1] τ1 := by
  obtain ⟨hA, hS, h23, hLo, ⟨⟨gb, gq, gqb, g4, g5⟩, gp, gu, gup, g6, g7⟩, h20, hPt, hJ⟩ := id hR
  obtain ⟨a1, a2, a3, a4, a5, a6, a7, a8⟩ := id hA
  obtain ⟨s1, s2, s3, s4⟩ := id hS
  have f1 : ∀ c : Nat, c ≠ 90 → ∀ j, τ1 c j = σ c j := fun c hc j => by rw [e1]
  have eN : τ1 67 10 = σ b 0 := by
    rw [f1 67 (by decide)]
    exact hLo.1.symm
  have hC1 : ¬ ((0 ≤ (sx xs (i + 1)) ∧ (sx xs (i + 1)) ≤ τ1 67 10 - 1) ∧ (0 ≤ (sx xs (i + 2)) ∧ (sx xs (i + 2)) ≤ 5)) := by
    rw [eN]
    exact hC
  refine zr_istore (L' := [(5, zv_i 1), (0, .ref bb), (1, .ref (g.2.2.1 0)), (2, .ref (g.2.2.1 67)), (3, .ref (g.2.2.1 90)), (4, zv_i i)]) (pc := 440) C dL_law_440 (by decide) rfl ?_
  refine zr_aload_n (pc := 442) C dL_law_442 3 rfl ?_
  refine zr_aload_n (pc := 443) C dL_law_443 1 rfl ?_
  refine zr_iload (pc := 444) C dL_law_444 5 rfl ?_
  refine zr_iconst (pc := 446) C dL_law_446 ?_
  refine zr_iadd (pc := 447) C dL_law_447 ?_
  refine zr_sld (pc := 448) C hk dL_law_448 (by omega) hL ?_
  refine zr_aload_n (pc := 449) C dL_law_449 1 rfl ?_
  refine zr_iload (pc := 450) C dL_law_450 5 rfl ?_
  refine zr_iconst (pc := 452) C dL_law_452 ?_
  refine zr_iadd (pc := 453) C dL_law_453 ?_
  refine zr_sld (pc := 454) C hk dL_law_454 (by omega) hL ?_
  refine zr_callV (As := [zv_i (sx xs (i + 1)), zv_i (sx xs (i + 2))]) (rest := []) (b := 67) (pc := 455) C dL_law_455 kX11_log vL_72 rfl (by decide) (by decide) (hs_67 _) rfl (Nat.le_of_ble_eq_true rfl) (n_log g τ1 (sx xs (i + 1)) (sx xs (i + 2)) (sx_r _ _) (sx_r _ _) (by rw [eN]; have := hLo.2.1; omega)) (fun v_ τ_ h_ => ?_)
  obtain ⟨rfl, e2⟩ := h_
  generalize τ_ = τ2 at e2 ⊢
  rw [zi_bt hC1] at e2
  rw [if_neg hC1]
  show zw_W g mL_law k 458 [(5, zv_i 1), (0, .ref bb), (1, .ref (g.2.2.1 0)), (2, .ref (g.2.2.1 67)), (3, .ref (g.2.2.1 90)), (4, zv_i i)] [zv_i 0] τ2
  refine zr_istore (L' := [(6, zv_i 0), (5, zv_i 1), (0, .ref bb), (1, .ref (g.2.2.1 0)), (2, .ref (g.2.2.1 67)), (3, .ref (g.2.2.1 90)), (4, zv_i i)]) (pc := 458) C dL_law_458 (by decide) rfl ?_
  refine zr_aload_n (pc := 460) C dL_law_460 4 rfl ?_
  refine zr_callV (As := []) (rest := []) (b := 67) (pc := 461) C dL_law_461 kX11_thrown vL_73 rfl (by decide) (by decide) (hs_67 _) rfl (Nat.le_of_ble_eq_true rfl) (n_thrown g τ2) (fun v_ τ_ h_ => ?_)
  obtain ⟨rfl, rfl⟩ := h_
  show zw_W g mL_law k 464 [(6, zv_i 0), (5, zv_i 1), (0, .ref bb), (1, .ref (g.2.2.1 0)), (2, .ref (g.2.2.1 67)), (3, .ref (g.2.2.1 90)), (4, zv_i i)] [zv_i (τ2 67 0)] τ2
  refine zr_iload (pc := 464) C dL_law_464 1 rfl ?_
  refine zr_same (pc := 466) C 471 dL_law_466 (by decide) (by rw [e2, zs_put_self]) ?_
  refine zr_iload (pc := 471) C dL_law_471 1 rfl ?_
  refine zr_if_ne (pc := 473) C 488 dL_law_473 (by decide) (by omega) (fun h_1 => ?_) (fun h_1 => ?_)
  · refine zr_goto (pc := 488) C 961 dL_law_488 (by decide) ?_
    refine zr_sub [2, 3, 4, 5, 6] rfl ?_
    exact hex k τ2 b q u p C hk (rl_E hR (fun c c1 c2 j => by rw [e2, zs_put_ne c1, f1 c c2]) (fun y y0 => by rw [e2, zs_put_off y0, f1 67 (by decide)]))
  · exact absurd h_1 (by decide)

set_option maxRecDepth 20000 in
set_option maxHeartbeats 4000000 in
theorem lc_log {g : zg_G} {k : zk_T} (C : zk_ok g mL_law k) (n : Int) (hg : (g.2.2.2 : Int) = n) (bb Ls : Nat) (xs : Nat → Int32) (i : Int) (hi : 1 ≤ i ∧ i + 5 ≤ Ls) (hL : Ls ≤ 2561) (hk : lw_k bb Ls xs i k) (b q u p : Nat) (σ : zs_S) (hR : rl_R σ n b q u p) (hex : lw_N g n bb Ls xs i)  : zw_W g mL_law k 423 [(0, .ref bb), (1, .ref (g.2.2.1 0)), (2, .ref (g.2.2.1 67)), (3, .ref (g.2.2.1 90)), (4, zv_i i)] [] σ := by
  obtain ⟨hA, hS, h23, hLo, ⟨⟨gb, gq, gqb, g4, g5⟩, gp, gu, gup, g6, g7⟩, h20, hPt, hJ⟩ := id hR
  obtain ⟨a1, a2, a3, a4, a5, a6, a7, a8⟩ := id hA
  obtain ⟨s1, s2, s3, s4⟩ := id hS
  refine zr_aload_n (pc := 423) C dL_law_423 1 rfl ?_
  refine zr_aload_n (pc := 424) C dL_law_424 0 rfl ?_
  refine zr_iload (pc := 425) C dL_law_425 4 rfl ?_
  refine zr_iconst (pc := 427) C dL_law_427 ?_
  refine zr_iadd (pc := 428) C dL_law_428 ?_
  refine zr_sld (pc := 429) C hk dL_law_429 (by omega) hL ?_
  refine zr_aload_n (pc := 430) C dL_law_430 0 rfl ?_
  refine zr_iload (pc := 431) C dL_law_431 4 rfl ?_
  refine zr_iconst (pc := 433) C dL_law_433 ?_
  refine zr_iadd (pc := 434) C dL_law_434 ?_
  refine zr_sld (pc := 435) C hk dL_law_435 (by omega) hL ?_
  refine zr_aload_n (pc := 436) C dL_law_436 3 rfl ?_
  refine zr_callH (As := [.ref (g.2.2.1 0), zv_i (sx xs (i + 1)), zv_i (sx xs (i + 2)), .ref (g.2.2.1 90)]) (rest := []) (pc := 437) C hk (by omega) dL_law_437 hL_log sL_69 rfl (by decide) rfl (Nat.le_of_ble_eq_true rfl) (h_log g σ (sx xs (i + 1)) (sx xs (i + 2)) (sx_r _ _) (sx_r _ _) b gb g4 hLo.2.1 (fun j j1 j2 => (hLo.2.2.1 j j1 j2).2)) (fun v_ τ_ h_ => ?_)
  rcases h_ with ⟨hC, rfl, e1⟩ | ⟨hC, rfl, e1⟩
  · exact lc_logY (lw_ok C hk (by omega)) n hg bb Ls xs i hi hL (lw_ku hk) b q u p σ hR hex hC τ_ e1
  · exact lc_logN (lw_ok C hk (by omega)) n hg bb Ls xs i hi hL (lw_ku hk) b q u p σ hR hex hC τ_ e1.symm

set_option maxRecDepth 20000 in
set_option maxHeartbeats 4000000 in
theorem lc_boardY {g : zg_G} {k : zk_T} (C : zk_ok g mL_law k) (n : Int) (hg : (g.2.2.2 : Int) = n) (bb Ls : Nat) (xs : Nat → Int32) (i : Int) (hi : 1 ≤ i ∧ i + 5 ≤ Ls) (hL : Ls ≤ 2561) (hk : lw_k bb Ls xs (i + 1) k) (b q u p : Nat) (σ : zs_S) (hR : rl_R σ n b q u p) (hex : lw_N g n bb Ls xs i) (hC : ((0 ≤ (sx xs (i + 1)) ∧ (sx xs (i + 1)) ≤ pa_n σ u - 1) ∧ (0 ≤ (sx xs (i + 2)) ∧ (sx xs (i + 2)) ≤ 3))) (τ1 : zs_S) (e1 : τ1 = zs_put σ 90 0 (pa_F σ u (sx xs (i + 1)) (sx xs (i + 2)))) : zw_W g mL_law k 848 [(0, .ref bb), (1, .ref (g.2.2.1 0)), (2, .ref (g.2.2.1 67)), (3, .ref (g.2.2.1 90)), (4, zv_i i)] [zv_i 0] τ1 := by
  obtain ⟨hA, hS, h23, hLo, ⟨⟨gb, gq, gqb, g4, g5⟩, gp, gu, gup, g6, g7⟩, h20, hPt, hJ⟩ := id hR
  obtain ⟨a1, a2, a3, a4, a5, a6, a7, a8⟩ := id hA
  obtain ⟨s1, s2, s3, s4⟩ := id hS
  have f1 : ∀ c : Nat, c ≠ 90 → ∀ j, τ1 c j = σ c j := fun c hc j => by rw [e1, zs_put_ne hc]
  have eN : τ1 67 20 = pa_n σ u := by
    rw [f1 67 (by decide)]
    exact hPt.1.1
  have hC1 : ((0 ≤ (sx xs (i + 1)) ∧ (sx xs (i + 1)) ≤ τ1 67 20 - 1) ∧ (0 ≤ (sx xs (i + 2)) ∧ (sx xs (i + 2)) ≤ 3)) := by
    rw [eN]
    exact hC
  refine zr_istore (L' := [(5, zv_i 0), (0, .ref bb), (1, .ref (g.2.2.1 0)), (2, .ref (g.2.2.1 67)), (3, .ref (g.2.2.1 90)), (4, zv_i i)]) (pc := 848) C dL_law_848 (by decide) rfl ?_
  refine zr_aload_n (pc := 850) C dL_law_850 3 rfl ?_
  refine zr_aload_n (pc := 851) C dL_law_851 1 rfl ?_
  refine zr_iload (pc := 852) C dL_law_852 5 rfl ?_
  refine zr_iconst (pc := 854) C dL_law_854 ?_
  refine zr_iadd (pc := 855) C dL_law_855 ?_
  refine zr_sld (pc := 856) C hk dL_law_856 (by omega) hL ?_
  refine zr_aload_n (pc := 857) C dL_law_857 1 rfl ?_
  refine zr_iload (pc := 858) C dL_law_858 5 rfl ?_
  refine zr_iconst (pc := 860) C dL_law_860 ?_
  refine zr_iadd (pc := 861) C dL_law_861 ?_
  refine zr_sld (pc := 862) C hk dL_law_862 (by omega) hL ?_
  refine zr_callV (As := [zv_i (sx xs (i + 1)), zv_i (sx xs (i + 2))]) (rest := []) (b := 67) (pc := 863) C dL_law_863 kX11_board vL_115 rfl (by decide) (by decide) (hs_67 _) rfl (Nat.le_of_ble_eq_true rfl) (n_board g τ1 (sx xs (i + 1)) (sx xs (i + 2)) (sx_r _ _) (sx_r _ _) (by rw [eN]; have := pa_nb hPt.2.1; omega)) (fun v_ τ_ h_ => ?_)
  obtain ⟨rfl, e2⟩ := h_
  generalize τ_ = τ2 at e2 ⊢
  rw [zi_bf (fun z => z hC1)] at e2
  rw [if_pos hC1]
  show zw_W g mL_law k 866 [(5, zv_i 0), (0, .ref bb), (1, .ref (g.2.2.1 0)), (2, .ref (g.2.2.1 67)), (3, .ref (g.2.2.1 90)), (4, zv_i i)] [zv_i (τ1 83 (4 * (sx xs (i + 1)) + (sx xs (i + 2))))] τ2
  refine zr_istore (L' := [(6, zv_i (τ1 83 (4 * (sx xs (i + 1)) + (sx xs (i + 2))))), (5, zv_i 0), (0, .ref bb), (1, .ref (g.2.2.1 0)), (2, .ref (g.2.2.1 67)), (3, .ref (g.2.2.1 90)), (4, zv_i i)]) (pc := 866) C dL_law_866 (by decide) rfl ?_
  refine zr_aload_n (pc := 868) C dL_law_868 4 rfl ?_
  refine zr_callV (As := []) (rest := []) (b := 67) (pc := 869) C dL_law_869 kX11_thrown vL_73 rfl (by decide) (by decide) (hs_67 _) rfl (Nat.le_of_ble_eq_true rfl) (n_thrown g τ2) (fun v_ τ_ h_ => ?_)
  obtain ⟨rfl, rfl⟩ := h_
  show zw_W g mL_law k 872 [(6, zv_i (τ1 83 (4 * (sx xs (i + 1)) + (sx xs (i + 2))))), (5, zv_i 0), (0, .ref bb), (1, .ref (g.2.2.1 0)), (2, .ref (g.2.2.1 67)), (3, .ref (g.2.2.1 90)), (4, zv_i i)] [zv_i (τ2 67 0)] τ2
  refine zr_iload (pc := 872) C dL_law_872 1 rfl ?_
  refine zr_same (pc := 874) C 879 dL_law_874 (by decide) (by rw [e2, zs_put_self]) ?_
  refine zr_iload (pc := 879) C dL_law_879 1 rfl ?_
  refine zr_if_ne (pc := 881) C 896 dL_law_881 (by decide) (by omega) (fun h_1 => ?_) (fun h_1 => ?_)
  · exact absurd h_1 (by decide)
  · refine zr_aload_n (pc := 884) C dL_law_884 5 rfl ?_
    refine zr_iconst (pc := 885) C dL_law_885 ?_
    refine zr_laload (pc := 886) C dL_law_886 (by decide) (hs_90 _) (by omega) (by decide) ?_
    refine zr_iload (pc := 887) C dL_law_887 0 rfl ?_
    refine zr_i2l (pc := 889) C dL_law_889 (by have z9 := hPt.2.2 (sx xs (i + 1)) (sx xs (i + 2)) (by omega) (by omega) (by omega) (by omega); rw [f1 83 (by decide), ← z9.1]; exact z9.2) ?_
    refine zr_lsame (pc := 890) C dL_law_890 (by rw [e2, zs_put_ne (by decide), e1, zs_put_self, zs_put_ne (by decide)]; exact (hPt.2.2 _ _ (by omega) (by omega) (by omega) (by omega)).1.symm) (by exact zl_rr (x := τ1 83 (4 * (sx xs (i + 1)) + (sx xs (i + 2)))) (by have z9 := hPt.2.2 (sx xs (i + 1)) (sx xs (i + 2)) (by omega) (by omega) (by omega) (by omega); rw [f1 83 (by decide), ← z9.1]; exact z9.2)) ?_
    refine zr_if_eq (pc := 891) C 896 dL_law_891 (by decide) (by omega) (fun h_2 => ?_) (fun h_2 => ?_)
    · refine zr_goto (pc := 896) C 961 dL_law_896 (by decide) ?_
      refine zr_sub [2, 3, 4, 5, 6] rfl ?_
      exact hex k τ2 b q u p C hk (rl_E hR (fun c c1 c2 j => by rw [e2, zs_put_ne c1, f1 c c2]) (fun y y0 => by rw [e2, zs_put_off y0, f1 67 (by decide)]))
    · exact absurd h_2 (by decide)

set_option maxRecDepth 20000 in
set_option maxHeartbeats 4000000 in
theorem lc_boardN {g : zg_G} {k : zk_T} (C : zk_ok g mL_law k) (n : Int) (hg : (g.2.2.2 : Int) = n) (bb Ls : Nat) (xs : Nat → Int32) (i : Int) (hi : 1 ≤ i ∧ i + 5 ≤ Ls) (hL : Ls ≤ 2561) (hk : lw_k bb Ls xs (i + 1) k) (b q u p : Nat) (σ : zs_S) (hR : rl_R σ n b q u p) (hex : lw_N g n bb Ls xs i) (hC : ¬ ((0 ≤ (sx xs (i + 1)) ∧ (sx xs (i + 1)) ≤ pa_n σ u - 1) ∧ (0 ≤ (sx xs (i + 2)) ∧ (sx xs (i + 2)) ≤ 3))) (τ1 : zs_S) (e1 : τ1 = σ) : zw_W g mL_law k 848 [(0, .ref bb), (1, .ref (g.2.2.1 0)), (2, .ref (g.2.2.1 67)), (3, .ref (g.2.2.1 90)), (4, zv_i i)] [zv_i 1] τ1 := by
  obtain ⟨hA, hS, h23, hLo, ⟨⟨gb, gq, gqb, g4, g5⟩, gp, gu, gup, g6, g7⟩, h20, hPt, hJ⟩ := id hR
  obtain ⟨a1, a2, a3, a4, a5, a6, a7, a8⟩ := id hA
  obtain ⟨s1, s2, s3, s4⟩ := id hS
  have f1 : ∀ c : Nat, c ≠ 90 → ∀ j, τ1 c j = σ c j := fun c hc j => by rw [e1]
  have eN : τ1 67 20 = pa_n σ u := by
    rw [f1 67 (by decide)]
    exact hPt.1.1
  have hC1 : ¬ ((0 ≤ (sx xs (i + 1)) ∧ (sx xs (i + 1)) ≤ τ1 67 20 - 1) ∧ (0 ≤ (sx xs (i + 2)) ∧ (sx xs (i + 2)) ≤ 3)) := by
    rw [eN]
    exact hC
  refine zr_istore (L' := [(5, zv_i 1), (0, .ref bb), (1, .ref (g.2.2.1 0)), (2, .ref (g.2.2.1 67)), (3, .ref (g.2.2.1 90)), (4, zv_i i)]) (pc := 848) C dL_law_848 (by decide) rfl ?_
  refine zr_aload_n (pc := 850) C dL_law_850 3 rfl ?_
  refine zr_aload_n (pc := 851) C dL_law_851 1 rfl ?_
  refine zr_iload (pc := 852) C dL_law_852 5 rfl ?_
  refine zr_iconst (pc := 854) C dL_law_854 ?_
  refine zr_iadd (pc := 855) C dL_law_855 ?_
  refine zr_sld (pc := 856) C hk dL_law_856 (by omega) hL ?_
  refine zr_aload_n (pc := 857) C dL_law_857 1 rfl ?_
  refine zr_iload (pc := 858) C dL_law_858 5 rfl ?_
  refine zr_iconst (pc := 860) C dL_law_860 ?_
  refine zr_iadd (pc := 861) C dL_law_861 ?_
  refine zr_sld (pc := 862) C hk dL_law_862 (by omega) hL ?_
  refine zr_callV (As := [zv_i (sx xs (i + 1)), zv_i (sx xs (i + 2))]) (rest := []) (b := 67) (pc := 863) C dL_law_863 kX11_board vL_115 rfl (by decide) (by decide) (hs_67 _) rfl (Nat.le_of_ble_eq_true rfl) (n_board g τ1 (sx xs (i + 1)) (sx xs (i + 2)) (sx_r _ _) (sx_r _ _) (by rw [eN]; have := pa_nb hPt.2.1; omega)) (fun v_ τ_ h_ => ?_)
  obtain ⟨rfl, e2⟩ := h_
  generalize τ_ = τ2 at e2 ⊢
  rw [zi_bt hC1] at e2
  rw [if_neg hC1]
  show zw_W g mL_law k 866 [(5, zv_i 1), (0, .ref bb), (1, .ref (g.2.2.1 0)), (2, .ref (g.2.2.1 67)), (3, .ref (g.2.2.1 90)), (4, zv_i i)] [zv_i 0] τ2
  refine zr_istore (L' := [(6, zv_i 0), (5, zv_i 1), (0, .ref bb), (1, .ref (g.2.2.1 0)), (2, .ref (g.2.2.1 67)), (3, .ref (g.2.2.1 90)), (4, zv_i i)]) (pc := 866) C dL_law_866 (by decide) rfl ?_
  refine zr_aload_n (pc := 868) C dL_law_868 4 rfl ?_
  refine zr_callV (As := []) (rest := []) (b := 67) (pc := 869) C dL_law_869 kX11_thrown vL_73 rfl (by decide) (by decide) (hs_67 _) rfl (Nat.le_of_ble_eq_true rfl) (n_thrown g τ2) (fun v_ τ_ h_ => ?_)
  obtain ⟨rfl, rfl⟩ := h_
  show zw_W g mL_law k 872 [(6, zv_i 0), (5, zv_i 1), (0, .ref bb), (1, .ref (g.2.2.1 0)), (2, .ref (g.2.2.1 67)), (3, .ref (g.2.2.1 90)), (4, zv_i i)] [zv_i (τ2 67 0)] τ2
  refine zr_iload (pc := 872) C dL_law_872 1 rfl ?_
  refine zr_same (pc := 874) C 879 dL_law_874 (by decide) (by rw [e2, zs_put_self]) ?_
  refine zr_iload (pc := 879) C dL_law_879 1 rfl ?_
  refine zr_if_ne (pc := 881) C 896 dL_law_881 (by decide) (by omega) (fun h_1 => ?_) (fun h_1 => ?_)
  · refine zr_goto (pc := 896) C 961 dL_law_896 (by decide) ?_
    refine zr_sub [2, 3, 4, 5, 6] rfl ?_
    exact hex k τ2 b q u p C hk (rl_E hR (fun c c1 c2 j => by rw [e2, zs_put_ne c1, f1 c c2]) (fun y y0 => by rw [e2, zs_put_off y0, f1 67 (by decide)]))
  · exact absurd h_1 (by decide)

set_option maxRecDepth 20000 in
set_option maxHeartbeats 4000000 in
theorem lc_board {g : zg_G} {k : zk_T} (C : zk_ok g mL_law k) (n : Int) (hg : (g.2.2.2 : Int) = n) (bb Ls : Nat) (xs : Nat → Int32) (i : Int) (hi : 1 ≤ i ∧ i + 5 ≤ Ls) (hL : Ls ≤ 2561) (hk : lw_k bb Ls xs i k) (b q u p : Nat) (σ : zs_S) (hR : rl_R σ n b q u p) (hex : lw_N g n bb Ls xs i)  : zw_W g mL_law k 831 [(0, .ref bb), (1, .ref (g.2.2.1 0)), (2, .ref (g.2.2.1 67)), (3, .ref (g.2.2.1 90)), (4, zv_i i)] [] σ := by
  obtain ⟨hA, hS, h23, hLo, ⟨⟨gb, gq, gqb, g4, g5⟩, gp, gu, gup, g6, g7⟩, h20, hPt, hJ⟩ := id hR
  obtain ⟨a1, a2, a3, a4, a5, a6, a7, a8⟩ := id hA
  obtain ⟨s1, s2, s3, s4⟩ := id hS
  refine zr_aload_n (pc := 831) C dL_law_831 1 rfl ?_
  refine zr_aload_n (pc := 832) C dL_law_832 0 rfl ?_
  refine zr_iload (pc := 833) C dL_law_833 4 rfl ?_
  refine zr_iconst (pc := 835) C dL_law_835 ?_
  refine zr_iadd (pc := 836) C dL_law_836 ?_
  refine zr_sld (pc := 837) C hk dL_law_837 (by omega) hL ?_
  refine zr_aload_n (pc := 838) C dL_law_838 0 rfl ?_
  refine zr_iload (pc := 839) C dL_law_839 4 rfl ?_
  refine zr_iconst (pc := 841) C dL_law_841 ?_
  refine zr_iadd (pc := 842) C dL_law_842 ?_
  refine zr_sld (pc := 843) C hk dL_law_843 (by omega) hL ?_
  refine zr_aload_n (pc := 844) C dL_law_844 3 rfl ?_
  refine zr_callH (As := [.ref (g.2.2.1 0), zv_i (sx xs (i + 1)), zv_i (sx xs (i + 2)), .ref (g.2.2.1 90)]) (rest := []) (pc := 845) C hk (by omega) dL_law_845 hL_board sL_113 rfl (by decide) rfl (Nat.le_of_ble_eq_true rfl) (h_board g σ (sx xs (i + 1)) (sx xs (i + 2)) (sx_r _ _) (sx_r _ _) u gu g6 hPt.2.1 (pa_nb hPt.2.1) (fun j1 j2 k1 k2 k3 k4 => (hPt.2.2 j1 j2 k1 k2 k3 k4).2)) (fun v_ τ_ h_ => ?_)
  rcases h_ with ⟨hC, rfl, e1⟩ | ⟨hC, rfl, e1⟩
  · exact lc_boardY (lw_ok C hk (by omega)) n hg bb Ls xs i hi hL (lw_ku hk) b q u p σ hR hex hC τ_ e1
  · exact lc_boardN (lw_ok C hk (by omega)) n hg bb Ls xs i hi hL (lw_ku hk) b q u p σ hR hex hC τ_ e1.symm

set_option maxRecDepth 20000 in
set_option maxHeartbeats 4000000 in
theorem lc_sawY {g : zg_G} {k : zk_T} (C : zk_ok g mL_law k) (n : Int) (hg : (g.2.2.2 : Int) = n) (bb Ls : Nat) (xs : Nat → Int32) (i : Int) (hi : 1 ≤ i ∧ i + 5 ≤ Ls) (hL : Ls ≤ 2561) (hk : lw_k bb Ls xs (i + 1) k) (b q u p : Nat) (σ : zs_S) (hR : rl_R σ n b q u p) (hex : lw_N g n bb Ls xs i) (hC : 0 ≤ (sx xs (i + 1)) ∧ (sx xs (i + 1)) ≤ σ b 0 - 1) (h x : Int) (l1 l2 : List Int) (u' p' : Nat) (τ1 τ2 : zs_S) (hx9 : 0 ≤ x ∧ x ≤ 1000000000) (hO : sw_O σ τ1 (10 * σ (b + 1) ((sx xs (i + 1)) * 6 + 2)) (σ (b + 1) ((sx xs (i + 1)) * 6 + 4)) h x l1 l2 u' p') (e2 : τ2 = zs_put τ1 90 0 x) : zw_W g mL_law k 773 [(0, .ref bb), (1, .ref (g.2.2.1 0)), (2, .ref (g.2.2.1 67)), (3, .ref (g.2.2.1 90)), (4, zv_i i)] [zv_i 0] τ2 := by
  obtain ⟨hA, hS, h23, hLo, ⟨⟨gb, gq, gqb, g4, g5⟩, gp, gu, gup, g6, g7⟩, h20, hPt, hJ⟩ := id hR
  obtain ⟨a1, a2, a3, a4, a5, a6, a7, a8⟩ := id hA
  obtain ⟨s1, s2, s3, s4⟩ := id hS
  have gb' : b = 22 ∨ b = 24 := gb
  have fO := hO.2.2.2.2.2.2.2.2
  have f2 : ∀ c : Nat, 67 ≤ c → c ≠ 90 → ∀ j, τ2 c j = σ c j := fun c hc h9 j => by rw [e2, zs_put_ne h9, fO c (Or.inr (by omega)) (by omega) (by omega)]
  have z2 := hLo.2.2.1 ((sx xs (i + 1)) * 6 + 2) (by omega) (by omega)
  have z4 := hLo.2.2.1 ((sx xs (i + 1)) * 6 + 4) (by omega) (by omega)
  have zf := hLo.2.2.2 (sx xs (i + 1)) (by omega) (by omega)
  have eN : τ2 67 10 = σ b 0 := by
    rw [f2 67 (by decide) (by decide)]
    exact hLo.1.symm
  have hM2 : md_S σ τ2 := md_Sx hS (fun c c1 c2 j => f2 c (by omega) (by omega) j) (f2 67 (by decide) (by decide) 17)
  refine zr_istore (L' := [(5, zv_i 0), (0, .ref bb), (1, .ref (g.2.2.1 0)), (2, .ref (g.2.2.1 67)), (3, .ref (g.2.2.1 90)), (4, zv_i i)]) (pc := 773) C dL_law_773 (by decide) rfl ?_
  refine zr_aload_n (pc := 775) C dL_law_775 3 rfl ?_
  refine zr_aload_n (pc := 776) C dL_law_776 1 rfl ?_
  refine zr_iload (pc := 777) C dL_law_777 5 rfl ?_
  refine zr_iconst (pc := 779) C dL_law_779 ?_
  refine zr_iadd (pc := 780) C dL_law_780 ?_
  refine zr_sld (pc := 781) C hk dL_law_781 (by omega) hL ?_
  refine zr_callV (As := [zv_i (sx xs (i + 1))]) (rest := []) (b := 67) (pc := 782) C dL_law_782 kX11_saw vL_108 rfl (by decide) (by decide) (hs_67 _) rfl (Nat.le_of_ble_eq_true rfl) (n_saw g τ2 σ hM2 (sx xs (i + 1)) (sx_r _ _) (by rw [eN]; have := hLo.2.1; omega) (σ (b + 1) ((sx xs (i + 1)) * 6 + 2)) (σ (b + 1) ((sx xs (i + 1)) * 6 + 4)) (by rw [eN]; exact hC) ⟨by rw [f2 75 (by decide) (by decide), show 6 * (sx xs (i + 1)) + 2 = (sx xs (i + 1)) * 6 + 2 by omega]; exact z2.1.symm, by omega, by omega⟩ ⟨by rw [f2 75 (by decide) (by decide), show 6 * (sx xs (i + 1)) + 4 = (sx xs (i + 1)) * 6 + 4 by omega]; exact z4.1.symm, by omega, by omega⟩) (fun v_ τ_ h_ => ?_)
  obtain ⟨h', x', l1', l2', rfl, w1, w2, w3, w4, w5, w6, w7, w8, w9⟩ := h_
  generalize τ_ = τ3 at w3 w4 w5 w6 w7 w8 w9 ⊢
  obtain ⟨ex, hR3⟩ := rl_saw (τ := τ3) hR zf.2 hO w1 w2 w3 w4.1 w5 w6 (fun c hc j => by rw [w7 c (by simp only [List.mem_cons, List.not_mem_nil, or_false]; omega), e2, zs_put_ne (by omega)]) (fun y y0 y1 y2 => by rw [w9 y y0 y1 y2, e2, zs_put_ne (by decide)])
  have e90 : τ3 90 0 = x := by rw [w7 90 (by decide), e2, zs_put_self]
  show zw_W g mL_law k 785 [(5, zv_i 0), (0, .ref bb), (1, .ref (g.2.2.1 0)), (2, .ref (g.2.2.1 67)), (3, .ref (g.2.2.1 90)), (4, zv_i i)] [zv_i (x')] τ3
  refine zr_istore (L' := [(6, zv_i (x')), (5, zv_i 0), (0, .ref bb), (1, .ref (g.2.2.1 0)), (2, .ref (g.2.2.1 67)), (3, .ref (g.2.2.1 90)), (4, zv_i i)]) (pc := 785) C dL_law_785 (by decide) rfl ?_
  refine zr_aload_n (pc := 787) C dL_law_787 4 rfl ?_
  refine zr_callV (As := []) (rest := []) (b := 67) (pc := 788) C dL_law_788 kX11_thrown vL_73 rfl (by decide) (by decide) (hs_67 _) rfl (Nat.le_of_ble_eq_true rfl) (n_thrown g τ3) (fun v_ τ_ h_ => ?_)
  obtain ⟨rfl, rfl⟩ := h_
  show zw_W g mL_law k 791 [(6, zv_i (x')), (5, zv_i 0), (0, .ref bb), (1, .ref (g.2.2.1 0)), (2, .ref (g.2.2.1 67)), (3, .ref (g.2.2.1 90)), (4, zv_i i)] [zv_i (τ3 67 0)] τ3
  refine zr_iload (pc := 791) C dL_law_791 1 rfl ?_
  refine zr_same (pc := 793) C 798 dL_law_793 (by decide) (w8.symm) ?_
  refine zr_iload (pc := 798) C dL_law_798 1 rfl ?_
  refine zr_if_ne (pc := 800) C 815 dL_law_800 (by decide) (by omega) (fun h_1 => ?_) (fun h_1 => ?_)
  · exact absurd h_1 (by decide)
  · refine zr_aload_n (pc := 803) C dL_law_803 5 rfl ?_
    refine zr_iconst (pc := 804) C dL_law_804 ?_
    refine zr_laload (pc := 805) C dL_law_805 (by decide) (hs_90 _) (by omega) (by decide) ?_
    refine zr_iload (pc := 806) C dL_law_806 0 rfl ?_
    refine zr_i2l (pc := 808) C dL_law_808 (by omega) ?_
    refine zr_lsame (pc := 809) C dL_law_809 (by rw [e90]; exact ex) (by omega) ?_
    refine zr_if_eq (pc := 810) C 815 dL_law_810 (by decide) (by omega) (fun h_2 => ?_) (fun h_2 => ?_)
    · refine zr_goto (pc := 815) C 961 dL_law_815 (by decide) ?_
      refine zr_sub [2, 3, 4, 5, 6] rfl ?_
      exact hex k τ3 b q u' p' C hk hR3
    · exact absurd h_2 (by decide)

set_option maxRecDepth 20000 in
set_option maxHeartbeats 4000000 in
theorem lc_sawN {g : zg_G} {k : zk_T} (C : zk_ok g mL_law k) (n : Int) (hg : (g.2.2.2 : Int) = n) (bb Ls : Nat) (xs : Nat → Int32) (i : Int) (hi : 1 ≤ i ∧ i + 5 ≤ Ls) (hL : Ls ≤ 2561) (hk : lw_k bb Ls xs (i + 1) k) (b q u p : Nat) (σ : zs_S) (hR : rl_R σ n b q u p) (hex : lw_N g n bb Ls xs i) (hC : ¬ (0 ≤ (sx xs (i + 1)) ∧ (sx xs (i + 1)) ≤ σ b 0 - 1)) (τ1 : zs_S) (e1 : τ1 = σ) : zw_W g mL_law k 773 [(0, .ref bb), (1, .ref (g.2.2.1 0)), (2, .ref (g.2.2.1 67)), (3, .ref (g.2.2.1 90)), (4, zv_i i)] [zv_i 1] τ1 := by
  obtain ⟨hA, hS, h23, hLo, ⟨⟨gb, gq, gqb, g4, g5⟩, gp, gu, gup, g6, g7⟩, h20, hPt, hJ⟩ := id hR
  obtain ⟨a1, a2, a3, a4, a5, a6, a7, a8⟩ := id hA
  obtain ⟨s1, s2, s3, s4⟩ := id hS
  refine zr_istore (L' := [(5, zv_i 1), (0, .ref bb), (1, .ref (g.2.2.1 0)), (2, .ref (g.2.2.1 67)), (3, .ref (g.2.2.1 90)), (4, zv_i i)]) (pc := 773) C dL_law_773 (by decide) rfl ?_
  refine zr_aload_n (pc := 775) C dL_law_775 3 rfl ?_
  refine zr_aload_n (pc := 776) C dL_law_776 1 rfl ?_
  refine zr_iload (pc := 777) C dL_law_777 5 rfl ?_
  refine zr_iconst (pc := 779) C dL_law_779 ?_
  refine zr_iadd (pc := 780) C dL_law_780 ?_
  refine zr_sld (pc := 781) C hk dL_law_781 (by omega) hL ?_
  refine zr_callV (As := [zv_i (sx xs (i + 1))]) (rest := []) (b := 67) (pc := 782) C dL_law_782 kX11_saw vL_108 rfl (by decide) (by decide) (hs_67 _) rfl (Nat.le_of_ble_eq_true rfl) (n_sawT g τ1 (sx xs (i + 1)) (sx_r _ _) (by rw [e1, ← hLo.1]; have := hLo.2.1; omega) (by rw [e1, ← hLo.1]; exact hC)) (fun v_ τ_ h_ => ?_)
  obtain ⟨rfl, e2⟩ := h_
  generalize τ_ = τ2 at e2 ⊢
  show zw_W g mL_law k 785 [(5, zv_i 1), (0, .ref bb), (1, .ref (g.2.2.1 0)), (2, .ref (g.2.2.1 67)), (3, .ref (g.2.2.1 90)), (4, zv_i i)] [zv_i 0] τ2
  refine zr_istore (L' := [(6, zv_i 0), (5, zv_i 1), (0, .ref bb), (1, .ref (g.2.2.1 0)), (2, .ref (g.2.2.1 67)), (3, .ref (g.2.2.1 90)), (4, zv_i i)]) (pc := 785) C dL_law_785 (by decide) rfl ?_
  refine zr_aload_n (pc := 787) C dL_law_787 4 rfl ?_
  refine zr_callV (As := []) (rest := []) (b := 67) (pc := 788) C dL_law_788 kX11_thrown vL_73 rfl (by decide) (by decide) (hs_67 _) rfl (Nat.le_of_ble_eq_true rfl) (n_thrown g τ2) (fun v_ τ_ h_ => ?_)
  obtain ⟨rfl, rfl⟩ := h_
  show zw_W g mL_law k 791 [(6, zv_i 0), (5, zv_i 1), (0, .ref bb), (1, .ref (g.2.2.1 0)), (2, .ref (g.2.2.1 67)), (3, .ref (g.2.2.1 90)), (4, zv_i i)] [zv_i (τ2 67 0)] τ2
  refine zr_iload (pc := 791) C dL_law_791 1 rfl ?_
  refine zr_same (pc := 793) C 798 dL_law_793 (by decide) (by rw [e2, zs_put_self]) ?_
  refine zr_iload (pc := 798) C dL_law_798 1 rfl ?_
  refine zr_if_ne (pc := 800) C 815 dL_law_800 (by decide) (by omega) (fun h_1 => ?_) (fun h_1 => ?_)
  · refine zr_goto (pc := 815) C 961 dL_law_815 (by decide) ?_
    refine zr_sub [2, 3, 4, 5, 6] rfl ?_
    exact hex k τ2 b q u p C hk (rl_E hR (fun c c1 c2 j => by rw [e2, zs_put_ne c1, e1]) (fun y y0 => by rw [e2, zs_put_off y0, e1]))
  · exact absurd h_1 (by decide)

set_option maxRecDepth 20000 in
set_option maxHeartbeats 4000000 in
theorem lc_saw {g : zg_G} {k : zk_T} (C : zk_ok g mL_law k) (n : Int) (hg : (g.2.2.2 : Int) = n) (bb Ls : Nat) (xs : Nat → Int32) (i : Int) (hi : 1 ≤ i ∧ i + 5 ≤ Ls) (hL : Ls ≤ 2561) (hk : lw_k bb Ls xs i k) (b q u p : Nat) (σ : zs_S) (hR : rl_R σ n b q u p) (hex : lw_N g n bb Ls xs i)  : zw_W g mL_law k 762 [(0, .ref bb), (1, .ref (g.2.2.1 0)), (2, .ref (g.2.2.1 67)), (3, .ref (g.2.2.1 90)), (4, zv_i i)] [] σ := by
  obtain ⟨hA, hS, h23, hLo, ⟨⟨gb, gq, gqb, g4, g5⟩, gp, gu, gup, g6, g7⟩, h20, hPt, hJ⟩ := id hR
  obtain ⟨a1, a2, a3, a4, a5, a6, a7, a8⟩ := id hA
  obtain ⟨s1, s2, s3, s4⟩ := id hS
  refine zr_aload_n (pc := 762) C dL_law_762 1 rfl ?_
  refine zr_aload_n (pc := 763) C dL_law_763 0 rfl ?_
  refine zr_iload (pc := 764) C dL_law_764 4 rfl ?_
  refine zr_iconst (pc := 766) C dL_law_766 ?_
  refine zr_iadd (pc := 767) C dL_law_767 ?_
  refine zr_sld (pc := 768) C hk dL_law_768 (by omega) hL ?_
  refine zr_aload_n (pc := 769) C dL_law_769 3 rfl ?_
  refine zr_callH (As := [.ref (g.2.2.1 0), zv_i (sx xs (i + 1)), .ref (g.2.2.1 90)]) (rest := []) (pc := 770) C hk (by omega) dL_law_770 hL_saw sL_105 rfl (by decide) rfl (Nat.le_of_ble_eq_true rfl) (h_saw g σ (sx xs (i + 1)) (sx_r _ _) b gb g4 hLo.2.1 p u gp gu gup g6 g7 s1 hJ hLo.2.2.2) (fun v_ τ_ h_ => ?_)
  rcases h_ with ⟨hC, rfl, h, x, l1, l2, u', p', τ1, hx9, hO, e2⟩ | ⟨hC, rfl, e1⟩
  · exact lc_sawY (lw_ok C hk (by omega)) n hg bb Ls xs i hi hL (lw_ku hk) b q u p σ hR hex hC h x l1 l2 u' p' τ1 τ_ hx9 hO e2
  · exact lc_sawN (lw_ok C hk (by omega)) n hg bb Ls xs i hi hL (lw_ku hk) b q u p σ hR hex hC τ_ e1.symm
