set_option maxRecDepth 20000 in
set_option maxHeartbeats 4000000 in
theorem l_law {g : zg_G} (n : Int) (hg : (g.2.2.2 : Int) = n) (bb Ls : Nat) (xs : Nat → Int32) (hL : Ls ≤ 2561) : ∀ (N : Nat) (k : zk_T) (σ : zs_S) (i : Int) (b q u p : Nat), ((Ls : Int) - i).toNat < N → (1 ≤ i ∧ i ≤ 2600) → zk_ok g mL_law k → lw_k bb Ls xs i k → rl_R σ n b q u p → zw_W g mL_law k 33 [(0, .ref bb), (1, .ref (g.2.2.1 0)), (2, .ref (g.2.2.1 67)), (3, .ref (g.2.2.1 90)), (4, zv_i i)] [] σ := by
  intro N
  induction N with
  | zero =>
    intro k σ i b q u p hN
    exact absurd hN (by omega)
  | succ N ih =>
    intro k σ i b q u p hN hi C hk hR
    refine zr_iload (pc := 33) C dL_law_33 4 rfl ?_
    refine zr_aload_n (pc := 35) C dL_law_35 0 rfl ?_
    refine zr_slen (pc := 36) C hk dL_law_36 ?_
    refine zr_iconst (pc := 37) C dL_law_37 ?_
    refine zr_isub (pc := 38) C dL_law_38 ?_
    refine zr_icmp_gt (pc := 39) C 967 dL_law_39 (by decide) (by omega) (by omega) (fun h_1 => ?_) (fun h_1 => ?_)
    · refine zr_iconst (pc := 967) C dL_law_967 ?_
      exact zr_lret C hk (by omega) dL_law_968
    · have hex : lw_N g n bb Ls xs i := by
        intro k τ b q u p C hk1 hR1
        refine zr_iinc (L' := [(4, zv_i (i + 5)), (0, .ref bb), (1, .ref (g.2.2.1 0)), (2, .ref (g.2.2.1 67)), (3, .ref (g.2.2.1 90))]) (pc := 961) C dL_law_961 4 rfl (by decide) rfl ?_
        refine zr_goto (pc := 964) C 33 dL_law_964 (by decide) ?_
        refine zr_sub [1, 2, 3, 4, 0] rfl ?_
        exact ih k τ (i + 5) b q u p (by omega) (by omega) C (lw_km hk1 (by omega)) hR1
      refine zr_aload_n (pc := 42) C dL_law_42 0 rfl ?_
      refine zr_iload (pc := 43) C dL_law_43 4 rfl ?_
      refine zr_sld (pc := 45) C hk dL_law_45 (by omega) hL ?_
      refine zr_bipush (pc := 46) C dL_law_46 (by decide) ?_
      refine zr_op (pc := 48) C dL_law_48 ?_
      rcases (show (lw_o (sx xs i)) = 0 ∨ (lw_o (sx xs i)) = 1 ∨ (lw_o (sx xs i)) = 2 ∨ (lw_o (sx xs i)) = 3 ∨ (lw_o (sx xs i)) = 4 ∨ (lw_o (sx xs i)) = 5 ∨ (lw_o (sx xs i)) = 6 ∨ (lw_o (sx xs i)) = 7 ∨ (lw_o (sx xs i)) = 8 ∨ (lw_o (sx xs i)) = 9 ∨ (lw_o (sx xs i)) = 10 ∨ (lw_o (sx xs i)) = 11 ∨ (lw_o (sx xs i)) = 12 ∨ (lw_o (sx xs i)) = 13 ∨ (lw_o (sx xs i)) = 14 ∨ (lw_o (sx xs i)) = 15 ∨ (lw_o (sx xs i)) = 16 ∨ (lw_o (sx xs i)) = 17 ∨ (lw_o (sx xs i)) = 18 ∨ (lw_o (sx xs i)) = 19 ∨ ((lw_o (sx xs i)) < 0 ∨ 19 < (lw_o (sx xs i))) by omega) with h_2 | h_2 | h_2 | h_2 | h_2 | h_2 | h_2 | h_2 | h_2 | h_2 | h_2 | h_2 | h_2 | h_2 | h_2 | h_2 | h_2 | h_2 | h_2 | h_2 | h_2
      · refine zr_tabIn (pc := 49) C 144 dL_law_49 (by have := lw_ob (sx xs i); omega) (by omega) (by rw [h_2]; rfl) (by decide) ?_
        exact lc_diam C n hg bb Ls xs i (by omega) hL hk b q u p σ hR hex
      · refine zr_tabIn (pc := 49) C 181 dL_law_49 (by have := lw_ob (sx xs i); omega) (by omega) (by rw [h_2]; rfl) (by decide) ?_
        exact lc_def C n hg bb Ls xs i (by omega) hL hk b q u p σ hR hex
      · refine zr_tabIn (pc := 49) C 230 dL_law_49 (by have := lw_ob (sx xs i); omega) (by omega) (by rw [h_2]; rfl) (by decide) ?_
        exact lc_kind C n hg bb Ls xs i (by omega) hL hk b q u p σ hR hex
      · refine zr_tabIn (pc := 49) C 279 dL_law_49 (by have := lw_ob (sx xs i); omega) (by omega) (by rw [h_2]; rfl) (by decide) ?_
        exact lc_price C n hg bb Ls xs i (by omega) hL hk b q u p σ hR hex
      · refine zr_tabIn (pc := 49) C 340 dL_law_49 (by have := lw_ob (sx xs i); omega) (by omega) (by rw [h_2]; rfl) (by decide) ?_
        exact lc_buck C n hg bb Ls xs i (by omega) hL hk b q u p σ hR hex
      · refine zr_tabIn (pc := 49) C 353 dL_law_49 (by have := lw_ob (sx xs i); omega) (by omega) (by rw [h_2]; rfl) (by decide) ?_
        exact lc_byHand C n hg bb Ls xs i (by omega) hL hk b q u p σ hR hex
      · refine zr_tabIn (pc := 49) C 410 dL_law_49 (by have := lw_ob (sx xs i); omega) (by omega) (by rw [h_2]; rfl) (by decide) ?_
        exact lc_logs C n hg bb Ls xs i (by omega) hL hk b q u p σ hR hex
      · refine zr_tabIn (pc := 49) C 423 dL_law_49 (by have := lw_ob (sx xs i); omega) (by omega) (by rw [h_2]; rfl) (by decide) ?_
        exact lc_log C n hg bb Ls xs i (by omega) hL hk b q u p σ hR hex
      · refine zr_tabIn (pc := 49) C 491 dL_law_49 (by have := lw_ob (sx xs i); omega) (by omega) (by rw [h_2]; rfl) (by decide) ?_
        exact lc_size C n hg bb Ls xs i (by omega) hL hk b q u p σ hR hex
      · refine zr_tabIn (pc := 49) C 540 dL_law_49 (by have := lw_ob (sx xs i); omega) (by omega) (by rw [h_2]; rfl) (by decide) ?_
        exact lc_bprice C n hg bb Ls xs i (by omega) hL hk b q u p σ hR hex
      · refine zr_tabIn (pc := 49) C 589 dL_law_49 (by have := lw_ob (sx xs i); omega) (by omega) (by rw [h_2]; rfl) (by decide) ?_
        exact lc_height C n hg bb Ls xs i (by omega) hL hk b q u p σ hR hex
      · refine zr_tabIn (pc := 49) C 626 dL_law_49 (by have := lw_ob (sx xs i); omega) (by omega) (by rw [h_2]; rfl) (by decide) ?_
        exact lc_kerf C n hg bb Ls xs i (by omega) hL hk b q u p σ hR hex
      · refine zr_tabIn (pc := 49) C 651 dL_law_49 (by have := lw_ob (sx xs i); omega) (by omega) (by rw [h_2]; rfl) (by decide) ?_
        exact lc_need C n hg bb Ls xs i (by omega) hL hk b q u p σ hR hex
      · refine zr_tabIn (pc := 49) C 688 dL_law_49 (by have := lw_ob (sx xs i); omega) (by omega) (by rw [h_2]; rfl) (by decide) ?_
        exact lc_ladder C n hg bb Ls xs i (by omega) hL hk b q u p σ hR hex
      · refine zr_tabIn (pc := 49) C 737 dL_law_49 (by have := lw_ob (sx xs i); omega) (by omega) (by rw [h_2]; rfl) (by decide) ?_
        exact lc_needNow C n hg bb Ls xs i (by omega) hL hk b q u p σ hR hex
      · refine zr_tabIn (pc := 49) C 762 dL_law_49 (by have := lw_ob (sx xs i); omega) (by omega) (by rw [h_2]; rfl) (by decide) ?_
        exact lc_saw C n hg bb Ls xs i (by omega) hL hk b q u p σ hR hex
      · refine zr_tabIn (pc := 49) C 818 dL_law_49 (by have := lw_ob (sx xs i); omega) (by omega) (by rw [h_2]; rfl) (by decide) ?_
        exact lc_boards C n hg bb Ls xs i (by omega) hL hk b q u p σ hR hex
      · refine zr_tabIn (pc := 49) C 831 dL_law_49 (by have := lw_ob (sx xs i); omega) (by omega) (by rw [h_2]; rfl) (by decide) ?_
        exact lc_board C n hg bb Ls xs i (by omega) hL hk b q u p σ hR hex
      · refine zr_tabIn (pc := 49) C 899 dL_law_49 (by have := lw_ob (sx xs i); omega) (by omega) (by rw [h_2]; rfl) (by decide) ?_
        exact lc_cant C n hg bb Ls xs i (by omega) hL hk b q u p σ hR hex
      · refine zr_tabIn (pc := 49) C 912 dL_law_49 (by have := lw_ob (sx xs i); omega) (by omega) (by rw [h_2]; rfl) (by decide) ?_
        exact lc_fits C n hg bb Ls xs i (by omega) hL hk b q u p σ hR hex
      · refine zr_tabOut (pc := 49) C 961 dL_law_49 (by have := lw_ob (sx xs i); omega) h_2 (by decide) ?_
        exact hex k σ b q u p C (lw_km hk (by omega)) hR
