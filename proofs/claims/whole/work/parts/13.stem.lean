set_option maxRecDepth 20000 in
set_option maxHeartbeats 4000000 in
theorem l_look {g : zg_G} {k : zk_T} {Q : Option Value → zs_S → Prop} (C : zk_ok g mX9_lookFrom k) (hr : zk_ret g mX9_lookFrom Q k) (n : Int) (hg : (g.2.2.2 : Int) = n) (f : Int) (σ0 : zs_S) (hS : ks_s σ0 n) (hf0 : 0 ≤ f ∧ f ≤ n) (hQ : ∀ τ, zf_x σ0 τ [5, 6] → ks_l τ n f → Q none τ) : ∀ (N : Nat) (σ : zs_S) (p t r : Int), (n + 1 - p).toNat < N → (f ≤ p ∧ p ≤ n + 1) → (t = lo_t (σ0 3) f (p - f).toNat) → (r = hi_t (σ0 4) f (p - f).toNat) → (zf_x σ0 σ [5, 6]) → (∀ j, 0 ≤ j → j < p - f → σ 5 j = lo_t (σ0 3) f (j + 1).toNat ∧ σ 6 j = hi_t (σ0 4) f (j + 1).toNat) → zw_W g mX9_lookFrom k 9 [(0, .ref (g.2.2.1 2)), (1, zv_i f), (2, zv_i t), (3, zv_i r), (4, zv_i p)] [] σ := by
  intro N
  induction N with
  | zero =>
    intro σ p t r hN
    exact absurd hN (by omega)
  | succ N ih =>
    intro σ p t r hN hp ht hr2 hf hA
    obtain ⟨hn1, hn2, hlast, hd, hgd⟩ := id hS
    have e1 : σ 2 0 = n := (hf 2 (by decide) 0).trans hlast
    refine zr_iload (pc := 9) C dX9_lookFrom_9 4 rfl ?_
    refine zr_aload_n (pc := 11) C dX9_lookFrom_11 0 rfl ?_
    refine zr_get (v := zv_i (σ 2 0)) (pc := 12) C 0 none dX9_lookFrom_12 fX9_9 (by decide) (hs_2 _) rfl rfl ?_
    refine zr_icmp_gt (pc := 15) C 68 dX9_lookFrom_15 (by decide) (by omega) (by omega) (fun h_1 => ?_) (fun h_1 => ?_)
    · exact zr_vret (pc := 68) C hr dX9_lookFrom_68 rfl (hQ σ hf (fun j h1 h2 => by
          rw [show σ 3 = σ0 3 from funext (hf 3 (by decide)), show σ 4 = σ0 4 from funext (hf 4 (by decide))]
          exact hA j h1 (by omega)))
    · have e3 : σ 3 p = σ0 3 p := hf 3 (by decide) p
      have e4 : σ 4 p = σ0 4 p := hf 4 (by decide) p
      have d3 := hd p (by omega) (by omega)
      have d4 := hgd p (by omega) (by omega)
      have b3 := lo_b (a := f) (b := n) (fun q h1 h2 => hd q (by omega) h2) (p - f).toNat (by omega)
      have b4 := hi_b (a := f) (b := n) (fun q h1 h2 => hgd q (by omega) h2) (p - f).toNat (by omega)
      rw [← ht] at b3
      rw [← hr2] at b4
      have ht2 : min t (σ 3 p) = lo_t (σ0 3) f (p + 1 - f).toNat := by rw [lo_s hp.1, ← ht, e3]
      have hr3 : max r (σ 4 p) = hi_t (σ0 4) f (p + 1 - f).toNat := by rw [hi_s hp.1, ← hr2, e4]
      refine zr_iload_n (pc := 18) C dX9_lookFrom_18 2 rfl ?_
      refine zr_aload_n (pc := 19) C dX9_lookFrom_19 0 rfl ?_
      refine zr_get (v := .ref (g.2.2.1 3)) (pc := 20) C 1 (some (some 3)) dX9_lookFrom_20 fX9_15 (by decide) (hs_2 _) rfl rfl ?_
      refine zr_iload (pc := 23) C dX9_lookFrom_23 4 rfl ?_
      refine zr_iaload (pc := 25) C dX9_lookFrom_25 (by decide) (hs_3 _) (by omega) (by omega) ?_
      refine zr_min (pc := 26) C dX9_lookFrom_26 xX9_37 (by decide) (Nat.le_of_ble_eq_true rfl) (by omega) (by omega) ?_
      refine zr_istore_n (L' := [(2, zv_i (min t (σ 3 p))), (0, .ref (g.2.2.1 2)), (1, zv_i f), (3, zv_i r), (4, zv_i p)]) (pc := 29) C dX9_lookFrom_29 (by decide) rfl ?_
      refine zr_iload_n (pc := 30) C dX9_lookFrom_30 3 rfl ?_
      refine zr_aload_n (pc := 31) C dX9_lookFrom_31 1 rfl ?_
      refine zr_get (v := .ref (g.2.2.1 4)) (pc := 32) C 2 (some (some 4)) dX9_lookFrom_32 fX9_19 (by decide) (hs_2 _) rfl rfl ?_
      refine zr_iload (pc := 35) C dX9_lookFrom_35 4 rfl ?_
      refine zr_iaload (pc := 37) C dX9_lookFrom_37 (by decide) (hs_4 _) (by omega) (by omega) ?_
      refine zr_max (pc := 38) C dX9_lookFrom_38 xX9_31 (by decide) (Nat.le_of_ble_eq_true rfl) (by omega) (by omega) ?_
      refine zr_istore_n (L' := [(3, zv_i (max r (σ 4 p))), (2, zv_i (min t (σ 3 p))), (0, .ref (g.2.2.1 2)), (1, zv_i f), (4, zv_i p)]) (pc := 41) C dX9_lookFrom_41 (by decide) rfl ?_
      refine zr_aload_n (pc := 42) C dX9_lookFrom_42 2 rfl ?_
      refine zr_get (v := .ref (g.2.2.1 5)) (pc := 43) C 4 (some (some 5)) dX9_lookFrom_43 fX9_22 (by decide) (hs_2 _) rfl rfl ?_
      refine zr_iload (pc := 46) C dX9_lookFrom_46 4 rfl ?_
      refine zr_iload_n (pc := 48) C dX9_lookFrom_48 3 rfl ?_
      refine zr_isub (pc := 49) C dX9_lookFrom_49 ?_
      refine zr_iload_n (pc := 50) C dX9_lookFrom_50 1 rfl ?_
      refine zr_iastore (pc := 51) C dX9_lookFrom_51 (by decide) (hs_5 _) (by omega) (by omega) (fun τ_2 e_3 => ?_)
      refine zr_aload_n (pc := 52) C dX9_lookFrom_52 2 rfl ?_
      refine zr_get (v := .ref (g.2.2.1 6)) (pc := 53) C 5 (some (some 6)) dX9_lookFrom_53 fX9_25 (by decide) (hs_2 _) rfl rfl ?_
      refine zr_iload (pc := 56) C dX9_lookFrom_56 4 rfl ?_
      refine zr_iload_n (pc := 58) C dX9_lookFrom_58 3 rfl ?_
      refine zr_isub (pc := 59) C dX9_lookFrom_59 ?_
      refine zr_iload_n (pc := 60) C dX9_lookFrom_60 0 rfl ?_
      refine zr_iastore (pc := 61) C dX9_lookFrom_61 (by decide) (hs_6 _) (by omega) (by omega) (fun τ_4 e_5 => ?_)
      refine zr_iinc (L' := [(4, zv_i (p + 1)), (3, zv_i (max r (σ 4 p))), (2, zv_i (min t (σ 3 p))), (0, .ref (g.2.2.1 2)), (1, zv_i f)]) (pc := 62) C dX9_lookFrom_62 4 rfl (by decide) rfl ?_
      refine zr_goto (pc := 65) C 9 dX9_lookFrom_65 (by decide) ?_
      refine zr_sub [3, 4, 2, 1, 0] rfl ?_
      exact ih τ_4 (p + 1) (min t (σ 3 p)) (max r (σ 4 p)) (by omega) (by omega) ht2 hr3 (zf_p (zf_p hf e_3 (by decide)) e_5 (by decide)) (fun j h1 h2 => by
        have ea : τ_4 5 j = if j = p - f then min t (σ 3 p) else σ 5 j := by rw [e_5, zs_put_ne (by decide), e_3, zs_put_at]
        have eb : τ_4 6 j = if j = p - f then max r (σ 4 p) else σ 6 j := by rw [e_5, zs_put_at, e_3, zs_put_ne (by decide)]
        by_cases hj : j = p - f
        · rw [ea, eb, if_pos hj, if_pos hj, show (j + 1).toNat = (p + 1 - f).toNat by omega]
          exact ⟨ht2, hr3⟩
        · rw [ea, eb, if_neg hj, if_neg hj]
          exact hA j h1 (by omega))

set_option maxRecDepth 20000 in
set_option maxHeartbeats 4000000 in
theorem m_look (g : zg_G) (σ : zs_S) (n : Int) (hg : (g.2.2.2 : Int) = n) (f : Int) (hS : ks_s σ n) (hf0 : 0 ≤ f ∧ f ≤ n) : zm_Met g mX9_lookFrom σ [.ref (g.2.2.1 2), zv_i f] (fun v τ => v = none ∧ zf_x σ τ [5, 6] ∧ ks_l τ n f) := by
  refine zm_of (by decide +kernel) (Nat.le_of_ble_eq_true rfl) ?_
  intro k C hr
  show zw_W g mX9_lookFrom k 0 [(0, .ref (g.2.2.1 2)), (1, zv_i f)] [] σ
  refine zr_sipush (pc := 0) C dX9_lookFrom_0 (by decide) ?_
  refine zr_istore_n (L' := [(2, zv_i 900), (0, .ref (g.2.2.1 2)), (1, zv_i f)]) (pc := 3) C dX9_lookFrom_3 (by decide) rfl ?_
  refine zr_iconst (pc := 4) C dX9_lookFrom_4 ?_
  refine zr_istore_n (L' := [(3, zv_i 1), (2, zv_i 900), (0, .ref (g.2.2.1 2)), (1, zv_i f)]) (pc := 5) C dX9_lookFrom_5 (by decide) rfl ?_
  refine zr_iload_n (pc := 6) C dX9_lookFrom_6 3 rfl ?_
  refine zr_istore (L' := [(4, zv_i f), (3, zv_i 1), (2, zv_i 900), (0, .ref (g.2.2.1 2)), (1, zv_i f)]) (pc := 7) C dX9_lookFrom_7 (by decide) rfl ?_
  refine zr_sub [3, 4, 2, 1, 0] rfl ?_
  exact l_look C hr n hg f σ hS hf0 (fun τ h1 h2 => ⟨rfl, h1, h2⟩) ((n + 1 - f).toNat + 1) σ f 900 1 (by omega) (by omega) lo_0.symm hi_0.symm (zf_r σ [5, 6]) (fun j h1 h2 => absurd h2 (by omega))

set_option maxRecDepth 20000 in
set_option maxHeartbeats 4000000 in
theorem l_spoil {g : zg_G} {k : zk_T} {Q : Option Value → zs_S → Prop} (C : zk_ok g mX9_spoil k) (hr : zk_ret g mX9_spoil Q k) (n : Int) (hg : (g.2.2.2 : Int) = n) (a b c : Int) (σ0 : zs_S) (hn : 1 ≤ n ∧ n ≤ 80) (hd : ∀ p, 0 ≤ p → p ≤ n → 1 ≤ σ0 4 p ∧ σ0 4 p ≤ 3) (hab : 0 ≤ a ∧ a ≤ b ∧ b ≤ n) (hc : 2 ≤ c ∧ c ≤ 3) (hQ : ∀ τ, zf_x σ0 τ [4] → (∀ p, τ 4 p = if a ≤ p ∧ p ≤ b then max (σ0 4 p) c else σ0 4 p) → Q (some (zv_i 1)) τ) : ∀ (N : Nat) (σ : zs_S) (p : Int), (b + 1 - p).toNat < N → (a ≤ p ∧ p ≤ b + 1) → (zf_x σ0 σ [4]) → (∀ x, σ 4 x = if a ≤ x ∧ x < p then max (σ0 4 x) c else σ0 4 x) → zw_W g mX9_spoil k 24 [(0, .ref (g.2.2.1 2)), (1, zv_i a), (2, zv_i b), (3, zv_i c), (4, zv_i p)] [] σ := by
  intro N
  induction N with
  | zero =>
    intro σ p hN
    exact absurd hN (by omega)
  | succ N ih =>
    intro σ p hN hp hf hA
    refine zr_iload (pc := 24) C dX9_spoil_24 4 rfl ?_
    refine zr_iload_n (pc := 26) C dX9_spoil_26 2 rfl ?_
    refine zr_icmp_gt (pc := 27) C 54 dX9_spoil_27 (by decide) (by omega) (by omega) (fun h_1 => ?_) (fun h_1 => ?_)
    · refine zr_iconst (pc := 54) C dX9_spoil_54 ?_
      exact zr_zret (pc := 55) C hr dX9_spoil_55 rfl (by decide) (hQ σ hf (fun x => by
          rw [hA x]
          by_cases h9 : a ≤ x ∧ x ≤ b
          · rw [if_pos h9, if_pos (by omega)]
          · rw [if_neg h9, if_neg (by omega)]))
    · have d3 := hd p (by omega) (by omega)
      have e4 : σ 4 p = σ0 4 p := by rw [hA p, if_neg (by omega)]
      refine zr_aload_n (pc := 30) C dX9_spoil_30 0 rfl ?_
      refine zr_get (v := .ref (g.2.2.1 4)) (pc := 31) C 2 (some (some 4)) dX9_spoil_31 fX9_19 (by decide) (hs_2 _) rfl rfl ?_
      refine zr_iload (pc := 34) C dX9_spoil_34 4 rfl ?_
      refine zr_aload_n (pc := 36) C dX9_spoil_36 0 rfl ?_
      refine zr_get (v := .ref (g.2.2.1 4)) (pc := 37) C 2 (some (some 4)) dX9_spoil_37 fX9_19 (by decide) (hs_2 _) rfl rfl ?_
      refine zr_iload (pc := 40) C dX9_spoil_40 4 rfl ?_
      refine zr_iaload (pc := 42) C dX9_spoil_42 (by decide) (hs_4 _) (by omega) (by omega) ?_
      refine zr_iload_n (pc := 43) C dX9_spoil_43 3 rfl ?_
      refine zr_max (pc := 44) C dX9_spoil_44 xX9_31 (by decide) (Nat.le_of_ble_eq_true rfl) (by omega) (by omega) ?_
      refine zr_iastore (pc := 47) C dX9_spoil_47 (by decide) (hs_4 _) (by omega) (by omega) (fun τ_2 e_3 => ?_)
      refine zr_iinc (L' := [(4, zv_i (p + 1)), (0, .ref (g.2.2.1 2)), (1, zv_i a), (2, zv_i b), (3, zv_i c)]) (pc := 48) C dX9_spoil_48 4 rfl (by decide) rfl ?_
      refine zr_goto (pc := 51) C 24 dX9_spoil_51 (by decide) ?_
      refine zr_sub [1, 2, 3, 4, 0] rfl ?_
      exact ih τ_2 (p + 1) (by omega) (by omega) (zf_p hf e_3 (by decide)) (fun x => by
        rw [e_3, zs_put_at]
        by_cases hx : x = p
        · subst hx
          rw [if_pos rfl, if_pos (by omega), e4]
        · rw [if_neg hx, hA x]
          by_cases h9 : a ≤ x ∧ x < p
          · rw [if_pos h9, if_pos (by omega)]
          · rw [if_neg h9, if_neg (by omega)])

set_option maxRecDepth 20000 in
set_option maxHeartbeats 4000000 in
theorem m_spoil (g : zg_G) (σ : zs_S) (n : Int) (hg : (g.2.2.2 : Int) = n) (a b c : Int) (hS : ks_s σ n) (hab : 0 ≤ a ∧ a ≤ b ∧ b ≤ n) (hc : 2 ≤ c ∧ c ≤ 3) (h20 : 0 ≤ σ 2 3 ∧ σ 2 3 ≤ 20) : zm_Met g mX9_spoil σ [.ref (g.2.2.1 2), zv_i a, zv_i b, zv_i c] (fun v τ => v = some (zv_i (zi_b (σ 2 3 < 20))) ∧ (20 ≤ σ 2 3 → σ = τ) ∧ (σ 2 3 < 20 → τ 2 3 = σ 2 3 + 1 ∧ τ 2 0 = σ 2 0 ∧ (∀ p, τ 4 p = if a ≤ p ∧ p ≤ b then max (σ 4 p) c else σ 4 p) ∧ zf_x σ τ [2, 4])) := by
  refine zm_of (by decide +kernel) (Nat.le_of_ble_eq_true rfl) ?_
  intro k C hr
  show zw_W g mX9_spoil k 0 [(0, .ref (g.2.2.1 2)), (1, zv_i a), (2, zv_i b), (3, zv_i c)] [] σ
  obtain ⟨hn1, hn2, hlast, hd, hgd⟩ := id hS
  refine zr_aload_n (pc := 0) C dX9_spoil_0 0 rfl ?_
  refine zr_get (v := zv_i (σ 2 3)) (pc := 1) C 3 none dX9_spoil_1 fX9_28 (by decide) (hs_2 _) rfl rfl ?_
  refine zr_bipush (pc := 4) C dX9_spoil_4 (by decide) ?_
  refine zr_icmp_lt (pc := 6) C 11 dX9_spoil_6 (by decide) (by omega) (by omega) (fun h_1 => ?_) (fun h_1 => ?_)
  · refine zr_aload_n (pc := 11) C dX9_spoil_11 0 rfl ?_
    refine zr_dup (pc := 12) C dX9_spoil_12 rfl ?_
    refine zr_get (v := zv_i (σ 2 3)) (pc := 13) C 3 none dX9_spoil_13 fX9_28 (by decide) (hs_2 _) rfl rfl ?_
    refine zr_iconst (pc := 16) C dX9_spoil_16 ?_
    refine zr_iadd (pc := 17) C dX9_spoil_17 ?_
    refine zr_put (pc := 18) C 3 3 rfl dX9_spoil_18 pX9_28 (by decide) (hs_2 _) rfl (fun τ_2 e_3 => ?_)
    refine zr_iload_n (pc := 21) C dX9_spoil_21 1 rfl ?_
    refine zr_istore (L' := [(4, zv_i a), (0, .ref (g.2.2.1 2)), (1, zv_i a), (2, zv_i b), (3, zv_i c)]) (pc := 22) C dX9_spoil_22 (by decide) rfl ?_
    refine zr_sub [1, 2, 3, 4, 0] rfl ?_
    exact l_spoil C hr n hg a b c τ_2 (by omega) (fun p h1 h2 => by rw [e_3, zs_put_ne (by decide)]; exact hgd p h1 h2) hab hc (fun τ h1 h2 => ⟨zq_1 (by omega), fun h => absurd h (by omega), fun _ => ⟨by rw [h1 2 (by decide), e_3, zs_put_self], by rw [h1 2 (by decide), e_3, zs_put_off (by decide)], fun p => by rw [h2 p, e_3, zs_put_ne (by decide)], zf_t (zf_p (zf_r σ [2]) e_3 (by decide)) h1 (by simp) (by simp)⟩⟩) ((b + 1 - a).toNat + 1) τ_2 a (by omega) (by omega) (zf_r τ_2 [4]) (fun x => by rw [if_neg (by omega)])
  · refine zr_iconst (pc := 9) C dX9_spoil_9 ?_
    exact zr_zret (pc := 10) C hr dX9_spoil_10 rfl (by decide) (⟨zq_0 (by omega), fun _ => rfl, fun h => absurd h (by omega)⟩)

set_option maxRecDepth 20000 in
set_option maxHeartbeats 4000000 in
theorem m_clear (g : zg_G) (σ : zs_S) (q : Nat) (hq : zs_q q) : zm_Met g mX3_clear σ [.ref (g.2.2.1 (q))] (fun v τ => v = none ∧ τ q 0 = 0 ∧ τ q 1 = 0 ∧ zf_x σ τ [q]) := by
  refine zm_of (by decide +kernel) (Nat.le_of_ble_eq_true rfl) ?_
  intro k C hr
  show zw_W g mX3_clear k 0 [(0, .ref (g.2.2.1 (q)))] [] σ
  refine zr_aload_n (pc := 0) C dX3_clear_0 0 rfl ?_
  refine zr_iconst (pc := 1) C dX3_clear_1 ?_
  refine zr_put (pc := 2) C 0 0 rfl dX3_clear_2 pX3_15 (hn_cut hq) (hs_cut hq) rfl (fun τ_1 e_2 => ?_)
  refine zr_aload_n (pc := 5) C dX3_clear_5 0 rfl ?_
  refine zr_iconst (pc := 6) C dX3_clear_6 ?_
  refine zr_put (pc := 7) C 1 1 rfl dX3_clear_7 pX3_19 (hn_cut hq) (hs_cut hq) rfl (fun τ_3 e_4 => ?_)
  exact zr_vret (pc := 10) C hr dX3_clear_10 rfl (⟨rfl, by rw [e_4, zs_put_off (by decide), e_2, zs_put_self], by rw [e_4, zs_put_self], zf_p (zf_p (zf_r σ [q]) e_2 (by simp)) e_4 (by simp)⟩)

set_option maxRecDepth 20000 in
set_option maxHeartbeats 4000000 in
theorem m_add (g : zg_G) (σ : zs_S) (q : Nat) (hq : zs_q q) (c a b t r x : Int) (hc : σ q 0 = c) (hcc : 0 ≤ c ∧ c < 40) (ht : 0 ≤ t ∧ t ≤ 900) : zm_Met g mX3_add σ [.ref (g.2.2.1 (q)), zv_i a, zv_i b, zv_i t, zv_i r, zv_i x] (fun v τ => v = none ∧ τ q 0 = c + 1 ∧ τ q 1 = σ q 1 + x ∧ (∀ i, i < c * 6 → τ (q + 1) i = σ (q + 1) i) ∧ τ (q + 1) (c * 6 + 0) = a ∧ τ (q + 1) (c * 6 + 1) = b ∧ τ (q + 1) (c * 6 + 2) = t ∧ τ (q + 1) (c * 6 + 3) = t / 50 ∧ τ (q + 1) (c * 6 + 4) = r ∧ τ (q + 1) (c * 6 + 5) = x ∧ zf_x σ τ [q, q + 1]) := by
  refine zm_of (by decide +kernel) (Nat.le_of_ble_eq_true rfl) ?_
  intro k C hr
  show zw_W g mX3_add k 0 [(0, .ref (g.2.2.1 (q))), (1, zv_i a), (2, zv_i b), (3, zv_i t), (4, zv_i r), (5, zv_i x)] [] σ
  subst hc
  refine zr_aload_n (pc := 0) C dX3_add_0 0 rfl ?_
  refine zr_get (v := zv_i (σ q 0)) (pc := 1) C 0 none dX3_add_1 fX3_15 (hn_cut hq) (hs_cut hq) rfl rfl ?_
  refine zr_bipush (pc := 4) C dX3_add_4 (by decide) ?_
  refine zr_icmp_lt (pc := 6) C 10 dX3_add_6 (by decide) (by omega) (by omega) (fun h_1 => ?_) (fun h_1 => ?_)
  · refine zr_aload_n (pc := 10) C dX3_add_10 0 rfl ?_
    refine zr_get (v := zv_i (σ q 0)) (pc := 11) C 0 none dX3_add_11 fX3_15 (hn_cut hq) (hs_cut hq) rfl rfl ?_
    refine zr_bipush (pc := 14) C dX3_add_14 (by decide) ?_
    refine zr_imul (pc := 16) C dX3_add_16 ?_
    refine zr_istore (L' := [(6, zv_i ((σ q 0) * 6)), (0, .ref (g.2.2.1 (q))), (1, zv_i a), (2, zv_i b), (3, zv_i t), (4, zv_i r), (5, zv_i x)]) (pc := 17) C dX3_add_17 (by decide) rfl ?_
    refine zr_aload_n (pc := 19) C dX3_add_19 1 rfl ?_
    refine zr_get (v := .ref (g.2.2.1 (q + 1))) (pc := 20) C 2 (some (some (q + 1))) dX3_add_20 fX3_9 (hn_cut hq) (hs_cut hq) rfl rfl ?_
    refine zr_iload (pc := 23) C dX3_add_23 0 rfl ?_
    refine zr_iconst (pc := 25) C dX3_add_25 ?_
    refine zr_iadd (pc := 26) C dX3_add_26 ?_
    refine zr_iload_n (pc := 27) C dX3_add_27 2 rfl ?_
    refine zr_iastore (pc := 28) C dX3_add_28 (hn_cutF hq) (hs_cutF hq) (by omega) (by decide) (fun τ_2 e_3 => ?_)
    refine zr_aload_n (pc := 29) C dX3_add_29 1 rfl ?_
    refine zr_get (v := .ref (g.2.2.1 (q + 1))) (pc := 30) C 2 (some (some (q + 1))) dX3_add_30 fX3_9 (hn_cut hq) (hs_cut hq) rfl rfl ?_
    refine zr_iload (pc := 33) C dX3_add_33 0 rfl ?_
    refine zr_iconst (pc := 35) C dX3_add_35 ?_
    refine zr_iadd (pc := 36) C dX3_add_36 ?_
    refine zr_iload_n (pc := 37) C dX3_add_37 3 rfl ?_
    refine zr_iastore (pc := 38) C dX3_add_38 (hn_cutF hq) (hs_cutF hq) (by omega) (by decide) (fun τ_4 e_5 => ?_)
    refine zr_aload_n (pc := 39) C dX3_add_39 1 rfl ?_
    refine zr_get (v := .ref (g.2.2.1 (q + 1))) (pc := 40) C 2 (some (some (q + 1))) dX3_add_40 fX3_9 (hn_cut hq) (hs_cut hq) rfl rfl ?_
    refine zr_iload (pc := 43) C dX3_add_43 0 rfl ?_
    refine zr_iconst (pc := 45) C dX3_add_45 ?_
    refine zr_iadd (pc := 46) C dX3_add_46 ?_
    refine zr_iload_n (pc := 47) C dX3_add_47 4 rfl ?_
    refine zr_iastore (pc := 48) C dX3_add_48 (hn_cutF hq) (hs_cutF hq) (by omega) (by decide) (fun τ_6 e_7 => ?_)
    refine zr_aload_n (pc := 49) C dX3_add_49 1 rfl ?_
    refine zr_get (v := .ref (g.2.2.1 (q + 1))) (pc := 50) C 2 (some (some (q + 1))) dX3_add_50 fX3_9 (hn_cut hq) (hs_cut hq) rfl rfl ?_
    refine zr_iload (pc := 53) C dX3_add_53 0 rfl ?_
    refine zr_iconst (pc := 55) C dX3_add_55 ?_
    refine zr_iadd (pc := 56) C dX3_add_56 ?_
    refine zr_iload_n (pc := 57) C dX3_add_57 4 rfl ?_
    refine zr_bipush (pc := 58) C dX3_add_58 (by decide) ?_
    refine zr_idiv (pc := 60) C dX3_add_60 (by omega) (by omega) (by omega) (by omega) ?_
    refine zr_iastore (pc := 61) C dX3_add_61 (hn_cutF hq) (hs_cutF hq) (by omega) (by decide) (fun τ_8 e_9 => ?_)
    refine zr_aload_n (pc := 62) C dX3_add_62 1 rfl ?_
    refine zr_get (v := .ref (g.2.2.1 (q + 1))) (pc := 63) C 2 (some (some (q + 1))) dX3_add_63 fX3_9 (hn_cut hq) (hs_cut hq) rfl rfl ?_
    refine zr_iload (pc := 66) C dX3_add_66 0 rfl ?_
    refine zr_iconst (pc := 68) C dX3_add_68 ?_
    refine zr_iadd (pc := 69) C dX3_add_69 ?_
    refine zr_iload (pc := 70) C dX3_add_70 5 rfl ?_
    refine zr_iastore (pc := 72) C dX3_add_72 (hn_cutF hq) (hs_cutF hq) (by omega) (by decide) (fun τ_10 e_11 => ?_)
    refine zr_aload_n (pc := 73) C dX3_add_73 1 rfl ?_
    refine zr_get (v := .ref (g.2.2.1 (q + 1))) (pc := 74) C 2 (some (some (q + 1))) dX3_add_74 fX3_9 (hn_cut hq) (hs_cut hq) rfl rfl ?_
    refine zr_iload (pc := 77) C dX3_add_77 0 rfl ?_
    refine zr_iconst (pc := 79) C dX3_add_79 ?_
    refine zr_iadd (pc := 80) C dX3_add_80 ?_
    refine zr_iload (pc := 81) C dX3_add_81 6 rfl ?_
    refine zr_iastore (pc := 83) C dX3_add_83 (hn_cutF hq) (hs_cutF hq) (by omega) (by decide) (fun τ_12 e_13 => ?_)
    refine zr_aload_n (pc := 84) C dX3_add_84 1 rfl ?_
    have hv6 : τ_12 q 0 = σ q 0 := by rw [e_13, zs_put_ne (by omega), e_11, zs_put_ne (by omega), e_9, zs_put_ne (by omega), e_7, zs_put_ne (by omega), e_5, zs_put_ne (by omega), e_3, zs_put_ne (by omega)]
    refine zr_dup (pc := 85) C dX3_add_85 rfl ?_
    refine zr_get (v := zv_i (τ_12 q 0)) (pc := 86) C 0 none dX3_add_86 fX3_15 (hn_cut hq) (hs_cut hq) rfl rfl ?_
    refine zr_iconst (pc := 89) C dX3_add_89 ?_
    refine zr_iadd (pc := 90) C dX3_add_90 ?_
    refine zr_put (pc := 91) C 0 0 rfl dX3_add_91 pX3_15 (hn_cut hq) (hs_cut hq) rfl (fun τ_14 e_15 => ?_)
    refine zr_aload_n (pc := 94) C dX3_add_94 1 rfl ?_
    have hv7 : τ_14 q 1 = σ q 1 := by rw [e_15, zs_put_off (by decide), e_13, zs_put_ne (by omega), e_11, zs_put_ne (by omega), e_9, zs_put_ne (by omega), e_7, zs_put_ne (by omega), e_5, zs_put_ne (by omega), e_3, zs_put_ne (by omega)]
    refine zr_dup (pc := 95) C dX3_add_95 rfl ?_
    refine zr_get (v := zv_i (τ_14 q 1)) (pc := 96) C 1 none dX3_add_96 fX3_19 (hn_cut hq) (hs_cut hq) rfl rfl ?_
    refine zr_iload (pc := 99) C dX3_add_99 6 rfl ?_
    refine zr_iadd (pc := 101) C dX3_add_101 ?_
    refine zr_put (pc := 102) C 1 1 rfl dX3_add_102 pX3_19 (hn_cut hq) (hs_cut hq) rfl (fun τ_16 e_17 => ?_)
    exact zr_vret (pc := 105) C hr dX3_add_105 rfl (⟨rfl, by rw [e_17, zs_put_off (by omega), e_15, zs_put_self, hv6], by rw [e_17, zs_put_self, hv7], fun i hi => by rw [e_17, zs_put_ne (by omega), e_15, zs_put_ne (by omega), e_13, zs_put_off (by omega), e_11, zs_put_off (by omega), e_9, zs_put_off (by omega), e_7, zs_put_off (by omega), e_5, zs_put_off (by omega), e_3, zs_put_off (by omega)], by rw [e_17, zs_put_ne (by omega), e_15, zs_put_ne (by omega), e_13, zs_put_off (by omega), e_11, zs_put_off (by omega), e_9, zs_put_off (by omega), e_7, zs_put_off (by omega), e_5, zs_put_off (by omega), e_3, zs_put_self], by rw [e_17, zs_put_ne (by omega), e_15, zs_put_ne (by omega), e_13, zs_put_off (by omega), e_11, zs_put_off (by omega), e_9, zs_put_off (by omega), e_7, zs_put_off (by omega), e_5, zs_put_self], by rw [e_17, zs_put_ne (by omega), e_15, zs_put_ne (by omega), e_13, zs_put_off (by omega), e_11, zs_put_off (by omega), e_9, zs_put_off (by omega), e_7, zs_put_self], by rw [e_17, zs_put_ne (by omega), e_15, zs_put_ne (by omega), e_13, zs_put_off (by omega), e_11, zs_put_off (by omega), e_9, zs_put_self], by rw [e_17, zs_put_ne (by omega), e_15, zs_put_ne (by omega), e_13, zs_put_off (by omega), e_11, zs_put_self], by rw [e_17, zs_put_ne (by omega), e_15, zs_put_ne (by omega), e_13, zs_put_self], (zf_p (zf_p (zf_p (zf_p (zf_p (zf_p (zf_p (zf_p (zf_r σ [q, q + 1]) e_3 (by simp)) e_5 (by simp)) e_7 (by simp)) e_9 (by simp)) e_11 (by simp)) e_13 (by simp)) e_15 (by simp)) e_17 (by simp))⟩)
  · exact zr_vret (pc := 9) C hr dX3_add_9 rfl (absurd hcc (by omega))

set_option maxRecDepth 20000 in
set_option maxHeartbeats 4000000 in
theorem m_fact (g : zg_G) (σ : zs_S) (q : Nat) (hq : zs_q q) (a b : Int) (h : 0 ≤ a * 6 + b ∧ a * 6 + b < 240) : zm_Met g mX3_fact σ [.ref (g.2.2.1 (q)), zv_i a, zv_i b] (fun v τ => v = some (zv_i (σ (q + 1) (a * 6 + b))) ∧ σ = τ) := by
  refine zm_of (by decide +kernel) (Nat.le_of_ble_eq_true rfl) ?_
  intro k C hr
  show zw_W g mX3_fact k 0 [(0, .ref (g.2.2.1 (q))), (1, zv_i a), (2, zv_i b)] [] σ
  refine zr_aload_n (pc := 0) C dX3_fact_0 0 rfl ?_
  refine zr_get (v := .ref (g.2.2.1 (q + 1))) (pc := 1) C 2 (some (some (q + 1))) dX3_fact_1 fX3_9 (hn_cut hq) (hs_cut hq) rfl rfl ?_
  refine zr_iload_n (pc := 4) C dX3_fact_4 1 rfl ?_
  refine zr_bipush (pc := 5) C dX3_fact_5 (by decide) ?_
  refine zr_imul (pc := 7) C dX3_fact_7 ?_
  refine zr_iload_n (pc := 8) C dX3_fact_8 2 rfl ?_
  refine zr_iadd (pc := 9) C dX3_fact_9 ?_
  refine zr_iaload (pc := 10) C dX3_fact_10 (hn_cutF hq) (hs_cutF hq) (by omega) (by decide) ?_
  exact zr_iret (pc := 11) C hr dX3_fact_11 rfl (⟨rfl, rfl⟩)
