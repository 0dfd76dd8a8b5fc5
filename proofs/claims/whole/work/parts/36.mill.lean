/-- where c holds b, else a (kept from omega's eyes) -/
def zy_i (c a b : Prop) : Prop := (¬ c → a) ∧ (c → b)
theorem zy_n {c a b : Prop} (hc : ¬ c) (h : a) : zy_i c a b := ⟨fun _ => h, fun z => absurd z hc⟩
theorem zy_y {c a b : Prop} (hc : c) (h : b) : zy_i c a b := ⟨fun z => absurd hc z, fun _ => h⟩

set_option maxRecDepth 20000 in
set_option maxHeartbeats 4000000 in
theorem s_diameter (g : zg_G) (σ : zs_S) (a b : Int) (har : zi_r a) (hbr : zi_r b) (n : Int) (hg : (g.2.2.2 : Int) = n) (hS : ks_s σ n) : zm_Met g mX10_diameter σ [.ref (g.2.2.1 0), zv_i a, zv_i b] (fun v τ => v = some (zv_i (zi_b ((0 ≤ a ∧ a ≤ n) ∧ 50 ≤ b ∧ b ≤ 900))) ∧ zy_i ((0 ≤ a ∧ a ≤ n) ∧ 50 ≤ b ∧ b ≤ 900) (σ = τ) (τ = zs_put σ 3 a b)) := by
  refine zm_of (by decide +kernel) (Nat.le_of_ble_eq_true rfl) ?_
  intro k C hr
  show zw_W g mX10_diameter k 0 [(0, .ref (g.2.2.1 0)), (1, zv_i a), (2, zv_i b)] [] σ
  obtain ⟨hn1, hn2, hlast, hd, hgd⟩ := id hS
  refine zr_iload_n (pc := 0) C dX10_diameter_0 1 rfl ?_
  refine zr_iconst (pc := 1) C dX10_diameter_1 ?_
  refine zr_aload_n (pc := 2) C dX10_diameter_2 0 rfl ?_
  refine zr_get (v := .ref (g.2.2.1 2)) (pc := 3) C 1 (some (some 2)) dX10_diameter_3 fX10_26 (by decide) (hs_0 _) rfl rfl ?_
  refine zr_get (v := zv_i (σ 2 0)) (pc := 6) C 0 none dX10_diameter_6 fX10_49 (by decide) (hs_2 _) rfl rfl ?_
  refine zr_callS (As := [zv_i a, zv_i 0, zv_i (σ 2 0)]) (rest := []) (pc := 9) C dX10_diameter_9 kX10_within sX10_11 rfl (by decide) rfl (Nat.le_of_ble_eq_true rfl) (m_within g σ a 0 (σ 2 0) (by omega) (by omega) (by omega)) (fun v_ τ_ h_ => ?_)
  obtain ⟨rfl, rfl⟩ := h_
  show zw_W g mX10_diameter k 12 [(0, .ref (g.2.2.1 0)), (1, zv_i a), (2, zv_i b)] [zv_i (zi_b (0 ≤ a ∧ a ≤ (σ 2 0)))] σ
  refine zr_if_eq_b (pc := 12) C 27 dX10_diameter_12 (by decide) (fun h_1 => ?_) (fun h_1 => ?_)
  · refine zr_iconst (pc := 27) C dX10_diameter_27 ?_
    exact zr_zret (pc := 28) C hr dX10_diameter_28 rfl (by decide) (⟨zq_0 (by omega), zy_n (by omega) rfl⟩)
  · refine zr_iload_n (pc := 15) C dX10_diameter_15 2 rfl ?_
    refine zr_bipush (pc := 16) C dX10_diameter_16 (by decide) ?_
    refine zr_sipush (pc := 18) C dX10_diameter_18 (by decide) ?_
    refine zr_callS (As := [zv_i b, zv_i 50, zv_i 900]) (rest := []) (pc := 21) C dX10_diameter_21 kX10_within sX10_11 rfl (by decide) rfl (Nat.le_of_ble_eq_true rfl) (m_within g σ b 50 900 (by omega) (by omega) (by omega)) (fun v_ τ_ h_ => ?_)
    obtain ⟨rfl, rfl⟩ := h_
    show zw_W g mX10_diameter k 24 [(0, .ref (g.2.2.1 0)), (1, zv_i a), (2, zv_i b)] [zv_i (zi_b (50 ≤ b ∧ b ≤ 900))] σ
    refine zr_if_ne_b (pc := 24) C 29 dX10_diameter_24 (by decide) (fun h_2 => ?_) (fun h_2 => ?_)
    · refine zr_aload_n (pc := 29) C dX10_diameter_29 0 rfl ?_
      refine zr_get (v := .ref (g.2.2.1 2)) (pc := 30) C 1 (some (some 2)) dX10_diameter_30 fX10_26 (by decide) (hs_0 _) rfl rfl ?_
      refine zr_get (v := .ref (g.2.2.1 3)) (pc := 33) C 1 (some (some 3)) dX10_diameter_33 fX10_55 (by decide) (hs_2 _) rfl rfl ?_
      refine zr_iload_n (pc := 36) C dX10_diameter_36 1 rfl ?_
      refine zr_iload_n (pc := 37) C dX10_diameter_37 2 rfl ?_
      refine zr_iastore (pc := 38) C dX10_diameter_38 (by decide) (hs_3 _) (by omega) (by omega) (fun τ_3 e_4 => ?_)
      refine zr_iconst (pc := 39) C dX10_diameter_39 ?_
      exact zr_zret (pc := 40) C hr dX10_diameter_40 rfl (by decide) (⟨zq_1 (by omega), zy_y (by omega) (e_4)⟩)
    · refine zr_iconst (pc := 27) C dX10_diameter_27 ?_
      exact zr_zret (pc := 28) C hr dX10_diameter_28 rfl (by decide) (⟨zq_0 (by omega), zy_n (by omega) rfl⟩)

set_option maxRecDepth 20000 in
set_option maxHeartbeats 4000000 in
theorem s_defect (g : zg_G) (σ : zs_S) (a b c : Int) (har : zi_r a) (hbr : zi_r b) (hcr : zi_r c) (n : Int) (hg : (g.2.2.2 : Int) = n) (hS : ks_s σ n) (h20 : 0 ≤ σ 2 3 ∧ σ 2 3 ≤ 20) : zm_Met g mX10_defect σ [.ref (g.2.2.1 0), zv_i a, zv_i b, zv_i c] (fun v τ => v = some (zv_i (zi_b (((0 ≤ b ∧ b ≤ n) ∧ (0 ≤ a ∧ a ≤ b) ∧ (2 ≤ c ∧ c ≤ 3)) ∧ σ 2 3 < 20))) ∧ zy_i (((0 ≤ b ∧ b ≤ n) ∧ (0 ≤ a ∧ a ≤ b) ∧ (2 ≤ c ∧ c ≤ 3)) ∧ σ 2 3 < 20) (σ = τ) (τ 2 3 = σ 2 3 + 1 ∧ τ 2 0 = σ 2 0 ∧ (∀ p, τ 4 p = if a ≤ p ∧ p ≤ b then max (σ 4 p) c else σ 4 p) ∧ zf_x σ τ [2, 4])) := by
  refine zm_of (by decide +kernel) (Nat.le_of_ble_eq_true rfl) ?_
  intro k C hr
  show zw_W g mX10_defect k 0 [(0, .ref (g.2.2.1 0)), (1, zv_i a), (2, zv_i b), (3, zv_i c)] [] σ
  obtain ⟨hn1, hn2, hlast, hd, hgd⟩ := id hS
  refine zr_iload_n (pc := 0) C dX10_defect_0 2 rfl ?_
  refine zr_iconst (pc := 1) C dX10_defect_1 ?_
  refine zr_aload_n (pc := 2) C dX10_defect_2 0 rfl ?_
  refine zr_get (v := .ref (g.2.2.1 2)) (pc := 3) C 1 (some (some 2)) dX10_defect_3 fX10_26 (by decide) (hs_0 _) rfl rfl ?_
  refine zr_get (v := zv_i (σ 2 0)) (pc := 6) C 0 none dX10_defect_6 fX10_49 (by decide) (hs_2 _) rfl rfl ?_
  refine zr_callS (As := [zv_i b, zv_i 0, zv_i (σ 2 0)]) (rest := []) (pc := 9) C dX10_defect_9 kX10_within sX10_11 rfl (by decide) rfl (Nat.le_of_ble_eq_true rfl) (m_within g σ b 0 (σ 2 0) (by omega) (by omega) (by omega)) (fun v_ τ_ h_ => ?_)
  obtain ⟨rfl, rfl⟩ := h_
  show zw_W g mX10_defect k 12 [(0, .ref (g.2.2.1 0)), (1, zv_i a), (2, zv_i b), (3, zv_i c)] [zv_i (zi_b (0 ≤ b ∧ b ≤ (σ 2 0)))] σ
  refine zr_if_eq_b (pc := 12) C 33 dX10_defect_12 (by decide) (fun h_1 => ?_) (fun h_1 => ?_)
  · refine zr_iconst (pc := 33) C dX10_defect_33 ?_
    exact zr_zret (pc := 34) C hr dX10_defect_34 rfl (by decide) (⟨zq_0 (by omega), zy_n (by omega) rfl⟩)
  · refine zr_iload_n (pc := 15) C dX10_defect_15 1 rfl ?_
    refine zr_iconst (pc := 16) C dX10_defect_16 ?_
    refine zr_iload_n (pc := 17) C dX10_defect_17 2 rfl ?_
    refine zr_callS (As := [zv_i a, zv_i 0, zv_i b]) (rest := []) (pc := 18) C dX10_defect_18 kX10_within sX10_11 rfl (by decide) rfl (Nat.le_of_ble_eq_true rfl) (m_within g σ a 0 b (by omega) (by omega) (by omega)) (fun v_ τ_ h_ => ?_)
    obtain ⟨rfl, rfl⟩ := h_
    show zw_W g mX10_defect k 21 [(0, .ref (g.2.2.1 0)), (1, zv_i a), (2, zv_i b), (3, zv_i c)] [zv_i (zi_b (0 ≤ a ∧ a ≤ b))] σ
    refine zr_if_eq_b (pc := 21) C 33 dX10_defect_21 (by decide) (fun h_2 => ?_) (fun h_2 => ?_)
    · refine zr_iconst (pc := 33) C dX10_defect_33 ?_
      exact zr_zret (pc := 34) C hr dX10_defect_34 rfl (by decide) (⟨zq_0 (by omega), zy_n (by omega) rfl⟩)
    · refine zr_iload_n (pc := 24) C dX10_defect_24 3 rfl ?_
      refine zr_iconst (pc := 25) C dX10_defect_25 ?_
      refine zr_iconst (pc := 26) C dX10_defect_26 ?_
      refine zr_callS (As := [zv_i c, zv_i 2, zv_i 3]) (rest := []) (pc := 27) C dX10_defect_27 kX10_within sX10_11 rfl (by decide) rfl (Nat.le_of_ble_eq_true rfl) (m_within g σ c 2 3 (by omega) (by omega) (by omega)) (fun v_ τ_ h_ => ?_)
      obtain ⟨rfl, rfl⟩ := h_
      show zw_W g mX10_defect k 30 [(0, .ref (g.2.2.1 0)), (1, zv_i a), (2, zv_i b), (3, zv_i c)] [zv_i (zi_b (2 ≤ c ∧ c ≤ 3))] σ
      refine zr_if_ne_b (pc := 30) C 35 dX10_defect_30 (by decide) (fun h_3 => ?_) (fun h_3 => ?_)
      · refine zr_aload_n (pc := 35) C dX10_defect_35 0 rfl ?_
        refine zr_get (v := .ref (g.2.2.1 2)) (pc := 36) C 1 (some (some 2)) dX10_defect_36 fX10_26 (by decide) (hs_0 _) rfl rfl ?_
        refine zr_iload_n (pc := 39) C dX10_defect_39 1 rfl ?_
        refine zr_iload_n (pc := 40) C dX10_defect_40 2 rfl ?_
        refine zr_iload_n (pc := 41) C dX10_defect_41 3 rfl ?_
        refine zr_callV (As := [zv_i a, zv_i b, zv_i c]) (rest := []) (b := 2) (pc := 42) C dX10_defect_42 kX9_spoil vX10_59 rfl (by decide) (by decide) (hs_2 _) rfl (Nat.le_of_ble_eq_true rfl) (m_spoil g σ n hg a b c hS (by omega) (by omega) h20) (fun v_ τ_ h_ => ?_)
        obtain ⟨rfl, h_5⟩ := h_
        generalize τ_ = τ_4 at h_5 ⊢
        show zw_W g mX10_defect k 45 [(0, .ref (g.2.2.1 0)), (1, zv_i a), (2, zv_i b), (3, zv_i c)] [zv_i (zi_b (σ 2 3 < 20))] τ_4
        exact zr_zret (pc := 45) C hr dX10_defect_45 rfl (zi_b01 _) (by
                  obtain ⟨y1, y2⟩ := h_5
                  refine ⟨zq_b (by omega), ?_⟩
                  by_cases z : σ 2 3 < 20
                  · exact zy_y (by omega) (y2 z)
                  · exact zy_n (by omega) (y1 (by omega)))
      · refine zr_iconst (pc := 33) C dX10_defect_33 ?_
        exact zr_zret (pc := 34) C hr dX10_defect_34 rfl (by decide) (⟨zq_0 (by omega), zy_n (by omega) rfl⟩)

set_option maxRecDepth 20000 in
set_option maxHeartbeats 4000000 in
theorem s_logKind (g : zg_G) (σ : zs_S) (a b c : Int) (har : zi_r a) (hbr : zi_r b) (hcr : zi_r c)  : zm_Met g mX10_logKind σ [.ref (g.2.2.1 0), zv_i a, zv_i b, zv_i c] (fun v τ => v = some (zv_i (zi_b ((0 ≤ a ∧ a ≤ 5) ∧ (1 ≤ b ∧ b ≤ 60) ∧ (0 ≤ c ∧ c ≤ 900)))) ∧ zy_i ((0 ≤ a ∧ a ≤ 5) ∧ (1 ≤ b ∧ b ≤ 60) ∧ (0 ≤ c ∧ c ≤ 900)) (σ = τ) (τ (8 + 2 * a.toNat) 0 = b ∧ τ (8 + 2 * a.toNat) 1 = c ∧ (∀ i : Int, 0 ≤ i → i < 57 → τ (9 + 2 * a.toNat) i = 0) ∧ zf_x σ τ [8 + 2 * a.toNat, 9 + 2 * a.toNat])) := by
  refine zm_of (by decide +kernel) (Nat.le_of_ble_eq_true rfl) ?_
  intro k C hr
  show zw_W g mX10_logKind k 0 [(0, .ref (g.2.2.1 0)), (1, zv_i a), (2, zv_i b), (3, zv_i c)] [] σ
  refine zr_iload_n (pc := 0) C dX10_logKind_0 1 rfl ?_
  refine zr_iconst (pc := 1) C dX10_logKind_1 ?_
  refine zr_iconst (pc := 2) C dX10_logKind_2 ?_
  refine zr_callS (As := [zv_i a, zv_i 0, zv_i 5]) (rest := []) (pc := 3) C dX10_logKind_3 kX10_within sX10_11 rfl (by decide) rfl (Nat.le_of_ble_eq_true rfl) (m_within g σ a 0 5 (by omega) (by omega) (by omega)) (fun v_ τ_ h_ => ?_)
  obtain ⟨rfl, rfl⟩ := h_
  show zw_W g mX10_logKind k 6 [(0, .ref (g.2.2.1 0)), (1, zv_i a), (2, zv_i b), (3, zv_i c)] [zv_i (zi_b (0 ≤ a ∧ a ≤ 5))] σ
  refine zr_if_eq_b (pc := 6) C 30 dX10_logKind_6 (by decide) (fun h_1 => ?_) (fun h_1 => ?_)
  · refine zr_iconst (pc := 30) C dX10_logKind_30 ?_
    exact zr_zret (pc := 31) C hr dX10_logKind_31 rfl (by decide) (⟨zq_0 (by omega), zy_n (by omega) rfl⟩)
  · refine zr_iload_n (pc := 9) C dX10_logKind_9 2 rfl ?_
    refine zr_iconst (pc := 10) C dX10_logKind_10 ?_
    refine zr_bipush (pc := 11) C dX10_logKind_11 (by decide) ?_
    refine zr_callS (As := [zv_i b, zv_i 1, zv_i 60]) (rest := []) (pc := 13) C dX10_logKind_13 kX10_within sX10_11 rfl (by decide) rfl (Nat.le_of_ble_eq_true rfl) (m_within g σ b 1 60 (by omega) (by omega) (by omega)) (fun v_ τ_ h_ => ?_)
    obtain ⟨rfl, rfl⟩ := h_
    show zw_W g mX10_logKind k 16 [(0, .ref (g.2.2.1 0)), (1, zv_i a), (2, zv_i b), (3, zv_i c)] [zv_i (zi_b (1 ≤ b ∧ b ≤ 60))] σ
    refine zr_if_eq_b (pc := 16) C 30 dX10_logKind_16 (by decide) (fun h_2 => ?_) (fun h_2 => ?_)
    · refine zr_iconst (pc := 30) C dX10_logKind_30 ?_
      exact zr_zret (pc := 31) C hr dX10_logKind_31 rfl (by decide) (⟨zq_0 (by omega), zy_n (by omega) rfl⟩)
    · refine zr_iload_n (pc := 19) C dX10_logKind_19 3 rfl ?_
      refine zr_iconst (pc := 20) C dX10_logKind_20 ?_
      refine zr_sipush (pc := 21) C dX10_logKind_21 (by decide) ?_
      refine zr_callS (As := [zv_i c, zv_i 0, zv_i 900]) (rest := []) (pc := 24) C dX10_logKind_24 kX10_within sX10_11 rfl (by decide) rfl (Nat.le_of_ble_eq_true rfl) (m_within g σ c 0 900 (by omega) (by omega) (by omega)) (fun v_ τ_ h_ => ?_)
      obtain ⟨rfl, rfl⟩ := h_
      show zw_W g mX10_logKind k 27 [(0, .ref (g.2.2.1 0)), (1, zv_i a), (2, zv_i b), (3, zv_i c)] [zv_i (zi_b (0 ≤ c ∧ c ≤ 900))] σ
      refine zr_if_ne_b (pc := 27) C 32 dX10_logKind_27 (by decide) (fun h_3 => ?_) (fun h_3 => ?_)
      · refine zr_aload_n (pc := 32) C dX10_logKind_32 0 rfl ?_
        refine zr_get (v := .ref (g.2.2.1 7)) (pc := 33) C 2 (some (some 7)) dX10_logKind_33 fX10_31 (by decide) (hs_0 _) rfl rfl ?_
        refine zr_iload_n (pc := 36) C dX10_logKind_36 1 rfl ?_
        refine zr_aaload (pc := 37) C dX10_logKind_37 (by decide) (hs_7 _) (by decide) (by omega) (by decide) ?_
        show zw_W g mX10_logKind k 38 [(0, .ref (g.2.2.1 0)), (1, zv_i a), (2, zv_i b), (3, zv_i c)] [.ref (g.2.2.1 (8 + 2 * a.toNat))] σ
        refine zr_iload_n (pc := 38) C dX10_logKind_38 2 rfl ?_
        refine zr_iload_n (pc := 39) C dX10_logKind_39 3 rfl ?_
        refine zr_callV (As := [zv_i b, zv_i c]) (rest := []) (b := 8 + 2 * a.toNat) (pc := 40) C dX10_logKind_40 kX5_become vX10_62 rfl (by decide) (hn_kind (by omega)) (hs_kind (by omega)) rfl (Nat.le_of_ble_eq_true rfl) (m_becomeK g σ a b c (by omega)) (fun v_ τ_ h_ => ?_)
        obtain ⟨rfl, h_5⟩ := h_
        generalize τ_ = τ_4 at h_5 ⊢
        show zw_W g mX10_logKind k 43 [(0, .ref (g.2.2.1 0)), (1, zv_i a), (2, zv_i b), (3, zv_i c)] [] τ_4
        refine zr_iconst (pc := 43) C dX10_logKind_43 ?_
        exact zr_zret (pc := 44) C hr dX10_logKind_44 rfl (by decide) (⟨zq_1 (by omega), zy_y (by omega) (h_5)⟩)
      · refine zr_iconst (pc := 30) C dX10_logKind_30 ?_
        exact zr_zret (pc := 31) C hr dX10_logKind_31 rfl (by decide) (⟨zq_0 (by omega), zy_n (by omega) rfl⟩)

set_option maxRecDepth 20000 in
set_option maxHeartbeats 4000000 in
theorem s_priceOf (g : zg_G) (σ : zs_S) (a b c d : Int) (har : zi_r a) (hbr : zi_r b) (hcr : zi_r c) (hdr : zi_r d) (hK : ks_k σ) : zm_Met g mX10_priceOf σ [.ref (g.2.2.1 0), zv_i a, zv_i b, zv_i c, zv_i d] (fun v τ => v = some (zv_i (zi_b (((0 ≤ a ∧ a ≤ 5) ∧ 0 < σ (8 + 2 * a.toNat) 0 ∧ (0 ≤ b ∧ b ≤ 18)) ∧ (1 ≤ c ∧ c ≤ 3) ∧ (0 ≤ d ∧ d ≤ 1000000)))) ∧ zy_i (((0 ≤ a ∧ a ≤ 5) ∧ 0 < σ (8 + 2 * a.toNat) 0 ∧ (0 ≤ b ∧ b ≤ 18)) ∧ (1 ≤ c ∧ c ≤ 3) ∧ (0 ≤ d ∧ d ≤ 1000000)) (σ = τ) (τ = zs_put σ (9 + 2 * a.toNat) (b * 3 + c - 1) d)) := by
  refine zm_of (by decide +kernel) (Nat.le_of_ble_eq_true rfl) ?_
  intro k C hr
  show zw_W g mX10_priceOf k 0 [(0, .ref (g.2.2.1 0)), (1, zv_i a), (2, zv_i b), (3, zv_i c), (4, zv_i d)] [] σ
  refine zr_iload_n (pc := 0) C dX10_priceOf_0 1 rfl ?_
  refine zr_iconst (pc := 1) C dX10_priceOf_1 ?_
  refine zr_iconst (pc := 2) C dX10_priceOf_2 ?_
  refine zr_callS (As := [zv_i a, zv_i 0, zv_i 5]) (rest := []) (pc := 3) C dX10_priceOf_3 kX10_within sX10_11 rfl (by decide) rfl (Nat.le_of_ble_eq_true rfl) (m_within g σ a 0 5 (by omega) (by omega) (by omega)) (fun v_ τ_ h_ => ?_)
  obtain ⟨rfl, rfl⟩ := h_
  show zw_W g mX10_priceOf k 6 [(0, .ref (g.2.2.1 0)), (1, zv_i a), (2, zv_i b), (3, zv_i c), (4, zv_i d)] [zv_i (zi_b (0 ≤ a ∧ a ≤ 5))] σ
  refine zr_if_eq_b (pc := 6) C 31 dX10_priceOf_6 (by decide) (fun h_1 => ?_) (fun h_1 => ?_)
  · refine zr_iconst (pc := 31) C dX10_priceOf_31 ?_
    exact zr_zret (pc := 32) C hr dX10_priceOf_32 rfl (by decide) (⟨zq_0 (by omega), zy_n (by omega) rfl⟩)
  · have kb := (hK a (by omega) (by omega)).1
    refine zr_aload_n (pc := 9) C dX10_priceOf_9 0 rfl ?_
    refine zr_get (v := .ref (g.2.2.1 7)) (pc := 10) C 2 (some (some 7)) dX10_priceOf_10 fX10_31 (by decide) (hs_0 _) rfl rfl ?_
    refine zr_iload_n (pc := 13) C dX10_priceOf_13 1 rfl ?_
    refine zr_aaload (pc := 14) C dX10_priceOf_14 (by decide) (hs_7 _) (by decide) (by omega) (by decide) ?_
    show zw_W g mX10_priceOf k 15 [(0, .ref (g.2.2.1 0)), (1, zv_i a), (2, zv_i b), (3, zv_i c), (4, zv_i d)] [.ref (g.2.2.1 (8 + 2 * a.toNat))] σ
    refine zr_callV (As := []) (rest := []) (b := 8 + 2 * a.toNat) (pc := 15) C dX10_priceOf_15 kX5_isTold vX10_68 rfl (by decide) (hn_kind (by omega)) (hs_kind (by omega)) rfl (Nat.le_of_ble_eq_true rfl) (m_toldK g σ a (by omega) (by omega)) (fun v_ τ_ h_ => ?_)
    obtain ⟨rfl, rfl⟩ := h_
    show zw_W g mX10_priceOf k 18 [(0, .ref (g.2.2.1 0)), (1, zv_i a), (2, zv_i b), (3, zv_i c), (4, zv_i d)] [zv_i (zi_b (0 < σ (8 + 2 * a.toNat) 0))] σ
    refine zr_if_eq_b (pc := 18) C 31 dX10_priceOf_18 (by decide) (fun h_2 => ?_) (fun h_2 => ?_)
    · refine zr_iconst (pc := 31) C dX10_priceOf_31 ?_
      exact zr_zret (pc := 32) C hr dX10_priceOf_32 rfl (by decide) (⟨zq_0 (by omega), zy_n (by omega) rfl⟩)
    · refine zr_iload_n (pc := 21) C dX10_priceOf_21 2 rfl ?_
      refine zr_iconst (pc := 22) C dX10_priceOf_22 ?_
      refine zr_bipush (pc := 23) C dX10_priceOf_23 (by decide) ?_
      refine zr_callS (As := [zv_i b, zv_i 0, zv_i 18]) (rest := []) (pc := 25) C dX10_priceOf_25 kX10_within sX10_11 rfl (by decide) rfl (Nat.le_of_ble_eq_true rfl) (m_within g σ b 0 18 (by omega) (by omega) (by omega)) (fun v_ τ_ h_ => ?_)
      obtain ⟨rfl, rfl⟩ := h_
      show zw_W g mX10_priceOf k 28 [(0, .ref (g.2.2.1 0)), (1, zv_i a), (2, zv_i b), (3, zv_i c), (4, zv_i d)] [zv_i (zi_b (0 ≤ b ∧ b ≤ 18))] σ
      refine zr_if_ne_b (pc := 28) C 33 dX10_priceOf_28 (by decide) (fun h_3 => ?_) (fun h_3 => ?_)
      · refine zr_iload_n (pc := 33) C dX10_priceOf_33 3 rfl ?_
        refine zr_iconst (pc := 34) C dX10_priceOf_34 ?_
        refine zr_iconst (pc := 35) C dX10_priceOf_35 ?_
        refine zr_callS (As := [zv_i c, zv_i 1, zv_i 3]) (rest := []) (pc := 36) C dX10_priceOf_36 kX10_within sX10_11 rfl (by decide) rfl (Nat.le_of_ble_eq_true rfl) (m_within g σ c 1 3 (by omega) (by omega) (by omega)) (fun v_ τ_ h_ => ?_)
        obtain ⟨rfl, rfl⟩ := h_
        show zw_W g mX10_priceOf k 39 [(0, .ref (g.2.2.1 0)), (1, zv_i a), (2, zv_i b), (3, zv_i c), (4, zv_i d)] [zv_i (zi_b (1 ≤ c ∧ c ≤ 3))] σ
        refine zr_if_eq_b (pc := 39) C 53 dX10_priceOf_39 (by decide) (fun h_4 => ?_) (fun h_4 => ?_)
        · refine zr_iconst (pc := 53) C dX10_priceOf_53 ?_
          exact zr_zret (pc := 54) C hr dX10_priceOf_54 rfl (by decide) (⟨zq_0 (by omega), zy_n (by omega) rfl⟩)
        · refine zr_iload (pc := 42) C dX10_priceOf_42 4 rfl ?_
          refine zr_iconst (pc := 44) C dX10_priceOf_44 ?_
          refine zr_ldc (v := 1000000) (pc := 45) C 1000000 dX10_priceOf_45 (zt_mem 362 (by decide +kernel) rfl) (by decide) ?_
          refine zr_callS (As := [zv_i d, zv_i 0, zv_i 1000000]) (rest := []) (pc := 47) C dX10_priceOf_47 kX10_within sX10_11 rfl (by decide) rfl (Nat.le_of_ble_eq_true rfl) (m_within g σ d 0 1000000 (by omega) (by omega) (by omega)) (fun v_ τ_ h_ => ?_)
          obtain ⟨rfl, rfl⟩ := h_
          show zw_W g mX10_priceOf k 50 [(0, .ref (g.2.2.1 0)), (1, zv_i a), (2, zv_i b), (3, zv_i c), (4, zv_i d)] [zv_i (zi_b (0 ≤ d ∧ d ≤ 1000000))] σ
          refine zr_if_ne_b (pc := 50) C 55 dX10_priceOf_50 (by decide) (fun h_5 => ?_) (fun h_5 => ?_)
          · refine zr_aload_n (pc := 55) C dX10_priceOf_55 0 rfl ?_
            refine zr_get (v := .ref (g.2.2.1 7)) (pc := 56) C 2 (some (some 7)) dX10_priceOf_56 fX10_31 (by decide) (hs_0 _) rfl rfl ?_
            refine zr_iload_n (pc := 59) C dX10_priceOf_59 1 rfl ?_
            refine zr_aaload (pc := 60) C dX10_priceOf_60 (by decide) (hs_7 _) (by decide) (by omega) (by decide) ?_
            show zw_W g mX10_priceOf k 61 [(0, .ref (g.2.2.1 0)), (1, zv_i a), (2, zv_i b), (3, zv_i c), (4, zv_i d)] [.ref (g.2.2.1 (8 + 2 * a.toNat))] σ
            refine zr_get (v := .ref (g.2.2.1 (9 + 2 * a.toNat))) (pc := 61) C 2 (some (some (9 + 2 * a.toNat))) dX10_priceOf_61 fX10_73 (hn_kind (by omega)) (hs_kind (by omega)) rfl rfl ?_
            refine zr_iload_n (pc := 64) C dX10_priceOf_64 2 rfl ?_
            refine zr_iload_n (pc := 65) C dX10_priceOf_65 3 rfl ?_
            refine zr_callS (As := [zv_i b, zv_i c]) (rest := [.ref (g.2.2.1 (9 + 2 * a.toNat))]) (pc := 66) C dX10_priceOf_66 kX5_slot sX10_76 rfl (by decide) rfl (Nat.le_of_ble_eq_true rfl) (m_slot g σ b c ) (fun v_ τ_ h_ => ?_)
            obtain ⟨rfl, rfl⟩ := h_
            show zw_W g mX10_priceOf k 69 [(0, .ref (g.2.2.1 0)), (1, zv_i a), (2, zv_i b), (3, zv_i c), (4, zv_i d)] [zv_i (b * 3 + c - 1), .ref (g.2.2.1 (9 + 2 * a.toNat))] σ
            refine zr_iload (pc := 69) C dX10_priceOf_69 4 rfl ?_
            refine zr_iastore (pc := 71) C dX10_priceOf_71 (hn_kindP (by omega)) (hs_kindP (by omega)) (by omega) (by decide) (fun τ_6 e_7 => ?_)
            refine zr_iconst (pc := 72) C dX10_priceOf_72 ?_
            exact zr_zret (pc := 73) C hr dX10_priceOf_73 rfl (by decide) (⟨zq_1 (by omega), zy_y (by omega) (e_7)⟩)
          · refine zr_iconst (pc := 53) C dX10_priceOf_53 ?_
            exact zr_zret (pc := 54) C hr dX10_priceOf_54 rfl (by decide) (⟨zq_0 (by omega), zy_n (by omega) rfl⟩)
      · refine zr_iconst (pc := 31) C dX10_priceOf_31 ?_
        exact zr_zret (pc := 32) C hr dX10_priceOf_32 rfl (by decide) (⟨zq_0 (by omega), zy_n (by omega) rfl⟩)

set_option maxRecDepth 20000 in
set_option maxHeartbeats 4000000 in
theorem s_size (g : zg_G) (σ : zs_S) (a b c : Int) (har : zi_r a) (hbr : zi_r b) (hcr : zi_r c)  : zm_Met g mX10_size σ [.ref (g.2.2.1 0), zv_i a, zv_i b, zv_i c] (fun v τ => v = some (zv_i (zi_b (((0 ≤ a ∧ a ≤ 5) ∧ (50 ≤ b ∧ b ≤ 4000)) ∧ (50 ≤ c ∧ c ≤ 4000)))) ∧ zy_i (((0 ≤ a ∧ a ≤ 5) ∧ (50 ≤ b ∧ b ≤ 4000)) ∧ (50 ≤ c ∧ c ≤ 4000)) (σ = τ) (τ (28 + 2 * a.toNat) 0 = b ∧ τ (28 + 2 * a.toNat) 1 = c ∧ (∀ i : Int, 0 ≤ i → i < 3 → τ (29 + 2 * a.toNat) i = 0) ∧ zf_x σ τ [28 + 2 * a.toNat, 29 + 2 * a.toNat])) := by
  refine zm_of (by decide +kernel) (Nat.le_of_ble_eq_true rfl) ?_
  intro k C hr
  show zw_W g mX10_size k 0 [(0, .ref (g.2.2.1 0)), (1, zv_i a), (2, zv_i b), (3, zv_i c)] [] σ
  refine zr_iload_n (pc := 0) C dX10_size_0 1 rfl ?_
  refine zr_iconst (pc := 1) C dX10_size_1 ?_
  refine zr_iconst (pc := 2) C dX10_size_2 ?_
  refine zr_callS (As := [zv_i a, zv_i 0, zv_i 5]) (rest := []) (pc := 3) C dX10_size_3 kX10_within sX10_11 rfl (by decide) rfl (Nat.le_of_ble_eq_true rfl) (m_within g σ a 0 5 (by omega) (by omega) (by omega)) (fun v_ τ_ h_ => ?_)
  obtain ⟨rfl, rfl⟩ := h_
  show zw_W g mX10_size k 6 [(0, .ref (g.2.2.1 0)), (1, zv_i a), (2, zv_i b), (3, zv_i c)] [zv_i (zi_b (0 ≤ a ∧ a ≤ 5))] σ
  refine zr_if_eq_b (pc := 6) C 21 dX10_size_6 (by decide) (fun h_1 => ?_) (fun h_1 => ?_)
  · refine zr_iconst (pc := 21) C dX10_size_21 ?_
    exact zr_zret (pc := 22) C hr dX10_size_22 rfl (by decide) (⟨zq_0 (by omega), zy_n (by omega) rfl⟩)
  · refine zr_iload_n (pc := 9) C dX10_size_9 2 rfl ?_
    refine zr_bipush (pc := 10) C dX10_size_10 (by decide) ?_
    refine zr_sipush (pc := 12) C dX10_size_12 (by decide) ?_
    refine zr_callS (As := [zv_i b, zv_i 50, zv_i 4000]) (rest := []) (pc := 15) C dX10_size_15 kX10_within sX10_11 rfl (by decide) rfl (Nat.le_of_ble_eq_true rfl) (m_within g σ b 50 4000 (by omega) (by omega) (by omega)) (fun v_ τ_ h_ => ?_)
    obtain ⟨rfl, rfl⟩ := h_
    show zw_W g mX10_size k 18 [(0, .ref (g.2.2.1 0)), (1, zv_i a), (2, zv_i b), (3, zv_i c)] [zv_i (zi_b (50 ≤ b ∧ b ≤ 4000))] σ
    refine zr_if_ne_b (pc := 18) C 23 dX10_size_18 (by decide) (fun h_2 => ?_) (fun h_2 => ?_)
    · refine zr_iload_n (pc := 23) C dX10_size_23 3 rfl ?_
      refine zr_bipush (pc := 24) C dX10_size_24 (by decide) ?_
      refine zr_sipush (pc := 26) C dX10_size_26 (by decide) ?_
      refine zr_callS (As := [zv_i c, zv_i 50, zv_i 4000]) (rest := []) (pc := 29) C dX10_size_29 kX10_within sX10_11 rfl (by decide) rfl (Nat.le_of_ble_eq_true rfl) (m_within g σ c 50 4000 (by omega) (by omega) (by omega)) (fun v_ τ_ h_ => ?_)
      obtain ⟨rfl, rfl⟩ := h_
      show zw_W g mX10_size k 32 [(0, .ref (g.2.2.1 0)), (1, zv_i a), (2, zv_i b), (3, zv_i c)] [zv_i (zi_b (50 ≤ c ∧ c ≤ 4000))] σ
      refine zr_if_ne_b (pc := 32) C 37 dX10_size_32 (by decide) (fun h_3 => ?_) (fun h_3 => ?_)
      · refine zr_aload_n (pc := 37) C dX10_size_37 0 rfl ?_
        refine zr_get (v := .ref (g.2.2.1 27)) (pc := 38) C 4 (some (some 27)) dX10_size_38 fX10_43 (by decide) (hs_0 _) rfl rfl ?_
        refine zr_iload_n (pc := 41) C dX10_size_41 1 rfl ?_
        refine zr_aaload (pc := 42) C dX10_size_42 (by decide) (hs_27 _) (by decide) (by omega) (by decide) ?_
        show zw_W g mX10_size k 43 [(0, .ref (g.2.2.1 0)), (1, zv_i a), (2, zv_i b), (3, zv_i c)] [.ref (g.2.2.1 (28 + 2 * a.toNat))] σ
        refine zr_iload_n (pc := 43) C dX10_size_43 2 rfl ?_
        refine zr_iload_n (pc := 44) C dX10_size_44 3 rfl ?_
        refine zr_callV (As := [zv_i b, zv_i c]) (rest := []) (b := 28 + 2 * a.toNat) (pc := 45) C dX10_size_45 kX0_become vX10_103 rfl (by decide) (hn_size (by omega)) (hs_size (by omega)) rfl (Nat.le_of_ble_eq_true rfl) (m_becomeS g σ a b c (by omega)) (fun v_ τ_ h_ => ?_)
        obtain ⟨rfl, h_5⟩ := h_
        generalize τ_ = τ_4 at h_5 ⊢
        show zw_W g mX10_size k 48 [(0, .ref (g.2.2.1 0)), (1, zv_i a), (2, zv_i b), (3, zv_i c)] [] τ_4
        refine zr_iconst (pc := 48) C dX10_size_48 ?_
        exact zr_zret (pc := 49) C hr dX10_size_49 rfl (by decide) (⟨zq_1 (by omega), zy_y (by omega) (h_5)⟩)
      · refine zr_iconst (pc := 35) C dX10_size_35 ?_
        exact zr_zret (pc := 36) C hr dX10_size_36 rfl (by decide) (⟨zq_0 (by omega), zy_n (by omega) rfl⟩)
    · refine zr_iconst (pc := 21) C dX10_size_21 ?_
      exact zr_zret (pc := 22) C hr dX10_size_22 rfl (by decide) (⟨zq_0 (by omega), zy_n (by omega) rfl⟩)

set_option maxRecDepth 20000 in
set_option maxHeartbeats 4000000 in
theorem s_told (g : zg_G) (σ : zs_S) (a : Int) (har : zi_r a) (hI : sw_I σ) : zm_Met g mX10_isToldSize σ [.ref (g.2.2.1 0), zv_i a] (fun v τ => v = some (zv_i (zi_b ((0 ≤ a ∧ a ≤ 5) ∧ 0 < σ (28 + 2 * a.toNat) 0))) ∧ σ = τ) := by
  refine zm_of (by decide +kernel) (Nat.le_of_ble_eq_true rfl) ?_
  intro k C hr
  show zw_W g mX10_isToldSize k 0 [(0, .ref (g.2.2.1 0)), (1, zv_i a)] [] σ
  refine zr_iload_n (pc := 0) C dX10_isToldSize_0 1 rfl ?_
  refine zr_iconst (pc := 1) C dX10_isToldSize_1 ?_
  refine zr_iconst (pc := 2) C dX10_isToldSize_2 ?_
  refine zr_callS (As := [zv_i a, zv_i 0, zv_i 5]) (rest := []) (pc := 3) C dX10_isToldSize_3 kX10_within sX10_11 rfl (by decide) rfl (Nat.le_of_ble_eq_true rfl) (m_within g σ a 0 5 (by omega) (by omega) (by omega)) (fun v_ τ_ h_ => ?_)
  obtain ⟨rfl, rfl⟩ := h_
  show zw_W g mX10_isToldSize k 6 [(0, .ref (g.2.2.1 0)), (1, zv_i a)] [zv_i (zi_b (0 ≤ a ∧ a ≤ 5))] σ
  refine zr_if_eq_b (pc := 6) C 25 dX10_isToldSize_6 (by decide) (fun h_1 => ?_) (fun h_1 => ?_)
  · refine zr_iconst (pc := 25) C dX10_isToldSize_25 ?_
    exact zr_zret (pc := 26) C hr dX10_isToldSize_26 rfl (by decide) (⟨zq_0 (by omega), rfl⟩)
  · have kb := (hI.1 a (by omega) (by omega)).1
    refine zr_aload_n (pc := 9) C dX10_isToldSize_9 0 rfl ?_
    refine zr_get (v := .ref (g.2.2.1 27)) (pc := 10) C 4 (some (some 27)) dX10_isToldSize_10 fX10_43 (by decide) (hs_0 _) rfl rfl ?_
    refine zr_iload_n (pc := 13) C dX10_isToldSize_13 1 rfl ?_
    refine zr_aaload (pc := 14) C dX10_isToldSize_14 (by decide) (hs_27 _) (by decide) (by omega) (by decide) ?_
    show zw_W g mX10_isToldSize k 15 [(0, .ref (g.2.2.1 0)), (1, zv_i a)] [.ref (g.2.2.1 (28 + 2 * a.toNat))] σ
    refine zr_callV (As := []) (rest := []) (b := 28 + 2 * a.toNat) (pc := 15) C dX10_isToldSize_15 kX0_isTold vX10_153 rfl (by decide) (hn_size (by omega)) (hs_size (by omega)) rfl (Nat.le_of_ble_eq_true rfl) (m_toldS g σ a (by omega) (by omega)) (fun v_ τ_ h_ => ?_)
    obtain ⟨rfl, rfl⟩ := h_
    show zw_W g mX10_isToldSize k 18 [(0, .ref (g.2.2.1 0)), (1, zv_i a)] [zv_i (zi_b (0 < σ (28 + 2 * a.toNat) 0))] σ
    refine zr_if_eq_b (pc := 18) C 25 dX10_isToldSize_18 (by decide) (fun h_2 => ?_) (fun h_2 => ?_)
    · refine zr_iconst (pc := 25) C dX10_isToldSize_25 ?_
      exact zr_zret (pc := 26) C hr dX10_isToldSize_26 rfl (by decide) (⟨zq_0 (by omega), rfl⟩)
    · refine zr_iconst (pc := 21) C dX10_isToldSize_21 ?_
      refine zr_goto (pc := 22) C 26 dX10_isToldSize_22 (by decide) ?_
      exact zr_zret (pc := 26) C hr dX10_isToldSize_26 rfl (by decide) (⟨zq_1 (by omega), rfl⟩)

set_option maxRecDepth 20000 in
set_option maxHeartbeats 4000000 in
theorem s_boardPrice (g : zg_G) (σ : zs_S) (a b c : Int) (har : zi_r a) (hbr : zi_r b) (hcr : zi_r c) (hI : sw_I σ) : zm_Met g mX10_boardPrice σ [.ref (g.2.2.1 0), zv_i a, zv_i b, zv_i c] (fun v τ => v = some (zv_i (zi_b (((0 ≤ a ∧ a ≤ 5) ∧ 0 < σ (28 + 2 * a.toNat) 0) ∧ (1 ≤ b ∧ b ≤ 3) ∧ (0 ≤ c ∧ c ≤ 1000000)))) ∧ zy_i (((0 ≤ a ∧ a ≤ 5) ∧ 0 < σ (28 + 2 * a.toNat) 0) ∧ (1 ≤ b ∧ b ≤ 3) ∧ (0 ≤ c ∧ c ≤ 1000000)) (σ = τ) (τ = zs_put σ (29 + 2 * a.toNat) (b - 1) c)) := by
  refine zm_of (by decide +kernel) (Nat.le_of_ble_eq_true rfl) ?_
  intro k C hr
  show zw_W g mX10_boardPrice k 0 [(0, .ref (g.2.2.1 0)), (1, zv_i a), (2, zv_i b), (3, zv_i c)] [] σ
  refine zr_aload_n (pc := 0) C dX10_boardPrice_0 0 rfl ?_
  refine zr_iload_n (pc := 1) C dX10_boardPrice_1 1 rfl ?_
  refine zr_callV (As := [zv_i a]) (rest := []) (b := 0) (pc := 2) C dX10_boardPrice_2 kX10_isToldSize vX10_106 rfl (by decide) (by decide) (hs_0 _) rfl (Nat.le_of_ble_eq_true rfl) (s_told g σ a (by omega) hI) (fun v_ τ_ h_ => ?_)
  obtain ⟨rfl, rfl⟩ := h_
  show zw_W g mX10_boardPrice k 5 [(0, .ref (g.2.2.1 0)), (1, zv_i a), (2, zv_i b), (3, zv_i c)] [zv_i (zi_b ((0 ≤ a ∧ a ≤ 5) ∧ 0 < σ (28 + 2 * a.toNat) 0))] σ
  refine zr_if_eq_b (pc := 5) C 27 dX10_boardPrice_5 (by decide) (fun h_1 => ?_) (fun h_1 => ?_)
  · refine zr_iconst (pc := 27) C dX10_boardPrice_27 ?_
    exact zr_zret (pc := 28) C hr dX10_boardPrice_28 rfl (by decide) (⟨zq_0 (by omega), zy_n (by omega) rfl⟩)
  · refine zr_iload_n (pc := 8) C dX10_boardPrice_8 2 rfl ?_
    refine zr_iconst (pc := 9) C dX10_boardPrice_9 ?_
    refine zr_iconst (pc := 10) C dX10_boardPrice_10 ?_
    refine zr_callS (As := [zv_i b, zv_i 1, zv_i 3]) (rest := []) (pc := 11) C dX10_boardPrice_11 kX10_within sX10_11 rfl (by decide) rfl (Nat.le_of_ble_eq_true rfl) (m_within g σ b 1 3 (by omega) (by omega) (by omega)) (fun v_ τ_ h_ => ?_)
    obtain ⟨rfl, rfl⟩ := h_
    show zw_W g mX10_boardPrice k 14 [(0, .ref (g.2.2.1 0)), (1, zv_i a), (2, zv_i b), (3, zv_i c)] [zv_i (zi_b (1 ≤ b ∧ b ≤ 3))] σ
    refine zr_if_eq_b (pc := 14) C 27 dX10_boardPrice_14 (by decide) (fun h_2 => ?_) (fun h_2 => ?_)
    · refine zr_iconst (pc := 27) C dX10_boardPrice_27 ?_
      exact zr_zret (pc := 28) C hr dX10_boardPrice_28 rfl (by decide) (⟨zq_0 (by omega), zy_n (by omega) rfl⟩)
    · refine zr_iload_n (pc := 17) C dX10_boardPrice_17 3 rfl ?_
      refine zr_iconst (pc := 18) C dX10_boardPrice_18 ?_
      refine zr_ldc (v := 1000000) (pc := 19) C 1000000 dX10_boardPrice_19 (zt_mem 362 (by decide +kernel) rfl) (by decide) ?_
      refine zr_callS (As := [zv_i c, zv_i 0, zv_i 1000000]) (rest := []) (pc := 21) C dX10_boardPrice_21 kX10_within sX10_11 rfl (by decide) rfl (Nat.le_of_ble_eq_true rfl) (m_within g σ c 0 1000000 (by omega) (by omega) (by omega)) (fun v_ τ_ h_ => ?_)
      obtain ⟨rfl, rfl⟩ := h_
      show zw_W g mX10_boardPrice k 24 [(0, .ref (g.2.2.1 0)), (1, zv_i a), (2, zv_i b), (3, zv_i c)] [zv_i (zi_b (0 ≤ c ∧ c ≤ 1000000))] σ
      refine zr_if_ne_b (pc := 24) C 29 dX10_boardPrice_24 (by decide) (fun h_3 => ?_) (fun h_3 => ?_)
      · refine zr_aload_n (pc := 29) C dX10_boardPrice_29 0 rfl ?_
        refine zr_get (v := .ref (g.2.2.1 27)) (pc := 30) C 4 (some (some 27)) dX10_boardPrice_30 fX10_43 (by decide) (hs_0 _) rfl rfl ?_
        refine zr_iload_n (pc := 33) C dX10_boardPrice_33 1 rfl ?_
        refine zr_aaload (pc := 34) C dX10_boardPrice_34 (by decide) (hs_27 _) (by decide) (by omega) (by decide) ?_
        show zw_W g mX10_boardPrice k 35 [(0, .ref (g.2.2.1 0)), (1, zv_i a), (2, zv_i b), (3, zv_i c)] [.ref (g.2.2.1 (28 + 2 * a.toNat))] σ
        refine zr_get (v := .ref (g.2.2.1 (29 + 2 * a.toNat))) (pc := 35) C 2 (some (some (29 + 2 * a.toNat))) dX10_boardPrice_35 fX10_110 (hn_size (by omega)) (hs_size (by omega)) rfl rfl ?_
        refine zr_iload_n (pc := 38) C dX10_boardPrice_38 2 rfl ?_
        refine zr_iconst (pc := 39) C dX10_boardPrice_39 ?_
        refine zr_isub (pc := 40) C dX10_boardPrice_40 ?_
        refine zr_iload_n (pc := 41) C dX10_boardPrice_41 3 rfl ?_
        refine zr_iastore (pc := 42) C dX10_boardPrice_42 (hn_sizeP (by omega)) (hs_sizeP (by omega)) (by omega) (by decide) (fun τ_4 e_5 => ?_)
        refine zr_iconst (pc := 43) C dX10_boardPrice_43 ?_
        exact zr_zret (pc := 44) C hr dX10_boardPrice_44 rfl (by decide) (⟨zq_1 (by omega), zy_y (by omega) (e_5)⟩)
      · refine zr_iconst (pc := 27) C dX10_boardPrice_27 ?_
        exact zr_zret (pc := 28) C hr dX10_boardPrice_28 rfl (by decide) (⟨zq_0 (by omega), zy_n (by omega) rfl⟩)

set_option maxRecDepth 20000 in
set_option maxHeartbeats 4000000 in
theorem s_height (g : zg_G) (σ : zs_S) (a b : Int) (har : zi_r a) (hbr : zi_r b)  : zm_Met g mX10_height σ [.ref (g.2.2.1 0), zv_i a, zv_i b] (fun v τ => v = some (zv_i (zi_b ((0 ≤ a ∧ a ≤ 3) ∧ (300 ≤ b ∧ b ≤ 5000)))) ∧ zy_i ((0 ≤ a ∧ a ≤ 3) ∧ (300 ≤ b ∧ b ≤ 5000)) (σ = τ) (τ = zs_put σ 44 a b)) := by
  refine zm_of (by decide +kernel) (Nat.le_of_ble_eq_true rfl) ?_
  intro k C hr
  show zw_W g mX10_height k 0 [(0, .ref (g.2.2.1 0)), (1, zv_i a), (2, zv_i b)] [] σ
  refine zr_iload_n (pc := 0) C dX10_height_0 1 rfl ?_
  refine zr_iconst (pc := 1) C dX10_height_1 ?_
  refine zr_iconst (pc := 2) C dX10_height_2 ?_
  refine zr_callS (As := [zv_i a, zv_i 0, zv_i 3]) (rest := []) (pc := 3) C dX10_height_3 kX10_within sX10_11 rfl (by decide) rfl (Nat.le_of_ble_eq_true rfl) (m_within g σ a 0 3 (by omega) (by omega) (by omega)) (fun v_ τ_ h_ => ?_)
  obtain ⟨rfl, rfl⟩ := h_
  show zw_W g mX10_height k 6 [(0, .ref (g.2.2.1 0)), (1, zv_i a), (2, zv_i b)] [zv_i (zi_b (0 ≤ a ∧ a ≤ 3))] σ
  refine zr_if_eq_b (pc := 6) C 22 dX10_height_6 (by decide) (fun h_1 => ?_) (fun h_1 => ?_)
  · refine zr_iconst (pc := 22) C dX10_height_22 ?_
    exact zr_zret (pc := 23) C hr dX10_height_23 rfl (by decide) (⟨zq_0 (by omega), zy_n (by omega) rfl⟩)
  · refine zr_iload_n (pc := 9) C dX10_height_9 2 rfl ?_
    refine zr_sipush (pc := 10) C dX10_height_10 (by decide) ?_
    refine zr_sipush (pc := 13) C dX10_height_13 (by decide) ?_
    refine zr_callS (As := [zv_i b, zv_i 300, zv_i 5000]) (rest := []) (pc := 16) C dX10_height_16 kX10_within sX10_11 rfl (by decide) rfl (Nat.le_of_ble_eq_true rfl) (m_within g σ b 300 5000 (by omega) (by omega) (by omega)) (fun v_ τ_ h_ => ?_)
    obtain ⟨rfl, rfl⟩ := h_
    show zw_W g mX10_height k 19 [(0, .ref (g.2.2.1 0)), (1, zv_i a), (2, zv_i b)] [zv_i (zi_b (300 ≤ b ∧ b ≤ 5000))] σ
    refine zr_if_ne_b (pc := 19) C 24 dX10_height_19 (by decide) (fun h_2 => ?_) (fun h_2 => ?_)
    · refine zr_aload_n (pc := 24) C dX10_height_24 0 rfl ?_
      refine zr_get (v := .ref (g.2.2.1 26)) (pc := 25) C 3 (some (some 26)) dX10_height_25 fX10_35 (by decide) (hs_0 _) rfl rfl ?_
      refine zr_get (v := .ref (g.2.2.1 44)) (pc := 28) C 2 (some (some 44)) dX10_height_28 fX10_111 (by decide) (hs_26 _) rfl rfl ?_
      refine zr_iload_n (pc := 31) C dX10_height_31 1 rfl ?_
      refine zr_iload_n (pc := 32) C dX10_height_32 2 rfl ?_
      refine zr_iastore (pc := 33) C dX10_height_33 (by decide) (hs_44 _) (by omega) (by decide) (fun τ_3 e_4 => ?_)
      refine zr_iconst (pc := 34) C dX10_height_34 ?_
      exact zr_zret (pc := 35) C hr dX10_height_35 rfl (by decide) (⟨zq_1 (by omega), zy_y (by omega) (e_4)⟩)
    · refine zr_iconst (pc := 22) C dX10_height_22 ?_
      exact zr_zret (pc := 23) C hr dX10_height_23 rfl (by decide) (⟨zq_0 (by omega), zy_n (by omega) rfl⟩)

set_option maxRecDepth 20000 in
set_option maxHeartbeats 4000000 in
theorem s_kerf (g : zg_G) (σ : zs_S) (a : Int) (har : zi_r a)  : zm_Met g mX10_kerf σ [.ref (g.2.2.1 0), zv_i a] (fun v τ => v = some (zv_i (zi_b (0 ≤ a ∧ a ≤ 100))) ∧ zy_i (0 ≤ a ∧ a ≤ 100) (σ = τ) (τ = zs_put σ 26 3 a)) := by
  refine zm_of (by decide +kernel) (Nat.le_of_ble_eq_true rfl) ?_
  intro k C hr
  show zw_W g mX10_kerf k 0 [(0, .ref (g.2.2.1 0)), (1, zv_i a)] [] σ
  refine zr_iload_n (pc := 0) C dX10_kerf_0 1 rfl ?_
  refine zr_iconst (pc := 1) C dX10_kerf_1 ?_
  refine zr_bipush (pc := 2) C dX10_kerf_2 (by decide) ?_
  refine zr_callS (As := [zv_i a, zv_i 0, zv_i 100]) (rest := []) (pc := 4) C dX10_kerf_4 kX10_within sX10_11 rfl (by decide) rfl (Nat.le_of_ble_eq_true rfl) (m_within g σ a 0 100 (by omega) (by omega) (by omega)) (fun v_ τ_ h_ => ?_)
  obtain ⟨rfl, rfl⟩ := h_
  show zw_W g mX10_kerf k 7 [(0, .ref (g.2.2.1 0)), (1, zv_i a)] [zv_i (zi_b (0 ≤ a ∧ a ≤ 100))] σ
  refine zr_if_ne_b (pc := 7) C 12 dX10_kerf_7 (by decide) (fun h_1 => ?_) (fun h_1 => ?_)
  · refine zr_aload_n (pc := 12) C dX10_kerf_12 0 rfl ?_
    refine zr_get (v := .ref (g.2.2.1 26)) (pc := 13) C 3 (some (some 26)) dX10_kerf_13 fX10_35 (by decide) (hs_0 _) rfl rfl ?_
    refine zr_iload_n (pc := 16) C dX10_kerf_16 1 rfl ?_
    refine zr_put (pc := 17) C 3 3 rfl dX10_kerf_17 pX10_114 (by decide) (hs_26 _) rfl (fun τ_2 e_3 => ?_)
    refine zr_iconst (pc := 20) C dX10_kerf_20 ?_
    exact zr_zret (pc := 21) C hr dX10_kerf_21 rfl (by decide) (⟨zq_1 (by omega), zy_y (by omega) (e_3)⟩)
  · refine zr_iconst (pc := 10) C dX10_kerf_10 ?_
    exact zr_zret (pc := 11) C hr dX10_kerf_11 rfl (by decide) (⟨zq_0 (by omega), zy_n (by omega) rfl⟩)

set_option maxRecDepth 20000 in
set_option maxHeartbeats 4000000 in
theorem s_need (g : zg_G) (σ : zs_S) (a b : Int) (har : zi_r a) (hbr : zi_r b)  : zm_Met g mX10_need σ [.ref (g.2.2.1 0), zv_i a, zv_i b] (fun v τ => v = some (zv_i (zi_b ((0 ≤ a ∧ a ≤ 5) ∧ (0 ≤ b ∧ b ≤ 1000)))) ∧ zy_i ((0 ≤ a ∧ a ≤ 5) ∧ (0 ≤ b ∧ b ≤ 1000)) (σ = τ) (τ = zs_put σ 41 a b)) := by
  refine zm_of (by decide +kernel) (Nat.le_of_ble_eq_true rfl) ?_
  intro k C hr
  show zw_W g mX10_need k 0 [(0, .ref (g.2.2.1 0)), (1, zv_i a), (2, zv_i b)] [] σ
  refine zr_iload_n (pc := 0) C dX10_need_0 1 rfl ?_
  refine zr_iconst (pc := 1) C dX10_need_1 ?_
  refine zr_iconst (pc := 2) C dX10_need_2 ?_
  refine zr_callS (As := [zv_i a, zv_i 0, zv_i 5]) (rest := []) (pc := 3) C dX10_need_3 kX10_within sX10_11 rfl (by decide) rfl (Nat.le_of_ble_eq_true rfl) (m_within g σ a 0 5 (by omega) (by omega) (by omega)) (fun v_ τ_ h_ => ?_)
  obtain ⟨rfl, rfl⟩ := h_
  show zw_W g mX10_need k 6 [(0, .ref (g.2.2.1 0)), (1, zv_i a), (2, zv_i b)] [zv_i (zi_b (0 ≤ a ∧ a ≤ 5))] σ
  refine zr_if_eq_b (pc := 6) C 20 dX10_need_6 (by decide) (fun h_1 => ?_) (fun h_1 => ?_)
  · refine zr_iconst (pc := 20) C dX10_need_20 ?_
    exact zr_zret (pc := 21) C hr dX10_need_21 rfl (by decide) (⟨zq_0 (by omega), zy_n (by omega) rfl⟩)
  · refine zr_iload_n (pc := 9) C dX10_need_9 2 rfl ?_
    refine zr_iconst (pc := 10) C dX10_need_10 ?_
    refine zr_sipush (pc := 11) C dX10_need_11 (by decide) ?_
    refine zr_callS (As := [zv_i b, zv_i 0, zv_i 1000]) (rest := []) (pc := 14) C dX10_need_14 kX10_within sX10_11 rfl (by decide) rfl (Nat.le_of_ble_eq_true rfl) (m_within g σ b 0 1000 (by omega) (by omega) (by omega)) (fun v_ τ_ h_ => ?_)
    obtain ⟨rfl, rfl⟩ := h_
    show zw_W g mX10_need k 17 [(0, .ref (g.2.2.1 0)), (1, zv_i a), (2, zv_i b)] [zv_i (zi_b (0 ≤ b ∧ b ≤ 1000))] σ
    refine zr_if_ne_b (pc := 17) C 22 dX10_need_17 (by decide) (fun h_2 => ?_) (fun h_2 => ?_)
    · refine zr_aload_n (pc := 22) C dX10_need_22 0 rfl ?_
      refine zr_get (v := .ref (g.2.2.1 40)) (pc := 23) C 5 (some (some 40)) dX10_need_23 fX10_48 (by decide) (hs_0 _) rfl rfl ?_
      refine zr_get (v := .ref (g.2.2.1 41)) (pc := 26) C 0 (some (some 41)) dX10_need_26 fX10_117 (by decide) (hs_40 _) rfl rfl ?_
      refine zr_iload_n (pc := 29) C dX10_need_29 1 rfl ?_
      refine zr_iload_n (pc := 30) C dX10_need_30 2 rfl ?_
      refine zr_iastore (pc := 31) C dX10_need_31 (by decide) (hs_41 _) (by omega) (by decide) (fun τ_3 e_4 => ?_)
      refine zr_iconst (pc := 32) C dX10_need_32 ?_
      exact zr_zret (pc := 33) C hr dX10_need_33 rfl (by decide) (⟨zq_1 (by omega), zy_y (by omega) (e_4)⟩)
    · refine zr_iconst (pc := 20) C dX10_need_20 ?_
      exact zr_zret (pc := 21) C hr dX10_need_21 rfl (by decide) (⟨zq_0 (by omega), zy_n (by omega) rfl⟩)

set_option maxRecDepth 20000 in
set_option maxHeartbeats 4000000 in
theorem s_ladder (g : zg_G) (σ : zs_S) (a b c : Int) (har : zi_r a) (hbr : zi_r b) (hcr : zi_r c)  : zm_Met g mX10_ladder σ [.ref (g.2.2.1 0), zv_i a, zv_i b, zv_i c] (fun v τ => v = some (zv_i (zi_b ((0 ≤ a ∧ a ≤ 3) ∧ (0 ≤ b ∧ b ≤ 100000) ∧ (0 ≤ c ∧ c ≤ 100000)))) ∧ zy_i ((0 ≤ a ∧ a ≤ 3) ∧ (0 ≤ b ∧ b ≤ 100000) ∧ (0 ≤ c ∧ c ≤ 100000)) (σ = τ) (τ = zs_put (zs_put σ 42 a b) 43 a c)) := by
  refine zm_of (by decide +kernel) (Nat.le_of_ble_eq_true rfl) ?_
  intro k C hr
  show zw_W g mX10_ladder k 0 [(0, .ref (g.2.2.1 0)), (1, zv_i a), (2, zv_i b), (3, zv_i c)] [] σ
  refine zr_iload_n (pc := 0) C dX10_ladder_0 1 rfl ?_
  refine zr_iconst (pc := 1) C dX10_ladder_1 ?_
  refine zr_iconst (pc := 2) C dX10_ladder_2 ?_
  refine zr_callS (As := [zv_i a, zv_i 0, zv_i 3]) (rest := []) (pc := 3) C dX10_ladder_3 kX10_within sX10_11 rfl (by decide) rfl (Nat.le_of_ble_eq_true rfl) (m_within g σ a 0 3 (by omega) (by omega) (by omega)) (fun v_ τ_ h_ => ?_)
  obtain ⟨rfl, rfl⟩ := h_
  show zw_W g mX10_ladder k 6 [(0, .ref (g.2.2.1 0)), (1, zv_i a), (2, zv_i b), (3, zv_i c)] [zv_i (zi_b (0 ≤ a ∧ a ≤ 3))] σ
  refine zr_if_eq_b (pc := 6) C 29 dX10_ladder_6 (by decide) (fun h_1 => ?_) (fun h_1 => ?_)
  · refine zr_iconst (pc := 29) C dX10_ladder_29 ?_
    exact zr_zret (pc := 30) C hr dX10_ladder_30 rfl (by decide) (⟨zq_0 (by omega), zy_n (by omega) rfl⟩)
  · refine zr_iload_n (pc := 9) C dX10_ladder_9 2 rfl ?_
    refine zr_iconst (pc := 10) C dX10_ladder_10 ?_
    refine zr_ldc (v := 100000) (pc := 11) C 100000 dX10_ladder_11 (zt_mem 456 (by decide +kernel) rfl) (by decide) ?_
    refine zr_callS (As := [zv_i b, zv_i 0, zv_i 100000]) (rest := []) (pc := 13) C dX10_ladder_13 kX10_within sX10_11 rfl (by decide) rfl (Nat.le_of_ble_eq_true rfl) (m_within g σ b 0 100000 (by omega) (by omega) (by omega)) (fun v_ τ_ h_ => ?_)
    obtain ⟨rfl, rfl⟩ := h_
    show zw_W g mX10_ladder k 16 [(0, .ref (g.2.2.1 0)), (1, zv_i a), (2, zv_i b), (3, zv_i c)] [zv_i (zi_b (0 ≤ b ∧ b ≤ 100000))] σ
    refine zr_if_eq_b (pc := 16) C 29 dX10_ladder_16 (by decide) (fun h_2 => ?_) (fun h_2 => ?_)
    · refine zr_iconst (pc := 29) C dX10_ladder_29 ?_
      exact zr_zret (pc := 30) C hr dX10_ladder_30 rfl (by decide) (⟨zq_0 (by omega), zy_n (by omega) rfl⟩)
    · refine zr_iload_n (pc := 19) C dX10_ladder_19 3 rfl ?_
      refine zr_iconst (pc := 20) C dX10_ladder_20 ?_
      refine zr_ldc (v := 100000) (pc := 21) C 100000 dX10_ladder_21 (zt_mem 456 (by decide +kernel) rfl) (by decide) ?_
      refine zr_callS (As := [zv_i c, zv_i 0, zv_i 100000]) (rest := []) (pc := 23) C dX10_ladder_23 kX10_within sX10_11 rfl (by decide) rfl (Nat.le_of_ble_eq_true rfl) (m_within g σ c 0 100000 (by omega) (by omega) (by omega)) (fun v_ τ_ h_ => ?_)
      obtain ⟨rfl, rfl⟩ := h_
      show zw_W g mX10_ladder k 26 [(0, .ref (g.2.2.1 0)), (1, zv_i a), (2, zv_i b), (3, zv_i c)] [zv_i (zi_b (0 ≤ c ∧ c ≤ 100000))] σ
      refine zr_if_ne_b (pc := 26) C 31 dX10_ladder_26 (by decide) (fun h_3 => ?_) (fun h_3 => ?_)
      · refine zr_aload_n (pc := 31) C dX10_ladder_31 0 rfl ?_
        refine zr_get (v := .ref (g.2.2.1 40)) (pc := 32) C 5 (some (some 40)) dX10_ladder_32 fX10_48 (by decide) (hs_0 _) rfl rfl ?_
        refine zr_get (v := .ref (g.2.2.1 42)) (pc := 35) C 1 (some (some 42)) dX10_ladder_35 fX10_123 (by decide) (hs_40 _) rfl rfl ?_
        refine zr_iload_n (pc := 38) C dX10_ladder_38 1 rfl ?_
        refine zr_iload_n (pc := 39) C dX10_ladder_39 2 rfl ?_
        refine zr_iastore (pc := 40) C dX10_ladder_40 (by decide) (hs_42 _) (by omega) (by decide) (fun τ_4 e_5 => ?_)
        refine zr_aload_n (pc := 41) C dX10_ladder_41 0 rfl ?_
        refine zr_get (v := .ref (g.2.2.1 40)) (pc := 42) C 5 (some (some 40)) dX10_ladder_42 fX10_48 (by decide) (hs_0 _) rfl rfl ?_
        refine zr_get (v := .ref (g.2.2.1 43)) (pc := 45) C 2 (some (some 43)) dX10_ladder_45 fX10_126 (by decide) (hs_40 _) rfl rfl ?_
        refine zr_iload_n (pc := 48) C dX10_ladder_48 1 rfl ?_
        refine zr_iload_n (pc := 49) C dX10_ladder_49 3 rfl ?_
        refine zr_iastore (pc := 50) C dX10_ladder_50 (by decide) (hs_43 _) (by omega) (by decide) (fun τ_6 e_7 => ?_)
        refine zr_iconst (pc := 51) C dX10_ladder_51 ?_
        exact zr_zret (pc := 52) C hr dX10_ladder_52 rfl (by decide) (⟨zq_1 (by omega), zy_y (by omega) (by rw [e_7, e_5])⟩)
      · refine zr_iconst (pc := 29) C dX10_ladder_29 ?_
        exact zr_zret (pc := 30) C hr dX10_ladder_30 rfl (by decide) (⟨zq_0 (by omega), zy_n (by omega) rfl⟩)

set_option maxRecDepth 20000 in
set_option maxHeartbeats 4000000 in
theorem s_needNow (g : zg_G) (σ : zs_S) (a : Int) (har : zi_r a) : zm_Met g mX10_needNow σ [.ref (g.2.2.1 0), zv_i a] (fun v τ => v = some (zv_i (if 0 ≤ a ∧ a ≤ 5 then σ 41 a else -1)) ∧ σ = τ) := by
  refine zm_of (by decide +kernel) (Nat.le_of_ble_eq_true rfl) ?_
  intro k C hr
  show zw_W g mX10_needNow k 0 [(0, .ref (g.2.2.1 0)), (1, zv_i a)] [] σ
  refine zr_iload_n (pc := 0) C dX10_needNow_0 1 rfl ?_
  refine zr_iconst (pc := 1) C dX10_needNow_1 ?_
  refine zr_iconst (pc := 2) C dX10_needNow_2 ?_
  refine zr_callS (As := [zv_i a, zv_i 0, zv_i 5]) (rest := []) (pc := 3) C dX10_needNow_3 kX10_within sX10_11 rfl (by decide) rfl (Nat.le_of_ble_eq_true rfl) (m_within g σ a 0 5 (by omega) (by omega) (by omega)) (fun v_ τ_ h_ => ?_)
  obtain ⟨rfl, rfl⟩ := h_
  show zw_W g mX10_needNow k 6 [(0, .ref (g.2.2.1 0)), (1, zv_i a)] [zv_i (zi_b (0 ≤ a ∧ a ≤ 5))] σ
  refine zr_if_eq_b (pc := 6) C 21 dX10_needNow_6 (by decide) (fun h_1 => ?_) (fun h_1 => ?_)
  · refine zr_iconst (pc := 21) C dX10_needNow_21 ?_
    exact zr_iret (pc := 22) C hr dX10_needNow_22 rfl (⟨zq_i (by rw [if_neg (by omega)]), rfl⟩)
  · refine zr_aload_n (pc := 9) C dX10_needNow_9 0 rfl ?_
    refine zr_get (v := .ref (g.2.2.1 40)) (pc := 10) C 5 (some (some 40)) dX10_needNow_10 fX10_48 (by decide) (hs_0 _) rfl rfl ?_
    refine zr_get (v := .ref (g.2.2.1 41)) (pc := 13) C 0 (some (some 41)) dX10_needNow_13 fX10_117 (by decide) (hs_40 _) rfl rfl ?_
    refine zr_iload_n (pc := 16) C dX10_needNow_16 1 rfl ?_
    refine zr_iaload (pc := 17) C dX10_needNow_17 (by decide) (hs_41 _) (by omega) (by decide) ?_
    refine zr_goto (pc := 18) C 22 dX10_needNow_18 (by decide) ?_
    exact zr_iret (pc := 22) C hr dX10_needNow_22 rfl (⟨zq_i (by rw [if_pos (by omega)]), rfl⟩)

set_option maxRecDepth 20000 in
set_option maxHeartbeats 4000000 in
theorem s_buck (g : zg_G) (σ : zs_S) (n : Int) (hg : (g.2.2.2 : Int) = n) (q b : Nat) (hq : zs_q q) (hb : zs_q b) (hqb : q ≠ b) (hb4 : σ 1 4 = b) (hs5 : σ 1 5 = q) (hS : ks_s σ n) (hK : ks_k σ) (h20 : σ 20 (n + 1) = 0) : zm_Met g mX10_buck σ [.ref (g.2.2.1 0)] (fun v τ => ∃ r B K l, v = some (zv_i r) ∧ bk_O σ τ n q b B K l r) := by
  refine zm_of (by decide +kernel) (Nat.le_of_ble_eq_true rfl) ?_
  intro k C hr
  show zw_W g mX10_buck k 0 [(0, .ref (g.2.2.1 0))] [] σ
  refine zr_aload_n (pc := 0) C dX10_buck_0 0 rfl ?_
  refine zr_get (v := .ref (g.2.2.1 1)) (pc := 1) C 0 (some (some 1)) dX10_buck_1 fX10_18 (by decide) (hs_0 _) rfl rfl ?_
  refine zr_callV (As := []) (rest := []) (b := 1) (pc := 4) C dX10_buck_4 kX1_cutBest vX10_80 rfl (by decide) (by decide) (hs_1 _) rfl (Nat.le_of_ble_eq_true rfl) (m_cutBest g σ n hg q b hq hb hqb hS hK hb4 hs5 h20) (fun v_ τ_ h_ => ?_)
  obtain ⟨r0, B0, K0, l0, rfl, h_2⟩ := h_
  show zw_W g mX10_buck k 7 [(0, .ref (g.2.2.1 0))] [zv_i r0] τ_
  exact zr_iret (pc := 7) C hr dX10_buck_7 rfl (⟨r0, B0, K0, l0, rfl, h_2⟩)

set_option maxRecDepth 20000 in
set_option maxHeartbeats 4000000 in
theorem s_byHand (g : zg_G) (σ : zs_S) (n : Int) (hg : (g.2.2.2 : Int) = n) (w : Int64) (q b : Nat) (hq : zs_q q) (hb : zs_q b) (hqb : q ≠ b) (hb4 : σ 1 4 = b) (hs5 : σ 1 5 = q) (hS : ks_s σ n) (hK : ks_k σ) : zm_Met g mX10_byHand σ [.ref (g.2.2.1 0), .long w] (fun v τ => (by_f σ n w 8 = none → v = some (zv_i (-1)) ∧ zf_x σ τ [5, 6, q, q + 1]) ∧ (∀ f l, by_f σ n w 8 = some (f, l) → v = some (zv_i (bk_S σ l)) ∧ τ q 0 = l.length ∧ (l.length : Int) ≤ 8 ∧ bk_R σ (τ (q + 1)) l ∧ bk_W σ n (n + 1) l ∧ τ 1 4 = q ∧ τ 1 5 = b ∧ zf_x σ τ [1, 5, 6, q, q + 1])) := by
  refine zm_of (by decide +kernel) (Nat.le_of_ble_eq_true rfl) ?_
  intro k C hr
  show zw_W g mX10_byHand k 0 [(0, .ref (g.2.2.1 0)), (1, .long w)] [] σ
  refine zr_aload_n (pc := 0) C dX10_byHand_0 0 rfl ?_
  refine zr_get (v := .ref (g.2.2.1 1)) (pc := 1) C 0 (some (some 1)) dX10_byHand_1 fX10_18 (by decide) (hs_0 _) rfl rfl ?_
  refine zr_lload_n (pc := 4) C dX10_byHand_4 1 rfl ?_
  refine zr_callV (As := [.long w]) (rest := []) (b := 1) (pc := 5) C dX10_byHand_5 kX1_cutAsTold vX10_84 rfl (by decide) (by decide) (hs_1 _) rfl (Nat.le_of_ble_eq_true rfl) (m_cutAsTold g σ n hg w q b hq hb hqb hS hK hb4 hs5) (fun v_ τ_ h_ => ?_)
  obtain ⟨r0, hr0⟩ : ∃ r, v_ = some (zv_i r) := by
    cases hf : by_f σ n w 8 with
    | none => exact ⟨-1, (h_.1 hf).1⟩
    | some z => exact ⟨bk_S σ z.2, (h_.2 z.1 z.2 hf).1⟩
  subst hr0
  have h_1 := h_
  show zw_W g mX10_byHand k 8 [(0, .ref (g.2.2.1 0)), (1, .long w)] [zv_i r0] τ_
  exact zr_iret (pc := 8) C hr dX10_byHand_8 rfl (h_1)

set_option maxRecDepth 20000 in
set_option maxHeartbeats 4000000 in
theorem s_logs (g : zg_G) (σ : zs_S) (b : Nat) (hb : zs_q b) (hb4 : σ 1 4 = b) : zm_Met g mX10_logs σ [.ref (g.2.2.1 0)] (fun v τ => v = some (zv_i (σ b 0)) ∧ σ = τ) := by
  refine zm_of (by decide +kernel) (Nat.le_of_ble_eq_true rfl) ?_
  intro k C hr
  show zw_W g mX10_logs k 0 [(0, .ref (g.2.2.1 0))] [] σ
  refine zr_aload_n (pc := 0) C dX10_logs_0 0 rfl ?_
  refine zr_get (v := .ref (g.2.2.1 1)) (pc := 1) C 0 (some (some 1)) dX10_logs_1 fX10_18 (by decide) (hs_0 _) rfl rfl ?_
  refine zr_get (v := .ref (g.2.2.1 (σ 1 4).toNat)) (pc := 4) C 4 (some none) dX10_logs_4 fX10_88 (by decide) (hs_1 _) rfl rfl ?_
  rw [hb4]
  show zw_W g mX10_logs k 7 [(0, .ref (g.2.2.1 0))] [.ref (g.2.2.1 (b))] σ
  refine zr_get (v := zv_i (σ b 0)) (pc := 7) C 0 none dX10_logs_7 fX10_92 (hn_cut hb) (hs_cut hb) rfl rfl ?_
  exact zr_iret (pc := 10) C hr dX10_logs_10 rfl (⟨rfl, rfl⟩)

set_option maxRecDepth 20000 in
set_option maxHeartbeats 4000000 in
theorem s_log (g : zg_G) (σ : zs_S) (a c : Int) (har : zi_r a) (hcr : zi_r c) (b : Nat) (hb : zs_q b) (hb4 : σ 1 4 = b) (hc : 0 ≤ σ b 0 ∧ σ b 0 ≤ 40) (ha : (0 ≤ a ∧ a ≤ σ b 0 - 1) ∧ (0 ≤ c ∧ c ≤ 5)) : zm_Met g mX10_log σ [.ref (g.2.2.1 0), zv_i a, zv_i c] (fun v τ => v = some (zv_i (σ (b + 1) (a * 6 + c))) ∧ σ = τ) := by
  refine zm_of (by decide +kernel) (Nat.le_of_ble_eq_true rfl) ?_
  intro k C hr
  show zw_W g mX10_log k 0 [(0, .ref (g.2.2.1 0)), (1, zv_i a), (2, zv_i c)] [] σ
  refine zr_aload_n (pc := 0) C dX10_log_0 0 rfl ?_
  refine zr_get (v := .ref (g.2.2.1 1)) (pc := 1) C 0 (some (some 1)) dX10_log_1 fX10_18 (by decide) (hs_0 _) rfl rfl ?_
  refine zr_get (v := .ref (g.2.2.1 (σ 1 4).toNat)) (pc := 4) C 4 (some none) dX10_log_4 fX10_88 (by decide) (hs_1 _) rfl rfl ?_
  rw [hb4]
  show zw_W g mX10_log k 7 [(0, .ref (g.2.2.1 0)), (1, zv_i a), (2, zv_i c)] [.ref (g.2.2.1 (b))] σ
  refine zr_astore_n (L' := [(3, .ref (g.2.2.1 (b))), (0, .ref (g.2.2.1 0)), (1, zv_i a), (2, zv_i c)]) (pc := 7) C dX10_log_7 (by decide) rfl ?_
  refine zr_iload_n (pc := 8) C dX10_log_8 2 rfl ?_
  refine zr_iconst (pc := 9) C dX10_log_9 ?_
  refine zr_aload_n (pc := 10) C dX10_log_10 0 rfl ?_
  refine zr_get (v := zv_i (σ b 0)) (pc := 11) C 0 none dX10_log_11 fX10_92 (hn_cut hb) (hs_cut hb) rfl rfl ?_
  refine zr_iconst (pc := 14) C dX10_log_14 ?_
  refine zr_isub (pc := 15) C dX10_log_15 ?_
  refine zr_callS (As := [zv_i a, zv_i 0, zv_i ((σ b 0) - 1)]) (rest := []) (pc := 16) C dX10_log_16 kX10_within sX10_11 rfl (by decide) rfl (Nat.le_of_ble_eq_true rfl) (m_within g σ a 0 ((σ b 0) - 1) (by omega) (by omega) (by omega)) (fun v_ τ_ h_ => ?_)
  obtain ⟨rfl, rfl⟩ := h_
  show zw_W g mX10_log k 19 [(3, .ref (g.2.2.1 (b))), (0, .ref (g.2.2.1 0)), (1, zv_i a), (2, zv_i c)] [zv_i (zi_b (0 ≤ a ∧ a ≤ ((σ b 0) - 1)))] σ
  refine zr_if_eq_b (pc := 19) C 31 dX10_log_19 (by decide) (fun h_1 => ?_) (fun h_1 => ?_)
  · exact absurd ha.1 h_1
  · refine zr_iload_n (pc := 22) C dX10_log_22 3 rfl ?_
    refine zr_iconst (pc := 23) C dX10_log_23 ?_
    refine zr_iconst (pc := 24) C dX10_log_24 ?_
    refine zr_callS (As := [zv_i c, zv_i 0, zv_i 5]) (rest := []) (pc := 25) C dX10_log_25 kX10_within sX10_11 rfl (by decide) rfl (Nat.le_of_ble_eq_true rfl) (m_within g σ c 0 5 (by omega) (by omega) (by omega)) (fun v_ τ_ h_ => ?_)
    obtain ⟨rfl, rfl⟩ := h_
    show zw_W g mX10_log k 28 [(3, .ref (g.2.2.1 (b))), (0, .ref (g.2.2.1 0)), (1, zv_i a), (2, zv_i c)] [zv_i (zi_b (0 ≤ c ∧ c ≤ 5))] σ
    refine zr_if_ne_b (pc := 28) C 39 dX10_log_28 (by decide) (fun h_2 => ?_) (fun h_2 => ?_)
    · refine zr_aload_n (pc := 39) C dX10_log_39 0 rfl ?_
      refine zr_iload_n (pc := 40) C dX10_log_40 2 rfl ?_
      refine zr_iload_n (pc := 41) C dX10_log_41 3 rfl ?_
      refine zr_callV (As := [zv_i a, zv_i c]) (rest := []) (b := b) (pc := 42) C dX10_log_42 kX3_fact vX10_100 rfl (by decide) (hn_cut hb) (hs_cut hb) rfl (Nat.le_of_ble_eq_true rfl) (m_fact g σ b hb a c (by omega)) (fun v_ τ_ h_ => ?_)
      obtain ⟨rfl, rfl⟩ := h_
      show zw_W g mX10_log k 45 [(3, .ref (g.2.2.1 (b))), (0, .ref (g.2.2.1 0)), (1, zv_i a), (2, zv_i c)] [zv_i (σ (b + 1) (a * 6 + c))] σ
      exact zr_iret (pc := 45) C hr dX10_log_45 rfl (⟨rfl, rfl⟩)
    · exact absurd ha.2 h_2

set_option maxRecDepth 20000 in
set_option maxHeartbeats 4000000 in
theorem s_saw (g : zg_G) (σ : zs_S) (a : Int) (har : zi_r a) (b : Nat) (hb : zs_q b) (hb4 : σ 1 4 = b) (hc : 0 ≤ σ b 0 ∧ σ b 0 ≤ 40) (ha : 0 ≤ a ∧ a ≤ σ b 0 - 1) (p u : Nat) (hp : zs_p p) (hu : zs_p u) (hpu : u ≠ p) (h6 : σ 26 6 = u) (h7 : σ 26 7 = p) (hI : sw_I σ) (hJ : ch_J σ) (ht : 0 ≤ σ (b + 1) (a * 6 + 2) ∧ σ (b + 1) (a * 6 + 2) ≤ 900) (hgr : 1 ≤ σ (b + 1) (a * 6 + 4) ∧ σ (b + 1) (a * 6 + 4) ≤ 3) : zm_Met g mX10_saw σ [.ref (g.2.2.1 0), zv_i a] (fun v τ => ∃ h x l1 l2 u' p', v = some (zv_i x) ∧ sw_O σ τ (10 * σ (b + 1) (a * 6 + 2)) (σ (b + 1) (a * 6 + 4)) h x l1 l2 u' p') := by
  refine zm_of (by decide +kernel) (Nat.le_of_ble_eq_true rfl) ?_
  intro k C hr
  show zw_W g mX10_saw k 0 [(0, .ref (g.2.2.1 0)), (1, zv_i a)] [] σ
  refine zr_aload_n (pc := 0) C dX10_saw_0 0 rfl ?_
  refine zr_get (v := .ref (g.2.2.1 1)) (pc := 1) C 0 (some (some 1)) dX10_saw_1 fX10_18 (by decide) (hs_0 _) rfl rfl ?_
  refine zr_get (v := .ref (g.2.2.1 (σ 1 4).toNat)) (pc := 4) C 4 (some none) dX10_saw_4 fX10_88 (by decide) (hs_1 _) rfl rfl ?_
  rw [hb4]
  show zw_W g mX10_saw k 7 [(0, .ref (g.2.2.1 0)), (1, zv_i a)] [.ref (g.2.2.1 (b))] σ
  refine zr_astore_n (L' := [(2, .ref (g.2.2.1 (b))), (0, .ref (g.2.2.1 0)), (1, zv_i a)]) (pc := 7) C dX10_saw_7 (by decide) rfl ?_
  refine zr_iload_n (pc := 8) C dX10_saw_8 2 rfl ?_
  refine zr_iconst (pc := 9) C dX10_saw_9 ?_
  refine zr_aload_n (pc := 10) C dX10_saw_10 0 rfl ?_
  refine zr_get (v := zv_i (σ b 0)) (pc := 11) C 0 none dX10_saw_11 fX10_92 (hn_cut hb) (hs_cut hb) rfl rfl ?_
  refine zr_iconst (pc := 14) C dX10_saw_14 ?_
  refine zr_isub (pc := 15) C dX10_saw_15 ?_
  refine zr_callS (As := [zv_i a, zv_i 0, zv_i ((σ b 0) - 1)]) (rest := []) (pc := 16) C dX10_saw_16 kX10_within sX10_11 rfl (by decide) rfl (Nat.le_of_ble_eq_true rfl) (m_within g σ a 0 ((σ b 0) - 1) (by omega) (by omega) (by omega)) (fun v_ τ_ h_ => ?_)
  obtain ⟨rfl, rfl⟩ := h_
  show zw_W g mX10_saw k 19 [(2, .ref (g.2.2.1 (b))), (0, .ref (g.2.2.1 0)), (1, zv_i a)] [zv_i (zi_b (0 ≤ a ∧ a ≤ ((σ b 0) - 1)))] σ
  refine zr_if_ne_b (pc := 19) C 30 dX10_saw_19 (by decide) (fun h_1 => ?_) (fun h_1 => ?_)
  · refine zr_aload_n (pc := 30) C dX10_saw_30 1 rfl ?_
    refine zr_get (v := .ref (g.2.2.1 26)) (pc := 31) C 3 (some (some 26)) dX10_saw_31 fX10_35 (by decide) (hs_0 _) rfl rfl ?_
    refine zr_aload_n (pc := 34) C dX10_saw_34 0 rfl ?_
    refine zr_iload_n (pc := 35) C dX10_saw_35 2 rfl ?_
    refine zr_iconst (pc := 36) C dX10_saw_36 ?_
    refine zr_callV (As := [zv_i a, zv_i 2]) (rest := [.ref (g.2.2.1 26)]) (b := b) (pc := 37) C dX10_saw_37 kX3_fact vX10_100 rfl (by decide) (hn_cut hb) (hs_cut hb) rfl (Nat.le_of_ble_eq_true rfl) (m_fact g σ b hb a 2 (by omega)) (fun v_ τ_ h_ => ?_)
    obtain ⟨rfl, rfl⟩ := h_
    show zw_W g mX10_saw k 40 [(2, .ref (g.2.2.1 (b))), (0, .ref (g.2.2.1 0)), (1, zv_i a)] [zv_i (σ (b + 1) (a * 6 + 2)), .ref (g.2.2.1 26)] σ
    refine zr_aload_n (pc := 40) C dX10_saw_40 0 rfl ?_
    refine zr_iload_n (pc := 41) C dX10_saw_41 2 rfl ?_
    refine zr_iconst (pc := 42) C dX10_saw_42 ?_
    refine zr_callV (As := [zv_i a, zv_i 4]) (rest := [zv_i (σ (b + 1) (a * 6 + 2)), .ref (g.2.2.1 26)]) (b := b) (pc := 43) C dX10_saw_43 kX3_fact vX10_100 rfl (by decide) (hn_cut hb) (hs_cut hb) rfl (Nat.le_of_ble_eq_true rfl) (m_fact g σ b hb a 4 (by omega)) (fun v_ τ_ h_ => ?_)
    obtain ⟨rfl, rfl⟩ := h_
    show zw_W g mX10_saw k 46 [(2, .ref (g.2.2.1 (b))), (0, .ref (g.2.2.1 0)), (1, zv_i a)] [zv_i (σ (b + 1) (a * 6 + 4)), zv_i (σ (b + 1) (a * 6 + 2)), .ref (g.2.2.1 26)] σ
    refine zr_callV (As := [zv_i (σ (b + 1) (a * 6 + 2)), zv_i (σ (b + 1) (a * 6 + 4))]) (rest := []) (b := 26) (pc := 46) C dX10_saw_46 kX8_sawThrough vX10_129 rfl (by decide) (by decide) (hs_26 _) rfl (Nat.le_of_ble_eq_true rfl) (m_sawThrough g σ p u hp hu hpu (σ (b + 1) (a * 6 + 2)) (σ (b + 1) (a * 6 + 4)) (by omega) (by omega) h6 h7 hI hJ) (fun v_ τ_ h_ => ?_)
    obtain ⟨ht0, x0, l1, l2, u1, p1, rfl, h_2⟩ := h_
    show zw_W g mX10_saw k 49 [(2, .ref (g.2.2.1 (b))), (0, .ref (g.2.2.1 0)), (1, zv_i a)] [zv_i x0] τ_
    exact zr_iret (pc := 49) C hr dX10_saw_49 rfl (⟨ht0, x0, l1, l2, u1, p1, rfl, h_2⟩)
  · exact absurd ha h_1

set_option maxRecDepth 20000 in
set_option maxHeartbeats 4000000 in
theorem s_boards (g : zg_G) (σ : zs_S) (u : Nat) (hu : zs_p u) (h6 : σ 26 6 = u) (hI : pa_I σ u) : zm_Met g mX10_boards σ [.ref (g.2.2.1 0)] (fun v τ => v = some (zv_i (pa_n σ u)) ∧ σ = τ) := by
  refine zm_of (by decide +kernel) (Nat.le_of_ble_eq_true rfl) ?_
  intro k C hr
  show zw_W g mX10_boards k 0 [(0, .ref (g.2.2.1 0))] [] σ
  refine zr_aload_n (pc := 0) C dX10_boards_0 0 rfl ?_
  refine zr_get (v := .ref (g.2.2.1 26)) (pc := 1) C 3 (some (some 26)) dX10_boards_1 fX10_35 (by decide) (hs_0 _) rfl rfl ?_
  refine zr_get (v := .ref (g.2.2.1 (σ 26 6).toNat)) (pc := 4) C 6 (some none) dX10_boards_4 fX10_132 (by decide) (hs_26 _) rfl rfl ?_
  rw [h6]
  show zw_W g mX10_boards k 7 [(0, .ref (g.2.2.1 0))] [.ref (g.2.2.1 (u))] σ
  refine zr_callV (As := []) (rest := []) (b := u) (pc := 7) C dX10_boards_7 kX7_count vX10_136 rfl (by decide) (hn_pat hu) (hs_pat hu) rfl (Nat.le_of_ble_eq_true rfl) (m_count g σ u hu (by exact hI)) (fun v_ τ_ h_ => ?_)
  obtain ⟨rfl, rfl⟩ := h_
  show zw_W g mX10_boards k 10 [(0, .ref (g.2.2.1 0))] [zv_i (pa_n σ u)] σ
  exact zr_iret (pc := 10) C hr dX10_boards_10 rfl (⟨rfl, rfl⟩)

set_option maxRecDepth 20000 in
set_option maxHeartbeats 4000000 in
theorem s_board (g : zg_G) (σ : zs_S) (a c : Int) (har : zi_r a) (hcr : zi_r c) (u : Nat) (hu : zs_p u) (h6 : σ 26 6 = u) (hI : pa_I σ u) (hn : 0 ≤ pa_n σ u ∧ pa_n σ u ≤ 360) (ha : (0 ≤ a ∧ a ≤ pa_n σ u - 1) ∧ (0 ≤ c ∧ c ≤ 3)) : zm_Met g mX10_board σ [.ref (g.2.2.1 0), zv_i a, zv_i c] (fun v τ => v = some (zv_i (pa_F σ u a c)) ∧ σ = τ) := by
  refine zm_of (by decide +kernel) (Nat.le_of_ble_eq_true rfl) ?_
  intro k C hr
  show zw_W g mX10_board k 0 [(0, .ref (g.2.2.1 0)), (1, zv_i a), (2, zv_i c)] [] σ
  refine zr_aload_n (pc := 0) C dX10_board_0 0 rfl ?_
  refine zr_get (v := .ref (g.2.2.1 26)) (pc := 1) C 3 (some (some 26)) dX10_board_1 fX10_35 (by decide) (hs_0 _) rfl rfl ?_
  refine zr_get (v := .ref (g.2.2.1 (σ 26 6).toNat)) (pc := 4) C 6 (some none) dX10_board_4 fX10_132 (by decide) (hs_26 _) rfl rfl ?_
  rw [h6]
  show zw_W g mX10_board k 7 [(0, .ref (g.2.2.1 0)), (1, zv_i a), (2, zv_i c)] [.ref (g.2.2.1 (u))] σ
  refine zr_astore_n (L' := [(3, .ref (g.2.2.1 (u))), (0, .ref (g.2.2.1 0)), (1, zv_i a), (2, zv_i c)]) (pc := 7) C dX10_board_7 (by decide) rfl ?_
  refine zr_iload_n (pc := 8) C dX10_board_8 2 rfl ?_
  refine zr_iconst (pc := 9) C dX10_board_9 ?_
  refine zr_aload_n (pc := 10) C dX10_board_10 0 rfl ?_
  refine zr_callV (As := []) (rest := [zv_i 0, zv_i a]) (b := u) (pc := 11) C dX10_board_11 kX7_count vX10_136 rfl (by decide) (hn_pat hu) (hs_pat hu) rfl (Nat.le_of_ble_eq_true rfl) (m_count g σ u hu (by exact hI)) (fun v_ τ_ h_ => ?_)
  obtain ⟨rfl, rfl⟩ := h_
  show zw_W g mX10_board k 14 [(3, .ref (g.2.2.1 (u))), (0, .ref (g.2.2.1 0)), (1, zv_i a), (2, zv_i c)] [zv_i (pa_n σ u), zv_i 0, zv_i a] σ
  refine zr_iconst (pc := 14) C dX10_board_14 ?_
  refine zr_isub (pc := 15) C dX10_board_15 ?_
  refine zr_callS (As := [zv_i a, zv_i 0, zv_i ((pa_n σ u) - 1)]) (rest := []) (pc := 16) C dX10_board_16 kX10_within sX10_11 rfl (by decide) rfl (Nat.le_of_ble_eq_true rfl) (m_within g σ a 0 ((pa_n σ u) - 1) (by omega) (by omega) (by omega)) (fun v_ τ_ h_ => ?_)
  obtain ⟨rfl, rfl⟩ := h_
  show zw_W g mX10_board k 19 [(3, .ref (g.2.2.1 (u))), (0, .ref (g.2.2.1 0)), (1, zv_i a), (2, zv_i c)] [zv_i (zi_b (0 ≤ a ∧ a ≤ ((pa_n σ u) - 1)))] σ
  refine zr_if_eq_b (pc := 19) C 31 dX10_board_19 (by decide) (fun h_1 => ?_) (fun h_1 => ?_)
  · exact absurd ha.1 h_1
  · refine zr_iload_n (pc := 22) C dX10_board_22 3 rfl ?_
    refine zr_iconst (pc := 23) C dX10_board_23 ?_
    refine zr_iconst (pc := 24) C dX10_board_24 ?_
    refine zr_callS (As := [zv_i c, zv_i 0, zv_i 3]) (rest := []) (pc := 25) C dX10_board_25 kX10_within sX10_11 rfl (by decide) rfl (Nat.le_of_ble_eq_true rfl) (m_within g σ c 0 3 (by omega) (by omega) (by omega)) (fun v_ τ_ h_ => ?_)
    obtain ⟨rfl, rfl⟩ := h_
    show zw_W g mX10_board k 28 [(3, .ref (g.2.2.1 (u))), (0, .ref (g.2.2.1 0)), (1, zv_i a), (2, zv_i c)] [zv_i (zi_b (0 ≤ c ∧ c ≤ 3))] σ
    refine zr_if_ne_b (pc := 28) C 39 dX10_board_28 (by decide) (fun h_2 => ?_) (fun h_2 => ?_)
    · refine zr_aload_n (pc := 39) C dX10_board_39 0 rfl ?_
      refine zr_iload_n (pc := 40) C dX10_board_40 2 rfl ?_
      refine zr_iload_n (pc := 41) C dX10_board_41 3 rfl ?_
      refine zr_callV (As := [zv_i a, zv_i c]) (rest := []) (b := u) (pc := 42) C dX10_board_42 kX7_fact vX10_140 rfl (by decide) (hn_pat hu) (hs_pat hu) rfl (Nat.le_of_ble_eq_true rfl) (m_pfact g σ u hu a c (by omega) hI (by omega)) (fun v_ τ_ h_ => ?_)
      obtain ⟨rfl, rfl⟩ := h_
      show zw_W g mX10_board k 45 [(3, .ref (g.2.2.1 (u))), (0, .ref (g.2.2.1 0)), (1, zv_i a), (2, zv_i c)] [zv_i (pa_F σ u a c)] σ
      exact zr_iret (pc := 45) C hr dX10_board_45 rfl (⟨rfl, rfl⟩)
    · exact absurd ha.2 h_2

set_option maxRecDepth 20000 in
set_option maxHeartbeats 4000000 in
theorem s_cant (g : zg_G) (σ : zs_S) (u : Nat) (hu : zs_p u) (h6 : σ 26 6 = u) : zm_Met g mX10_cant σ [.ref (g.2.2.1 0)] (fun v τ => v = some (zv_i (σ u 0)) ∧ σ = τ) := by
  refine zm_of (by decide +kernel) (Nat.le_of_ble_eq_true rfl) ?_
  intro k C hr
  show zw_W g mX10_cant k 0 [(0, .ref (g.2.2.1 0))] [] σ
  refine zr_aload_n (pc := 0) C dX10_cant_0 0 rfl ?_
  refine zr_get (v := .ref (g.2.2.1 26)) (pc := 1) C 3 (some (some 26)) dX10_cant_1 fX10_35 (by decide) (hs_0 _) rfl rfl ?_
  refine zr_get (v := .ref (g.2.2.1 (σ 26 6).toNat)) (pc := 4) C 6 (some none) dX10_cant_4 fX10_132 (by decide) (hs_26 _) rfl rfl ?_
  rw [h6]
  show zw_W g mX10_cant k 7 [(0, .ref (g.2.2.1 0))] [.ref (g.2.2.1 (u))] σ
  refine zr_get (v := zv_i (σ u 0)) (pc := 7) C 0 none dX10_cant_7 fX10_141 (hn_pat hu) (hs_pat hu) rfl rfl ?_
  exact zr_iret (pc := 10) C hr dX10_cant_10 rfl (⟨rfl, rfl⟩)

set_option maxRecDepth 20000 in
set_option maxHeartbeats 4000000 in
theorem s_fits (g : zg_G) (σ : zs_S) (a b c : Int) (har : zi_r a) (hbr : zi_r b) (hcr : zi_r c) (hI : sw_I σ) : zm_Met g mX10_fits σ [.ref (g.2.2.1 0), zv_i a, zv_i b, zv_i c] (fun v τ => v = some (zv_i (zi_b ((((0 ≤ a ∧ a ≤ 5) ∧ 0 < σ (28 + 2 * a.toNat) 0) ∧ (1 ≤ b ∧ b ≤ 200) ∧ (50 ≤ c ∧ c ≤ 900)) ∧ b * σ (28 + 2 * a.toNat) 0 + (b - 1) * σ 26 3 ≤ ro_m (10 * c) (σ (28 + 2 * a.toNat) 1)))) ∧ σ = τ) := by
  refine zm_of (by decide +kernel) (Nat.le_of_ble_eq_true rfl) ?_
  intro k C hr
  show zw_W g mX10_fits k 0 [(0, .ref (g.2.2.1 0)), (1, zv_i a), (2, zv_i b), (3, zv_i c)] [] σ
  refine zr_aload_n (pc := 0) C dX10_fits_0 0 rfl ?_
  refine zr_iload_n (pc := 1) C dX10_fits_1 1 rfl ?_
  refine zr_callV (As := [zv_i a]) (rest := []) (b := 0) (pc := 2) C dX10_fits_2 kX10_isToldSize vX10_106 rfl (by decide) (by decide) (hs_0 _) rfl (Nat.le_of_ble_eq_true rfl) (s_told g σ a (by omega) hI) (fun v_ τ_ h_ => ?_)
  obtain ⟨rfl, rfl⟩ := h_
  show zw_W g mX10_fits k 5 [(0, .ref (g.2.2.1 0)), (1, zv_i a), (2, zv_i b), (3, zv_i c)] [zv_i (zi_b ((0 ≤ a ∧ a ≤ 5) ∧ 0 < σ (28 + 2 * a.toNat) 0))] σ
  refine zr_if_eq_b (pc := 5) C 31 dX10_fits_5 (by decide) (fun h_1 => ?_) (fun h_1 => ?_)
  · refine zr_iconst (pc := 31) C dX10_fits_31 ?_
    exact zr_zret (pc := 32) C hr dX10_fits_32 rfl (by decide) (⟨zq_0 (by omega), rfl⟩)
  · refine zr_iload_n (pc := 8) C dX10_fits_8 2 rfl ?_
    refine zr_iconst (pc := 9) C dX10_fits_9 ?_
    refine zr_sipush (pc := 10) C dX10_fits_10 (by decide) ?_
    refine zr_callS (As := [zv_i b, zv_i 1, zv_i 200]) (rest := []) (pc := 13) C dX10_fits_13 kX10_within sX10_11 rfl (by decide) rfl (Nat.le_of_ble_eq_true rfl) (m_within g σ b 1 200 (by omega) (by omega) (by omega)) (fun v_ τ_ h_ => ?_)
    obtain ⟨rfl, rfl⟩ := h_
    show zw_W g mX10_fits k 16 [(0, .ref (g.2.2.1 0)), (1, zv_i a), (2, zv_i b), (3, zv_i c)] [zv_i (zi_b (1 ≤ b ∧ b ≤ 200))] σ
    refine zr_if_eq_b (pc := 16) C 31 dX10_fits_16 (by decide) (fun h_2 => ?_) (fun h_2 => ?_)
    · refine zr_iconst (pc := 31) C dX10_fits_31 ?_
      exact zr_zret (pc := 32) C hr dX10_fits_32 rfl (by decide) (⟨zq_0 (by omega), rfl⟩)
    · refine zr_iload_n (pc := 19) C dX10_fits_19 3 rfl ?_
      refine zr_bipush (pc := 20) C dX10_fits_20 (by decide) ?_
      refine zr_sipush (pc := 22) C dX10_fits_22 (by decide) ?_
      refine zr_callS (As := [zv_i c, zv_i 50, zv_i 900]) (rest := []) (pc := 25) C dX10_fits_25 kX10_within sX10_11 rfl (by decide) rfl (Nat.le_of_ble_eq_true rfl) (m_within g σ c 50 900 (by omega) (by omega) (by omega)) (fun v_ τ_ h_ => ?_)
      obtain ⟨rfl, rfl⟩ := h_
      show zw_W g mX10_fits k 28 [(0, .ref (g.2.2.1 0)), (1, zv_i a), (2, zv_i b), (3, zv_i c)] [zv_i (zi_b (50 ≤ c ∧ c ≤ 900))] σ
      refine zr_if_ne_b (pc := 28) C 33 dX10_fits_28 (by decide) (fun h_3 => ?_) (fun h_3 => ?_)
      · have kb := hI.1 a (by omega) (by omega)
        have g1 := hI.2.1
        have m1 : 0 ≤ b * σ (28 + 2 * a.toNat) 0 := Int.mul_nonneg (by omega) (by omega)
        have m2 : b * σ (28 + 2 * a.toNat) 0 ≤ 200 * 4000 := Int.mul_le_mul (by omega) (by omega) (by omega) (by decide)
        have m3 : 0 ≤ (b - 1) * σ 26 3 := Int.mul_nonneg (by omega) (by omega)
        have m4 : (b - 1) * σ 26 3 ≤ 199 * 100 := Int.mul_le_mul (by omega) (by omega) (by omega) (by decide)
        have rb := ro_mb (a := 10 * c) (b := σ (28 + 2 * a.toNat) 1) (by omega) (by omega)
        refine zr_aload_n (pc := 33) C dX10_fits_33 0 rfl ?_
        refine zr_get (v := .ref (g.2.2.1 27)) (pc := 34) C 4 (some (some 27)) dX10_fits_34 fX10_43 (by decide) (hs_0 _) rfl rfl ?_
        refine zr_iload_n (pc := 37) C dX10_fits_37 1 rfl ?_
        refine zr_aaload (pc := 38) C dX10_fits_38 (by decide) (hs_27 _) (by decide) (by omega) (by decide) ?_
        show zw_W g mX10_fits k 39 [(0, .ref (g.2.2.1 0)), (1, zv_i a), (2, zv_i b), (3, zv_i c)] [.ref (g.2.2.1 (28 + 2 * a.toNat))] σ
        refine zr_astore (L' := [(4, .ref (g.2.2.1 (28 + 2 * a.toNat))), (0, .ref (g.2.2.1 0)), (1, zv_i a), (2, zv_i b), (3, zv_i c)]) (pc := 39) C dX10_fits_39 (by decide) rfl ?_
        refine zr_iload_n (pc := 41) C dX10_fits_41 3 rfl ?_
        refine zr_aload (pc := 42) C dX10_fits_42 0 rfl ?_
        refine zr_get (v := zv_i (σ (28 + 2 * a.toNat) 0)) (pc := 44) C 0 none dX10_fits_44 fX10_144 (hn_size (by omega)) (hs_size (by omega)) rfl rfl ?_
        refine zr_imul (pc := 47) C dX10_fits_47 ?_
        refine zr_iload_n (pc := 48) C dX10_fits_48 3 rfl ?_
        refine zr_iconst (pc := 49) C dX10_fits_49 ?_
        refine zr_isub (pc := 50) C dX10_fits_50 ?_
        refine zr_aload_n (pc := 51) C dX10_fits_51 1 rfl ?_
        refine zr_get (v := .ref (g.2.2.1 26)) (pc := 52) C 3 (some (some 26)) dX10_fits_52 fX10_35 (by decide) (hs_0 _) rfl rfl ?_
        refine zr_get (v := zv_i (σ 26 3)) (pc := 55) C 3 none dX10_fits_55 fX10_114 (by decide) (hs_26 _) rfl rfl ?_
        refine zr_imul (pc := 58) C dX10_fits_58 ?_
        refine zr_iadd (pc := 59) C dX10_fits_59 ?_
        refine zr_istore (L' := [(5, zv_i ((b * (σ (28 + 2 * a.toNat) 0)) + ((b - 1) * (σ 26 3)))), (4, .ref (g.2.2.1 (28 + 2 * a.toNat))), (0, .ref (g.2.2.1 0)), (1, zv_i a), (2, zv_i b), (3, zv_i c)]) (pc := 60) C dX10_fits_60 (by decide) rfl ?_
        refine zr_iload (pc := 62) C dX10_fits_62 0 rfl ?_
        refine zr_bipush (pc := 64) C dX10_fits_64 (by decide) ?_
        refine zr_iload_n (pc := 66) C dX10_fits_66 5 rfl ?_
        refine zr_imul (pc := 67) C dX10_fits_67 ?_
        refine zr_aload (pc := 68) C dX10_fits_68 1 rfl ?_
        refine zr_get (v := zv_i (σ (28 + 2 * a.toNat) 1)) (pc := 70) C 1 none dX10_fits_70 fX10_147 (hn_size (by omega)) (hs_size (by omega)) rfl rfl ?_
        refine zr_callS (As := [zv_i (10 * c), zv_i (σ (28 + 2 * a.toNat) 1)]) (rest := [zv_i ((b * (σ (28 + 2 * a.toNat) 0)) + ((b - 1) * (σ 26 3)))]) (pc := 73) C dX10_fits_73 kX10_room sX10_150 rfl (by decide) rfl (Nat.le_of_ble_eq_true rfl) (m_room g σ (10 * c) (σ (28 + 2 * a.toNat) 1) (by omega) (by omega)) (fun v_ τ_ h_ => ?_)
        obtain ⟨rfl, rfl⟩ := h_
        show zw_W g mX10_fits k 76 [(5, zv_i ((b * (σ (28 + 2 * a.toNat) 0)) + ((b - 1) * (σ 26 3)))), (4, .ref (g.2.2.1 (28 + 2 * a.toNat))), (0, .ref (g.2.2.1 0)), (1, zv_i a), (2, zv_i b), (3, zv_i c)] [zv_i (ro_m (10 * c) (σ (28 + 2 * a.toNat) 1)), zv_i ((b * (σ (28 + 2 * a.toNat) 0)) + ((b - 1) * (σ 26 3)))] σ
        refine zr_icmp_gt (pc := 76) C 83 dX10_fits_76 (by decide) (by omega) (by omega) (fun h_4 => ?_) (fun h_4 => ?_)
        · refine zr_iconst (pc := 83) C dX10_fits_83 ?_
          exact zr_zret (pc := 84) C hr dX10_fits_84 rfl (by decide) (⟨zq_0 (by omega), rfl⟩)
        · refine zr_iconst (pc := 79) C dX10_fits_79 ?_
          refine zr_goto (pc := 80) C 84 dX10_fits_80 (by decide) ?_
          exact zr_zret (pc := 84) C hr dX10_fits_84 rfl (by decide) (⟨zq_1 (by omega), rfl⟩)
      · refine zr_iconst (pc := 31) C dX10_fits_31 ?_
        exact zr_zret (pc := 32) C hr dX10_fits_32 rfl (by decide) (⟨zq_0 (by omega), rfl⟩)
