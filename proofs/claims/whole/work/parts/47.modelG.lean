theorem sq_Nr {σ : zs_S} (hI : sq_I σ) {b h d p k : Int} (hk : 0 ≤ k ∧ k < 6) (hp : 0 ≤ p ∧ p ≤ 9300) : -1 ≤ sq_N σ b h d p k ∧ sq_N σ b h d p k ≤ 20000 := by
  obtain ⟨a, c, e⟩ := hI.1 k hk.1 hk.2
  have q := hI.2
  unfold sq_N sq_b sq_a sq_t
  by_cases h0 : p = 0
  · rw [if_pos h0]
    split
    · split <;> omega
    · split <;> omega
  · rw [if_neg h0]
    split
    · split <;> omega
    · split <;> omega
set_option maxRecDepth 20000 in
set_option maxHeartbeats 4000000 in
theorem l_sq1 {g : zg_G} {k : zk_T} {Q : Option Value → zs_S → Prop} (C : zk_ok g mX11_sequence k) (hr : zk_ret g mX11_sequence Q k) (b f h d : Int) (hb : b = 0 ∨ b = 1) (hf : 0 ≤ f ∧ f ≤ 5000) (hh : 0 ≤ h ∧ h ≤ 5000) (hd : 0 ≤ d ∧ d ≤ 9000) (c : Nat) (hc : c = 85 ∨ c = 86) (hcn : c < zs_N) (hcs : zs_sh g.2.2.2 c = .inl (0, 300)) (σ0 : zs_S) (hI0 : sq_I σ0) (hex : ∀ σ1, zf_x σ0 σ1 [88] → (∀ x, 0 ≤ x → x < 9400 → σ1 88 x = -1) → zw_W g mX11_sequence k 25 [(0, .ref (g.2.2.1 67)), (1, zv_i b), (2, zv_i f), (3, zv_i h), (4, zv_i d), (5, .ref (g.2.2.1 (c)))] [] σ1) : ∀ (N : Nat) (σ : zs_S) (a : Int), (9400 - a).toNat < N → (0 ≤ a ∧ a ≤ 9400) → (zf_x σ0 σ [88]) → (∀ x, 0 ≤ x → x < a → σ 88 x = -1) → zw_W g mX11_sequence k 3 [(0, .ref (g.2.2.1 67)), (1, zv_i b), (2, zv_i f), (3, zv_i h), (4, zv_i d), (5, .ref (g.2.2.1 (c))), (6, zv_i a)] [] σ := by
  intro N
  induction N with
  | zero =>
    intro σ a hN
    exact absurd hN (by omega)
  | succ N ih =>
    intro σ a hN ha fr h0
    refine zr_iload (pc := 3) C dX11_sequence_3 6 rfl ?_
    refine zr_sipush (pc := 5) C dX11_sequence_5 (by decide) ?_
    refine zr_icmp_ge (pc := 8) C 25 dX11_sequence_8 (by decide) (by omega) (by omega) (fun h_1 => ?_) (fun h_1 => ?_)
    · refine zr_sub [0, 1, 2, 3, 4, 5] rfl ?_
      exact hex σ fr (fun x x1 x2 => h0 x x1 (by omega))
    · refine zr_aload_n (pc := 11) C dX11_sequence_11 0 rfl ?_
      refine zr_get (v := .ref (g.2.2.1 88)) (pc := 12) C 27 (some (some 88)) dX11_sequence_12 fX11_70 (by decide) (hs_67 _) rfl rfl ?_
      refine zr_iload (pc := 15) C dX11_sequence_15 6 rfl ?_
      refine zr_iconst (pc := 17) C dX11_sequence_17 ?_
      refine zr_iastore (pc := 18) C dX11_sequence_18 (by decide) (hs_88 _) (by omega) (by decide) (fun τ_2 e_3 => ?_)
      refine zr_iinc (L' := [(6, zv_i (a + 1)), (0, .ref (g.2.2.1 67)), (1, zv_i b), (2, zv_i f), (3, zv_i h), (4, zv_i d), (5, .ref (g.2.2.1 (c)))]) (pc := 19) C dX11_sequence_19 6 rfl (by decide) rfl ?_
      refine zr_goto (pc := 22) C 3 dX11_sequence_22 (by decide) ?_
      refine zr_sub [1, 2, 3, 4, 5, 6, 0] rfl ?_
      exact ih τ_2 (a + 1) (by omega) (by omega) (zf_p fr e_3 (by decide)) (fun x x1 x2 => by
        rw [e_3, zs_put_at]
        by_cases z : x = a
        · rw [if_pos z]
        · rw [if_neg z]; exact h0 x x1 (by omega))

set_option maxRecDepth 20000 in
set_option maxHeartbeats 4000000 in
theorem l_sq2i {g : zg_G} {k : zk_T} {Q : Option Value → zs_S → Prop} (C : zk_ok g mX11_sequence k) (hr : zk_ret g mX11_sequence Q k) (b f h d : Int) (hb : b = 0 ∨ b = 1) (hf : 0 ≤ f ∧ f ≤ 5000) (hh : 0 ≤ h ∧ h ≤ 5000) (hd : 0 ≤ d ∧ d ≤ 9000) (c : Nat) (hc : c = 85 ∨ c = 86) (hcn : c < zs_N) (hcs : zs_sh g.2.2.2 c = .inl (0, 300)) (σ0 : zs_S) (hI0 : sq_I σ0) (G : Int → Int) (R : Int → Prop) (hW : mq_W (sq_N σ0 b h d) (σ0 84) G R) (hR : R f) (p mo : Int) (hp : f ≤ p ∧ p ≤ 9300) (hex : ∀ σ1, zf_x σ0 σ1 [88] → mq_V R G (G f) (σ1 88) → mq_E (sq_N σ0 b h d) (σ0 84) (σ1 88) f (p + 1) → (∀ q, f ≤ q → q ≤ p → σ1 88 q ≤ mo) → 0 ≤ σ1 88 f → zw_W g mX11_sequence k 167 [(0, .ref (g.2.2.1 67)), (1, zv_i b), (2, zv_i f), (3, zv_i h), (4, zv_i d), (5, .ref (g.2.2.1 (c))), (6, zv_i mo), (7, zv_i p)] [] σ1) : ∀ (N : Nat) (σ : zs_S) (a : Int), (6 - a).toNat < N → (0 ≤ a ∧ a ≤ 6) → (zf_x σ0 σ [88]) → (mq_V R G (G f) (σ 88)) → (mq_E (sq_N σ0 b h d) (σ0 84) (σ 88) f p) → (mq_I (sq_N σ0 b h d) (σ0 84) (σ 88) p a) → (∀ q, f ≤ q → q ≤ p → σ 88 q ≤ mo) → (0 ≤ σ 88 p) → (0 ≤ σ 88 f) → zw_W g mX11_sequence k 88 [(0, .ref (g.2.2.1 67)), (1, zv_i b), (2, zv_i f), (3, zv_i h), (4, zv_i d), (5, .ref (g.2.2.1 (c))), (6, zv_i mo), (7, zv_i p), (8, zv_i a)] [] σ := by
  intro N
  induction N with
  | zero =>
    intro σ a hN
    exact absurd hN (by omega)
  | succ N ih =>
    intro σ a hN ha0 fr hV hE hI hm2 h0 hf0
    obtain ⟨hRp, v1, v2⟩ : R p ∧ 0 ≤ σ 88 p ∧ σ 88 p + G p ≤ G f := by
      rcases hV p (by omega) (by omega) with z | z
      · omega
      · exact z
    obtain ⟨⟨w1, w2⟩, w3, -⟩ := hW p hRp
    have gf := (hW f hR).1
    refine zr_iload (pc := 88) C dX11_sequence_88 8 rfl ?_
    refine zr_bipush (pc := 90) C dX11_sequence_90 (by decide) ?_
    refine zr_icmp_ge (pc := 92) C 167 dX11_sequence_92 (by decide) (by omega) (by omega) (fun h_1 => ?_) (fun h_1 => ?_)
    · have e6 : a = 6 := by omega
      subst e6
      refine zr_sub [0, 1, 2, 3, 4, 5, 6, 7] rfl ?_
      exact hex σ fr hV (mq_Ei hE hI) hm2 hf0
    · have nr := sq_Nr hI0 (b := b) (h := h) (d := d) (p := p) (k := a) (by omega) (by omega)
      have e84 : σ 84 a = σ0 84 a := fr 84 (by decide) a
      refine zr_aload_n (pc := 95) C dX11_sequence_95 0 rfl ?_
      refine zr_iload_n (pc := 96) C dX11_sequence_96 1 rfl ?_
      refine zr_iload (pc := 97) C dX11_sequence_97 7 rfl ?_
      refine zr_iload (pc := 99) C dX11_sequence_99 8 rfl ?_
      refine zr_iload_n (pc := 101) C dX11_sequence_101 3 rfl ?_
      refine zr_iload (pc := 102) C dX11_sequence_102 4 rfl ?_
      refine zr_callV (As := [zv_i b, zv_i p, zv_i a, zv_i h, zv_i d]) (rest := []) (b := 67) (pc := 104) C dX11_sequence_104 kX11_step vX11_136 rfl (by decide) (by decide) (hs_67 _) rfl (Nat.le_of_ble_eq_true rfl) (n_step g σ b p a h d (by omega) (by omega) (by omega) (by omega) (by omega) (by exact sq_If fr (by simp) hI0) (sq_N σ0 b h d p a) (by exact sq_Nf fr (by simp) _ _ _ _ _)) (fun v_ τ_ h_ => ?_)
      obtain ⟨rfl, rfl⟩ := h_
      show zw_W g mX11_sequence k 107 [(0, .ref (g.2.2.1 67)), (1, zv_i b), (2, zv_i f), (3, zv_i h), (4, zv_i d), (5, .ref (g.2.2.1 (c))), (6, zv_i mo), (7, zv_i p), (8, zv_i a)] [zv_i (sq_N σ0 b h d p a)] σ
      refine zr_istore (L' := [(9, zv_i (sq_N σ0 b h d p a)), (0, .ref (g.2.2.1 67)), (1, zv_i b), (2, zv_i f), (3, zv_i h), (4, zv_i d), (5, .ref (g.2.2.1 (c))), (6, zv_i mo), (7, zv_i p), (8, zv_i a)]) (pc := 107) C dX11_sequence_107 (by decide) rfl ?_
      refine zr_iload (pc := 109) C dX11_sequence_109 0 rfl ?_
      refine zr_if_lt (pc := 111) C 161 dX11_sequence_111 (by decide) (by omega) (fun h_2 => ?_) (fun h_2 => ?_)
      · refine zr_iinc (L' := [(8, zv_i (a + 1)), (9, zv_i (sq_N σ0 b h d p a)), (0, .ref (g.2.2.1 67)), (1, zv_i b), (2, zv_i f), (3, zv_i h), (4, zv_i d), (5, .ref (g.2.2.1 (c))), (6, zv_i mo), (7, zv_i p)]) (pc := 161) C dX11_sequence_161 9 rfl (by decide) rfl ?_
        refine zr_goto (pc := 164) C 88 dX11_sequence_164 (by decide) ?_
        refine zr_sub [2, 3, 4, 5, 6, 7, 8, 9, 0] rfl ?_
        exact ih σ (a + 1) (by omega) (by omega) fr hV hE (mq_Is hI (fun z => absurd z (by omega))) hm2 h0 hf0
      · obtain ⟨c1, c2, c3, c4⟩ := w3 a (by omega) (by omega) (by omega)
        have nb := (hW _ c1).1
        have vn := hV (sq_N σ0 b h d p a) (by omega) (by omega)
        have vn2 : -1 ≤ σ 88 (sq_N σ0 b h d p a) ∧ σ 88 (sq_N σ0 b h d p a) ≤ 300000000 := by
          rcases vn with z | ⟨-, z1, z2⟩ <;> omega
        refine zr_aload_n (pc := 114) C dX11_sequence_114 1 rfl ?_
        refine zr_get (v := .ref (g.2.2.1 88)) (pc := 115) C 27 (some (some 88)) dX11_sequence_115 fX11_70 (by decide) (hs_67 _) rfl rfl ?_
        refine zr_iload (pc := 118) C dX11_sequence_118 8 rfl ?_
        refine zr_iaload (pc := 120) C dX11_sequence_120 (by decide) (hs_88 _) (by omega) (by decide) ?_
        refine zr_aload_n (pc := 121) C dX11_sequence_121 1 rfl ?_
        refine zr_get (v := .ref (g.2.2.1 84)) (pc := 122) C 23 (some (some 84)) dX11_sequence_122 fX11_58 (by decide) (hs_67 _) rfl rfl ?_
        refine zr_iload (pc := 125) C dX11_sequence_125 9 rfl ?_
        refine zr_iaload (pc := 127) C dX11_sequence_127 (by decide) (hs_84 _) (by omega) (by decide) ?_
        refine zr_iadd (pc := 128) C dX11_sequence_128 ?_
        refine zr_aload_n (pc := 129) C dX11_sequence_129 1 rfl ?_
        refine zr_get (v := .ref (g.2.2.1 88)) (pc := 130) C 27 (some (some 88)) dX11_sequence_130 fX11_70 (by decide) (hs_67 _) rfl rfl ?_
        refine zr_iload (pc := 133) C dX11_sequence_133 0 rfl ?_
        refine zr_iaload (pc := 135) C dX11_sequence_135 (by decide) (hs_88 _) (by omega) (by decide) ?_
        refine zr_icmp_le (pc := 136) C 161 dX11_sequence_136 (by decide) (by omega) (by omega) (fun h_3 => ?_) (fun h_3 => ?_)
        · refine zr_iinc (L' := [(8, zv_i (a + 1)), (9, zv_i (sq_N σ0 b h d p a)), (0, .ref (g.2.2.1 67)), (1, zv_i b), (2, zv_i f), (3, zv_i h), (4, zv_i d), (5, .ref (g.2.2.1 (c))), (6, zv_i mo), (7, zv_i p)]) (pc := 161) C dX11_sequence_161 9 rfl (by decide) rfl ?_
          refine zr_goto (pc := 164) C 88 dX11_sequence_164 (by decide) ?_
          refine zr_sub [2, 3, 4, 5, 6, 7, 8, 9, 0] rfl ?_
          exact ih σ (a + 1) (by omega) (by omega) fr hV hE (mq_Is hI (fun _ => by omega)) hm2 h0 hf0
        · refine zr_aload_n (pc := 139) C dX11_sequence_139 1 rfl ?_
          refine zr_get (v := .ref (g.2.2.1 88)) (pc := 140) C 27 (some (some 88)) dX11_sequence_140 fX11_70 (by decide) (hs_67 _) rfl rfl ?_
          refine zr_iload (pc := 143) C dX11_sequence_143 0 rfl ?_
          refine zr_aload_n (pc := 145) C dX11_sequence_145 1 rfl ?_
          refine zr_get (v := .ref (g.2.2.1 88)) (pc := 146) C 27 (some (some 88)) dX11_sequence_146 fX11_70 (by decide) (hs_67 _) rfl rfl ?_
          refine zr_iload (pc := 149) C dX11_sequence_149 8 rfl ?_
          refine zr_iaload (pc := 151) C dX11_sequence_151 (by decide) (hs_88 _) (by omega) (by decide) ?_
          refine zr_aload_n (pc := 152) C dX11_sequence_152 1 rfl ?_
          refine zr_get (v := .ref (g.2.2.1 84)) (pc := 153) C 23 (some (some 84)) dX11_sequence_153 fX11_58 (by decide) (hs_67 _) rfl rfl ?_
          refine zr_iload (pc := 156) C dX11_sequence_156 9 rfl ?_
          refine zr_iaload (pc := 158) C dX11_sequence_158 (by decide) (hs_84 _) (by omega) (by decide) ?_
          refine zr_iadd (pc := 159) C dX11_sequence_159 ?_
          refine zr_iastore (pc := 160) C dX11_sequence_160 (by decide) (hs_88 _) (by omega) (by decide) (fun τ_4 e_5 => ?_)
          refine zr_iinc (L' := [(8, zv_i (a + 1)), (9, zv_i (sq_N σ0 b h d p a)), (0, .ref (g.2.2.1 67)), (1, zv_i b), (2, zv_i f), (3, zv_i h), (4, zv_i d), (5, .ref (g.2.2.1 (c))), (6, zv_i mo), (7, zv_i p)]) (pc := 161) C dX11_sequence_161 9 rfl (by decide) rfl ?_
          refine zr_goto (pc := 164) C 88 dX11_sequence_164 (by decide) ?_
          have hU : ∀ x, τ_4 88 x = if x = sq_N σ0 b h d p a then σ 88 p + σ 84 a else σ 88 x := fun x => by rw [e_5, zs_put_at]
          have hI2 := mq_Iu hI hU (by omega) (by omega)
          refine zr_sub [2, 3, 4, 5, 6, 7, 8, 9, 0] rfl ?_
          exact ih τ_4 (a + 1) (by omega) (by omega) (zf_p fr e_5 (by decide)) (mq_Vu hV hU c1 (by omega) (by omega)) (mq_Eu hE hU (by omega) (by omega)) (mq_Is hI2 (fun _ => by rw [hU p, if_neg (by omega), hU (sq_N σ0 b h d p a), if_pos rfl, e84]; exact Int.le_refl _)) (fun q q1 q2 => by rw [hU q, if_neg (by omega)]; exact hm2 q q1 q2) (by rw [hU p, if_neg (by omega)]; exact h0) (by rw [hU f, if_neg (by omega)]; exact hf0)

set_option maxRecDepth 20000 in
set_option maxHeartbeats 4000000 in
theorem l_sq2 {g : zg_G} {k : zk_T} {Q : Option Value → zs_S → Prop} (C : zk_ok g mX11_sequence k) (hr : zk_ret g mX11_sequence Q k) (b f h d : Int) (hb : b = 0 ∨ b = 1) (hf : 0 ≤ f ∧ f ≤ 5000) (hh : 0 ≤ h ∧ h ≤ 5000) (hd : 0 ≤ d ∧ d ≤ 9000) (c : Nat) (hc : c = 85 ∨ c = 86) (hcn : c < zs_N) (hcs : zs_sh g.2.2.2 c = .inl (0, 300)) (σ0 : zs_S) (hI0 : sq_I σ0) (G : Int → Int) (R : Int → Prop) (hW : mq_W (sq_N σ0 b h d) (σ0 84) G R) (hR : R f) (hex : ∀ σ1 mo, zf_x σ0 σ1 [88] → mq_V R G (G f) (σ1 88) → mq_E (sq_N σ0 b h d) (σ0 84) (σ1 88) f 9301 → (0 ≤ mo ∧ mo ≤ G f) → (∀ q, f ≤ q → q < 9301 → σ1 88 q ≤ mo) → 0 ≤ σ1 88 f → zw_W g mX11_sequence k 173 [(0, .ref (g.2.2.1 67)), (1, zv_i b), (2, zv_i f), (3, zv_i h), (4, zv_i d), (5, .ref (g.2.2.1 (c))), (6, zv_i mo)] [] σ1) : ∀ (N : Nat) (σ : zs_S) (mo p : Int), (9301 - p).toNat < N → (f ≤ p ∧ p ≤ 9301) → (zf_x σ0 σ [88]) → (mq_V R G (G f) (σ 88)) → (mq_E (sq_N σ0 b h d) (σ0 84) (σ 88) f p) → (0 ≤ mo ∧ mo ≤ G f) → (∀ q, f ≤ q → q < p → σ 88 q ≤ mo) → (0 ≤ σ 88 f) → zw_W g mX11_sequence k 38 [(0, .ref (g.2.2.1 67)), (1, zv_i b), (2, zv_i f), (3, zv_i h), (4, zv_i d), (5, .ref (g.2.2.1 (c))), (6, zv_i mo), (7, zv_i p)] [] σ := by
  intro N
  induction N with
  | zero =>
    intro σ mo p hN
    exact absurd hN (by omega)
  | succ N ih =>
    intro σ mo p hN hp fr hV hE hm hm2 hf0
    have gf := (hW f hR).1
    refine zr_iload (pc := 38) C dX11_sequence_38 7 rfl ?_
    refine zr_sipush (pc := 40) C dX11_sequence_40 (by decide) ?_
    refine zr_icmp_gt (pc := 43) C 173 dX11_sequence_43 (by decide) (by omega) (by omega) (fun h_1 => ?_) (fun h_1 => ?_)
    · refine zr_sub [0, 1, 2, 3, 4, 5, 6] rfl ?_
      have e9 : p = 9301 := by omega
      subst e9
      exact hex σ mo fr hV hE hm hm2 hf0
    · have vb : -1 ≤ σ 88 p ∧ σ 88 p ≤ 300000000 := by
        rcases hV p (by omega) (by omega) with z | ⟨z, z1, z2⟩
        · omega
        · have := (hW p z).1
          omega
      refine zr_aload_n (pc := 46) C dX11_sequence_46 0 rfl ?_
      refine zr_get (v := .ref (g.2.2.1 88)) (pc := 47) C 27 (some (some 88)) dX11_sequence_47 fX11_70 (by decide) (hs_67 _) rfl rfl ?_
      refine zr_iload (pc := 50) C dX11_sequence_50 7 rfl ?_
      refine zr_iaload (pc := 52) C dX11_sequence_52 (by decide) (hs_88 _) (by omega) (by decide) ?_
      refine zr_if_ge (pc := 53) C 59 dX11_sequence_53 (by decide) (by omega) (fun h_2 => ?_) (fun h_2 => ?_)
      · obtain ⟨vq, vq1, vq2⟩ : R p ∧ 0 ≤ σ 88 p ∧ σ 88 p + G p ≤ G f := by
          rcases hV p (by omega) (by omega) with z | z
          · omega
          · exact z
        have gp := (hW p vq).1
        refine zr_aload_n (pc := 59) C dX11_sequence_59 0 rfl ?_
        refine zr_get (v := .ref (g.2.2.1 88)) (pc := 60) C 27 (some (some 88)) dX11_sequence_60 fX11_70 (by decide) (hs_67 _) rfl rfl ?_
        refine zr_iload (pc := 63) C dX11_sequence_63 7 rfl ?_
        refine zr_iaload (pc := 65) C dX11_sequence_65 (by decide) (hs_88 _) (by omega) (by decide) ?_
        refine zr_iload (pc := 66) C dX11_sequence_66 6 rfl ?_
        refine zr_icmp_le (pc := 68) C 81 dX11_sequence_68 (by decide) (by omega) (by omega) (fun h_3 => ?_) (fun h_3 => ?_)
        · refine zr_iload (pc := 81) C dX11_sequence_81 6 rfl ?_
          refine zr_istore (L' := [(6, zv_i mo), (0, .ref (g.2.2.1 67)), (1, zv_i b), (2, zv_i f), (3, zv_i h), (4, zv_i d), (5, .ref (g.2.2.1 (c))), (7, zv_i p)]) (pc := 83) C dX11_sequence_83 (by decide) rfl ?_
          refine zr_iconst (pc := 85) C dX11_sequence_85 ?_
          refine zr_istore (L' := [(8, zv_i 0), (6, zv_i mo), (0, .ref (g.2.2.1 67)), (1, zv_i b), (2, zv_i f), (3, zv_i h), (4, zv_i d), (5, .ref (g.2.2.1 (c))), (7, zv_i p)]) (pc := 86) C dX11_sequence_86 (by decide) rfl ?_
          refine zr_sub [2, 3, 4, 5, 6, 7, 1, 8, 0] rfl ?_
          refine l_sq2i C hr b f h d hb hf hh hd c hc hcn hcs σ0 hI0 G R hW hR p (mo) (by omega) (fun σ1 f1 V1 E1 m1 p1 => ?_) 7 σ 0 (by omega) (by omega) fr hV hE (fun k k1 k2 => absurd k2 (by omega)) (fun q q1 q2 => by
            rcases (show q < p ∨ q = p by omega) with z | z
            · have := hm2 q q1 z
              omega
            · rw [z]; omega) (by omega) hf0
          refine zr_iinc (L' := [(7, zv_i (p + 1)), (0, .ref (g.2.2.1 67)), (1, zv_i b), (2, zv_i f), (3, zv_i h), (4, zv_i d), (5, .ref (g.2.2.1 (c))), (6, zv_i mo)]) (pc := 167) C dX11_sequence_167 7 rfl (by decide) rfl ?_
          refine zr_goto (pc := 170) C 38 dX11_sequence_170 (by decide) ?_
          refine zr_sub [1, 2, 3, 4, 5, 6, 7, 0] rfl ?_
          exact ih σ1 (mo) (p + 1) (by omega) (by omega) f1 V1 E1 (by omega) (fun q q1 q2 => m1 q q1 (by omega)) p1
        · refine zr_aload_n (pc := 71) C dX11_sequence_71 0 rfl ?_
          refine zr_get (v := .ref (g.2.2.1 88)) (pc := 72) C 27 (some (some 88)) dX11_sequence_72 fX11_70 (by decide) (hs_67 _) rfl rfl ?_
          refine zr_iload (pc := 75) C dX11_sequence_75 7 rfl ?_
          refine zr_iaload (pc := 77) C dX11_sequence_77 (by decide) (hs_88 _) (by omega) (by decide) ?_
          refine zr_goto (pc := 78) C 83 dX11_sequence_78 (by decide) ?_
          refine zr_istore (L' := [(6, zv_i (σ 88 p)), (0, .ref (g.2.2.1 67)), (1, zv_i b), (2, zv_i f), (3, zv_i h), (4, zv_i d), (5, .ref (g.2.2.1 (c))), (7, zv_i p)]) (pc := 83) C dX11_sequence_83 (by decide) rfl ?_
          refine zr_iconst (pc := 85) C dX11_sequence_85 ?_
          refine zr_istore (L' := [(8, zv_i 0), (6, zv_i (σ 88 p)), (0, .ref (g.2.2.1 67)), (1, zv_i b), (2, zv_i f), (3, zv_i h), (4, zv_i d), (5, .ref (g.2.2.1 (c))), (7, zv_i p)]) (pc := 86) C dX11_sequence_86 (by decide) rfl ?_
          refine zr_sub [2, 3, 4, 5, 6, 7, 1, 8, 0] rfl ?_
          refine l_sq2i C hr b f h d hb hf hh hd c hc hcn hcs σ0 hI0 G R hW hR p (σ 88 p) (by omega) (fun σ1 f1 V1 E1 m1 p1 => ?_) 7 σ 0 (by omega) (by omega) fr hV hE (fun k k1 k2 => absurd k2 (by omega)) (fun q q1 q2 => by
            rcases (show q < p ∨ q = p by omega) with z | z
            · have := hm2 q q1 z
              omega
            · rw [z]; omega) (by omega) hf0
          refine zr_iinc (L' := [(7, zv_i (p + 1)), (0, .ref (g.2.2.1 67)), (1, zv_i b), (2, zv_i f), (3, zv_i h), (4, zv_i d), (5, .ref (g.2.2.1 (c))), (6, zv_i (σ 88 p))]) (pc := 167) C dX11_sequence_167 7 rfl (by decide) rfl ?_
          refine zr_goto (pc := 170) C 38 dX11_sequence_170 (by decide) ?_
          refine zr_sub [1, 2, 3, 4, 5, 6, 7, 0] rfl ?_
          exact ih σ1 (σ 88 p) (p + 1) (by omega) (by omega) f1 V1 E1 (by omega) (fun q q1 q2 => m1 q q1 (by omega)) p1
      · refine zr_goto (pc := 56) C 167 dX11_sequence_56 (by decide) ?_
        refine zr_iinc (L' := [(7, zv_i (p + 1)), (0, .ref (g.2.2.1 67)), (1, zv_i b), (2, zv_i f), (3, zv_i h), (4, zv_i d), (5, .ref (g.2.2.1 (c))), (6, zv_i mo)]) (pc := 167) C dX11_sequence_167 7 rfl (by decide) rfl ?_
        refine zr_goto (pc := 170) C 38 dX11_sequence_170 (by decide) ?_
        refine zr_sub [1, 2, 3, 4, 5, 6, 7, 0] rfl ?_
        exact ih σ mo (p + 1) (by omega) (by omega) fr hV (mq_En hE (by omega)) hm (fun q q1 q2 => by rcases (show q < p ∨ q = p by omega) with z | z; exact hm2 q q1 z; rw [z]; omega) hf0

set_option maxRecDepth 20000 in
set_option maxHeartbeats 4000000 in
theorem l_sq3i {g : zg_G} {k : zk_T} {Q : Option Value → zs_S → Prop} (C : zk_ok g mX11_sequence k) (hr : zk_ret g mX11_sequence Q k) (b f h d : Int) (hb : b = 0 ∨ b = 1) (hf : 0 ≤ f ∧ f ≤ 5000) (hh : 0 ≤ h ∧ h ≤ 5000) (hd : 0 ≤ d ∧ d ≤ 9000) (c : Nat) (hc : c = 85 ∨ c = 86) (hcn : c < zs_N) (hcs : zs_sh g.2.2.2 c = .inl (0, 300)) (σ0 : zs_S) (hI0 : sq_I σ0) (G : Int → Int) (R : Int → Prop) (hW : mq_W (sq_N σ0 b h d) (σ0 84) G R) (hR : R f) (V : Int → Int) (hV : mq_V R G (G f) V) (hE : mq_E (sq_N σ0 b h d) (σ0 84) V f 9301) (p : Int) (hp : f ≤ p ∧ p ≤ 9300) (hex : ∀ σ1, zf_x σ0 σ1 [88, 89] → σ1 88 = V → (∀ x, p ≤ x → x ≤ 9300 → (σ1 89 x = 0 ∨ σ1 89 x = 1) ∧ (σ1 89 x = 1 ↔ mq_T V G (G f) x)) → zw_W g mX11_sequence k 257 [(0, .ref (g.2.2.1 67)), (1, zv_i b), (2, zv_i f), (3, zv_i h), (4, zv_i d), (5, .ref (g.2.2.1 (c))), (6, zv_i (G f)), (7, zv_i p)] [] σ1) : ∀ (N : Nat) (σ : zs_S) (a : Int), (6 - a).toNat < N → (0 ≤ a ∧ a ≤ 6) → (zf_x σ0 σ [88, 89]) → (σ 88 = V) → (∀ x, p < x → x ≤ 9300 → (σ 89 x = 0 ∨ σ 89 x = 1) ∧ (σ 89 x = 1 ↔ mq_T V G (G f) x)) → (σ 89 p = 0 ∨ σ 89 p = 1) → (mq_H (sq_N σ0 b h d) (σ0 84) V G (G f) (σ 89 p) p a) → (a = 0 ∨ 0 ≤ V p) → zw_W g mX11_sequence k 211 [(0, .ref (g.2.2.1 67)), (1, zv_i b), (2, zv_i f), (3, zv_i h), (4, zv_i d), (5, .ref (g.2.2.1 (c))), (6, zv_i (G f)), (7, zv_i p), (8, zv_i a)] [] σ := by
  intro N
  induction N with
  | zero =>
    intro σ a hN
    exact absurd hN (by omega)
  | succ N ih =>
    intro σ a hN ha0 fr h88 hL hp9 hpi h0
    have vB : ∀ x, 0 ≤ x → x < 9400 → -1 ≤ σ 88 x ∧ σ 88 x ≤ 300000000 := fun x x1 x2 => by
      rw [h88]
      have gf := (hW f hR).1
      rcases hV x x1 x2 with z | ⟨z, z1, z2⟩
      · omega
      · have := (hW x z).1
        omega
    have gf := (hW f hR).1
    refine zr_iload (pc := 211) C dX11_sequence_211 8 rfl ?_
    refine zr_bipush (pc := 213) C dX11_sequence_213 (by decide) ?_
    refine zr_icmp_ge (pc := 215) C 257 dX11_sequence_215 (by decide) (by omega) (by omega) (fun h_1 => ?_) (fun h_1 => ?_)
    · refine zr_sub [0, 1, 2, 3, 4, 5, 6, 7] rfl ?_
      refine hex σ fr h88 (fun x x1 x2 => ?_)
      rcases (show x = p ∨ p < x by omega) with z | z
      · subst z
        refine ⟨hp9, ?_⟩
        have a6 : a = 6 := by omega
        subst a6
        exact Iff.trans hpi (mq_l hW hV hE gf.2.1 hf.1 ⟨by omega, by omega⟩ (by omega)).symm
      · exact hL x z x2
    · have vb := vB p (by omega) (by omega)
      have vp : V p = σ 88 p := by rw [h88]
      refine zr_aload_n (pc := 218) C dX11_sequence_218 0 rfl ?_
      refine zr_get (v := .ref (g.2.2.1 88)) (pc := 219) C 27 (some (some 88)) dX11_sequence_219 fX11_70 (by decide) (hs_67 _) rfl rfl ?_
      refine zr_iload (pc := 222) C dX11_sequence_222 7 rfl ?_
      refine zr_iaload (pc := 224) C dX11_sequence_224 (by decide) (hs_88 _) (by omega) (by decide) ?_
      refine zr_if_lt (pc := 225) C 257 dX11_sequence_225 (by decide) (by omega) (fun h_2 => ?_) (fun h_2 => ?_)
      · refine zr_sub [0, 1, 2, 3, 4, 5, 6, 7] rfl ?_
        refine hex σ fr h88 (fun x x1 x2 => ?_)
        rcases (show x = p ∨ p < x by omega) with z | z
        · subst z
          refine ⟨hp9, ?_⟩
          have a0 : a = 0 := by omega
          subst a0
          constructor
          · intro y
            rcases hpi.mp y with q | ⟨k, k1, k2, -⟩
            · omega
            · omega
          · intro y
            have := y.1
            omega
        · exact hL x z x2
      · have nr := sq_Nr hI0 (b := b) (h := h) (d := d) (p := p) (k := a) (by omega) (by omega)
        have e84 : σ 84 a = σ0 84 a := fr 84 (by simp <;> omega) a
        have vp : V p = σ 88 p := by rw [h88]
        have hstp : 0 ≤ sq_N σ0 b h d p a → (p + 50 ≤ sq_N σ0 b h d p a ∧ sq_N σ0 b h d p a ≤ 9300) := fun z => by
          rcases hV p (by omega) (by omega) with y | ⟨y, -, -⟩
          · omega
          · obtain ⟨q1, q2, -, -⟩ := (hW p y).2.1 a (by omega) (by omega) z
            exact ⟨q2, (hW _ q1).1.1.2⟩
        have est : (0 ≤ (sq_N σ0 b h d p a) ∧ σ 89 (sq_N σ0 b h d p a) = 1 ∧ σ 88 (sq_N σ0 b h d p a) = σ 88 p + σ 84 a) ↔ (0 ≤ sq_N σ0 b h d p a ∧ mq_T V G (G f) (sq_N σ0 b h d p a) ∧ V (sq_N σ0 b h d p a) = V p + σ0 84 a) := by
          rw [h88, e84]
          constructor
          · rintro ⟨x, y, z⟩
            have q := hstp x
            exact ⟨x, (hL _ (by omega) (by omega)).2.mp y, z⟩
          · rintro ⟨x, y, z⟩
            have q := hstp x
            exact ⟨x, (hL _ (by omega) (by omega)).2.mpr y, z⟩
        refine zr_aload_n (pc := 228) C dX11_sequence_228 0 rfl ?_
        refine zr_iload_n (pc := 229) C dX11_sequence_229 1 rfl ?_
        refine zr_iload (pc := 230) C dX11_sequence_230 7 rfl ?_
        refine zr_iload (pc := 232) C dX11_sequence_232 8 rfl ?_
        refine zr_iload_n (pc := 234) C dX11_sequence_234 3 rfl ?_
        refine zr_iload (pc := 235) C dX11_sequence_235 4 rfl ?_
        refine zr_callV (As := [zv_i b, zv_i p, zv_i a, zv_i h, zv_i d]) (rest := []) (b := 67) (pc := 237) C dX11_sequence_237 kX11_isBest vX11_140 rfl (by decide) (by decide) (hs_67 _) rfl (Nat.le_of_ble_eq_true rfl) (n_isBest g σ b p a h d hb (by omega) (by omega) hh hd (by exact sq_If fr (by simp) hI0) (sq_N σ0 b h d p a) (by exact sq_Nf fr (by simp) _ _ _ _ _) (by omega) (by exact fun z => (hL _ (by have := hstp z; omega) (hstp z).2).1) (by exact fun z => vB _ z (by have := hstp z; omega)) (by exact vB p (by omega) (by omega))) (fun v_ τ_ h_ => ?_)
        obtain ⟨rfl, rfl⟩ := h_
        show zw_W g mX11_sequence k 240 [(0, .ref (g.2.2.1 67)), (1, zv_i b), (2, zv_i f), (3, zv_i h), (4, zv_i d), (5, .ref (g.2.2.1 (c))), (6, zv_i (G f)), (7, zv_i p), (8, zv_i a)] [zv_i (zi_b (0 ≤ (sq_N σ0 b h d p a) ∧ σ 89 (sq_N σ0 b h d p a) = 1 ∧ σ 88 (sq_N σ0 b h d p a) = σ 88 p + σ 84 a))] σ
        refine zr_if_eq_b (pc := 240) C 251 dX11_sequence_240 (by decide) (fun h_3 => ?_) (fun h_3 => ?_)
        · refine zr_iinc (L' := [(8, zv_i (a + 1)), (0, .ref (g.2.2.1 67)), (1, zv_i b), (2, zv_i f), (3, zv_i h), (4, zv_i d), (5, .ref (g.2.2.1 (c))), (6, zv_i (G f)), (7, zv_i p)]) (pc := 251) C dX11_sequence_251 8 rfl (by decide) rfl ?_
          refine zr_goto (pc := 254) C 211 dX11_sequence_254 (by decide) ?_
          refine zr_sub [1, 2, 3, 4, 5, 6, 7, 8, 0] rfl ?_
          exact ih σ (a + 1) (by omega) (by omega) fr h88 hL hp9 (mq_Hn hpi (fun z => h_3 (est.mpr z))) (Or.inr (by omega))
        · refine zr_aload_n (pc := 243) C dX11_sequence_243 0 rfl ?_
          refine zr_get (v := .ref (g.2.2.1 89)) (pc := 244) C 28 (some (some 89)) dX11_sequence_244 fX11_73 (by decide) (hs_67 _) rfl rfl ?_
          refine zr_iload (pc := 247) C dX11_sequence_247 7 rfl ?_
          refine zr_iconst (pc := 249) C dX11_sequence_249 ?_
          refine zr_bastore (pc := 250) C dX11_sequence_250 (by decide) (hs_89 _) (by omega) (by decide) (by omega) (fun τ_4 e_5 => ?_)
          refine zr_iinc (L' := [(8, zv_i (a + 1)), (0, .ref (g.2.2.1 67)), (1, zv_i b), (2, zv_i f), (3, zv_i h), (4, zv_i d), (5, .ref (g.2.2.1 (c))), (6, zv_i (G f)), (7, zv_i p)]) (pc := 251) C dX11_sequence_251 8 rfl (by decide) rfl ?_
          refine zr_goto (pc := 254) C 211 dX11_sequence_254 (by decide) ?_
          refine zr_sub [1, 2, 3, 4, 5, 6, 7, 8, 0] rfl ?_
          exact ih τ_4 (a + 1) (by omega) (by omega) (zf_p fr e_5 (by decide)) (by rw [show τ_4 88 = σ 88 from funext fun y => by rw [e_5, zs_put_ne (by decide)]]; exact h88) (fun x x1 x2 => by rw [e_5, zs_put_off (by omega)]; exact hL x x1 x2) (by rw [e_5, zs_put_self]; omega) (mq_Hy (by rw [e_5, zs_put_self]) (by omega) (est.mp h_3)) (Or.inr (by omega))

set_option maxRecDepth 20000 in
set_option maxHeartbeats 4000000 in
theorem l_sq3 {g : zg_G} {k : zk_T} {Q : Option Value → zs_S → Prop} (C : zk_ok g mX11_sequence k) (hr : zk_ret g mX11_sequence Q k) (b f h d : Int) (hb : b = 0 ∨ b = 1) (hf : 0 ≤ f ∧ f ≤ 5000) (hh : 0 ≤ h ∧ h ≤ 5000) (hd : 0 ≤ d ∧ d ≤ 9000) (c : Nat) (hc : c = 85 ∨ c = 86) (hcn : c < zs_N) (hcs : zs_sh g.2.2.2 c = .inl (0, 300)) (σ0 : zs_S) (hI0 : sq_I σ0) (G : Int → Int) (R : Int → Prop) (hW : mq_W (sq_N σ0 b h d) (σ0 84) G R) (hR : R f) (V : Int → Int) (hV : mq_V R G (G f) V) (hE : mq_E (sq_N σ0 b h d) (σ0 84) V f 9301) (hex : ∀ σ1, zf_x σ0 σ1 [88, 89] → σ1 88 = V → (∀ x, f ≤ x → x ≤ 9300 → (σ1 89 x = 0 ∨ σ1 89 x = 1) ∧ (σ1 89 x = 1 ↔ mq_T V G (G f) x)) → zw_W g mX11_sequence k 263 [(0, .ref (g.2.2.1 67)), (1, zv_i b), (2, zv_i f), (3, zv_i h), (4, zv_i d), (5, .ref (g.2.2.1 (c))), (6, zv_i (G f))] [] σ1) : ∀ (N : Nat) (σ : zs_S) (p : Int), (p + 1 - f).toNat < N → (f - 1 ≤ p ∧ p ≤ 9300) → (zf_x σ0 σ [88, 89]) → (σ 88 = V) → (∀ x, p < x → x ≤ 9300 → (σ 89 x = 0 ∨ σ 89 x = 1) ∧ (σ 89 x = 1 ↔ mq_T V G (G f) x)) → zw_W g mX11_sequence k 178 [(0, .ref (g.2.2.1 67)), (1, zv_i b), (2, zv_i f), (3, zv_i h), (4, zv_i d), (5, .ref (g.2.2.1 (c))), (6, zv_i (G f)), (7, zv_i p)] [] σ := by
  intro N
  induction N with
  | zero =>
    intro σ p hN
    exact absurd hN (by omega)
  | succ N ih =>
    intro σ p hN hp fr h88 hL
    have vB : ∀ x, 0 ≤ x → x < 9400 → -1 ≤ σ 88 x ∧ σ 88 x ≤ 300000000 := fun x x1 x2 => by
      rw [h88]
      have gf := (hW f hR).1
      rcases hV x x1 x2 with z | ⟨z, z1, z2⟩
      · omega
      · have := (hW x z).1
        omega
    have gf := (hW f hR).1
    refine zr_iload (pc := 178) C dX11_sequence_178 7 rfl ?_
    refine zr_iload_n (pc := 180) C dX11_sequence_180 2 rfl ?_
    refine zr_icmp_lt (pc := 181) C 263 dX11_sequence_181 (by decide) (by omega) (by omega) (fun h_1 => ?_) (fun h_1 => ?_)
    · refine zr_sub [0, 1, 2, 3, 4, 5, 6] rfl ?_
      exact hex σ fr h88 (fun x x1 x2 => hL x (by omega) x2)
    · have vb := vB p (by omega) (by omega)
      have vp : V p = σ 88 p := by rw [h88]
      refine zr_aload_n (pc := 184) C dX11_sequence_184 0 rfl ?_
      refine zr_get (v := .ref (g.2.2.1 89)) (pc := 185) C 28 (some (some 89)) dX11_sequence_185 fX11_73 (by decide) (hs_67 _) rfl rfl ?_
      refine zr_iload (pc := 188) C dX11_sequence_188 7 rfl ?_
      refine zr_aload_n (pc := 190) C dX11_sequence_190 0 rfl ?_
      refine zr_get (v := .ref (g.2.2.1 88)) (pc := 191) C 27 (some (some 88)) dX11_sequence_191 fX11_70 (by decide) (hs_67 _) rfl rfl ?_
      refine zr_iload (pc := 194) C dX11_sequence_194 7 rfl ?_
      refine zr_iaload (pc := 196) C dX11_sequence_196 (by decide) (hs_88 _) (by omega) (by decide) ?_
      refine zr_iload (pc := 197) C dX11_sequence_197 6 rfl ?_
      refine zr_icmp_ne (pc := 199) C 206 dX11_sequence_199 (by decide) (by omega) (by omega) (fun h_2 => ?_) (fun h_2 => ?_)
      · refine zr_iconst (pc := 206) C dX11_sequence_206 ?_
        refine zr_bastore (pc := 207) C dX11_sequence_207 (by decide) (hs_89 _) (by omega) (by decide) (by omega) (fun τ_3 e_4 => ?_)
        refine zr_iconst (pc := 208) C dX11_sequence_208 ?_
        refine zr_istore (L' := [(8, zv_i 0), (0, .ref (g.2.2.1 67)), (1, zv_i b), (2, zv_i f), (3, zv_i h), (4, zv_i d), (5, .ref (g.2.2.1 (c))), (6, zv_i (G f)), (7, zv_i p)]) (pc := 209) C dX11_sequence_209 (by decide) rfl ?_
        refine zr_sub [1, 2, 3, 4, 5, 6, 7, 8, 0] rfl ?_
        refine l_sq3i C hr b f h d hb hf hh hd c hc hcn hcs σ0 hI0 G R hW hR V hV hE p (by omega) (fun σ1 f1 k1 L1 => ?_) 7 τ_3 0 (by omega) (by omega) (zf_p fr e_4 (by decide)) (by rw [show τ_3 88 = σ 88 from funext fun y => by rw [e_4, zs_put_ne (by decide)]]; exact h88) (fun x x1 x2 => by rw [e_4, zs_put_off (by omega)]; exact hL x x1 x2) (by rw [e_4, zs_put_self]; omega) (mq_H0 (by
          rw [e_4, zs_put_self]
          exact ⟨fun z => absurd z (by decide), fun z => by omega⟩)) (Or.inl rfl)
        refine zr_iinc (L' := [(7, zv_i (p + (-1))), (0, .ref (g.2.2.1 67)), (1, zv_i b), (2, zv_i f), (3, zv_i h), (4, zv_i d), (5, .ref (g.2.2.1 (c))), (6, zv_i (G f))]) (pc := 257) C dX11_sequence_257 7 rfl (by decide) rfl ?_
        refine zr_goto (pc := 260) C 178 dX11_sequence_260 (by decide) ?_
        refine zr_sub [1, 2, 3, 4, 5, 6, 7, 0] rfl ?_
        exact ih σ1 (p + (-1)) (by omega) (by omega) f1 k1 (fun x x1 x2 => L1 x (by omega) x2)
      · refine zr_iconst (pc := 202) C dX11_sequence_202 ?_
        refine zr_goto (pc := 203) C 207 dX11_sequence_203 (by decide) ?_
        refine zr_bastore (pc := 207) C dX11_sequence_207 (by decide) (hs_89 _) (by omega) (by decide) (by omega) (fun τ_5 e_6 => ?_)
        refine zr_iconst (pc := 208) C dX11_sequence_208 ?_
        refine zr_istore (L' := [(8, zv_i 0), (0, .ref (g.2.2.1 67)), (1, zv_i b), (2, zv_i f), (3, zv_i h), (4, zv_i d), (5, .ref (g.2.2.1 (c))), (6, zv_i (G f)), (7, zv_i p)]) (pc := 209) C dX11_sequence_209 (by decide) rfl ?_
        refine zr_sub [1, 2, 3, 4, 5, 6, 7, 8, 0] rfl ?_
        refine l_sq3i C hr b f h d hb hf hh hd c hc hcn hcs σ0 hI0 G R hW hR V hV hE p (by omega) (fun σ1 f1 k1 L1 => ?_) 7 τ_5 0 (by omega) (by omega) (zf_p fr e_6 (by decide)) (by rw [show τ_5 88 = σ 88 from funext fun y => by rw [e_6, zs_put_ne (by decide)]]; exact h88) (fun x x1 x2 => by rw [e_6, zs_put_off (by omega)]; exact hL x x1 x2) (by rw [e_6, zs_put_self]; omega) (mq_H0 (by
          rw [e_6, zs_put_self]
          exact ⟨fun _ => by omega, fun _ => rfl⟩)) (Or.inl rfl)
        refine zr_iinc (L' := [(7, zv_i (p + (-1))), (0, .ref (g.2.2.1 67)), (1, zv_i b), (2, zv_i f), (3, zv_i h), (4, zv_i d), (5, .ref (g.2.2.1 (c))), (6, zv_i (G f))]) (pc := 257) C dX11_sequence_257 7 rfl (by decide) rfl ?_
        refine zr_goto (pc := 260) C 178 dX11_sequence_260 (by decide) ?_
        refine zr_sub [1, 2, 3, 4, 5, 6, 7, 0] rfl ?_
        exact ih σ1 (p + (-1)) (by omega) (by omega) f1 k1 (fun x x1 x2 => L1 x (by omega) x2)

set_option maxRecDepth 20000 in
set_option maxHeartbeats 4000000 in
theorem l_sq4i {g : zg_G} {k : zk_T} {Q : Option Value → zs_S → Prop} (C : zk_ok g mX11_sequence k) (hr : zk_ret g mX11_sequence Q k) (b f h d : Int) (hb : b = 0 ∨ b = 1) (hf : 0 ≤ f ∧ f ≤ 5000) (hh : 0 ≤ h ∧ h ≤ 5000) (hd : 0 ≤ d ∧ d ≤ 9000) (c : Nat) (hc : c = 85 ∨ c = 86) (hcn : c < zs_N) (hcs : zs_sh g.2.2.2 c = .inl (0, 300)) (σ0 : zs_S) (hI0 : sq_I σ0) (G : Int → Int) (R : Int → Prop) (hW : mq_W (sq_N σ0 b h d) (σ0 84) G R) (hR : R f) (V : Int → Int) (hV : mq_V R G (G f) V) (hE : mq_E (sq_N σ0 b h d) (σ0 84) V f 9301) (p r0 n : Int) (hp : f ≤ p ∧ p ≤ 9300) (hRp : R p) (ht : mq_T V G (G f) p) (hr0 : 0 ≤ r0 ∧ r0 < 6) (hm : mq_c (sq_N σ0 b h d) (σ0 84) G p r0) (hlow : ∀ k : Int, 0 ≤ k → k < r0 → ¬ mq_c (sq_N σ0 b h d) (σ0 84) G p k) (σ1 : zs_S) (hex : zw_W g mX11_sequence k 305 [(0, .ref (g.2.2.1 67)), (1, zv_i b), (2, zv_i f), (3, zv_i h), (4, zv_i d), (5, .ref (g.2.2.1 (c))), (6, zv_i (G f)), (7, zv_i n), (8, zv_i p), (9, zv_i r0)] [] σ1) : ∀ (N : Nat) (σ : zs_S) (a : Int), (r0 - a).toNat < N → (σ = σ1) → (0 ≤ a ∧ a ≤ r0) → (zf_x σ0 σ [88, 89, c]) → (σ 88 = V) → (∀ x, f ≤ x → x ≤ 9300 → (σ 89 x = 0 ∨ σ 89 x = 1) ∧ (σ 89 x = 1 ↔ mq_T V G (G f) x)) → zw_W g mX11_sequence k 284 [(0, .ref (g.2.2.1 67)), (1, zv_i b), (2, zv_i f), (3, zv_i h), (4, zv_i d), (5, .ref (g.2.2.1 (c))), (6, zv_i (G f)), (7, zv_i n), (8, zv_i p), (9, zv_i a)] [] σ := by
  intro N
  induction N with
  | zero =>
    intro σ a hN
    exact absurd hN (by omega)
  | succ N ih =>
    intro σ a hN hs ha0 fr h88 hL
    subst hs
    have vB : ∀ x, 0 ≤ x → x < 9400 → -1 ≤ σ 88 x ∧ σ 88 x ≤ 300000000 := fun x x1 x2 => by
      rw [h88]
      have gf := (hW f hR).1
      rcases hV x x1 x2 with z | ⟨z, z1, z2⟩
      · omega
      · have := (hW x z).1
        omega
    have gf := (hW f hR).1
    have h0p : 0 ≤ V p := ht.1
    have nr := sq_Nr hI0 (b := b) (h := h) (d := d) (p := p) (k := a) (by omega) (by omega)
    have e84 : σ 84 a = σ0 84 a := fr 84 (by simp <;> omega) a
    have vp : V p = σ 88 p := by rw [h88]
    have hstp : 0 ≤ sq_N σ0 b h d p a → (p + 50 ≤ sq_N σ0 b h d p a ∧ sq_N σ0 b h d p a ≤ 9300) := fun z => by
      rcases hV p (by omega) (by omega) with y | ⟨y, -, -⟩
      · omega
      · obtain ⟨q1, q2, -, -⟩ := (hW p y).2.1 a (by omega) (by omega) z
        exact ⟨q2, (hW _ q1).1.1.2⟩
    have est : (0 ≤ (sq_N σ0 b h d p a) ∧ σ 89 (sq_N σ0 b h d p a) = 1 ∧ σ 88 (sq_N σ0 b h d p a) = σ 88 p + σ 84 a) ↔ (0 ≤ sq_N σ0 b h d p a ∧ mq_T V G (G f) (sq_N σ0 b h d p a) ∧ V (sq_N σ0 b h d p a) = V p + σ0 84 a) := by
      rw [h88, e84]
      constructor
      · rintro ⟨x, y, z⟩
        have q := hstp x
        exact ⟨x, (hL _ (by omega) (by omega)).2.mp y, z⟩
      · rintro ⟨x, y, z⟩
        have q := hstp x
        exact ⟨x, (hL _ (by omega) (by omega)).2.mpr y, z⟩
    refine zr_aload_n (pc := 284) C dX11_sequence_284 0 rfl ?_
    refine zr_iload_n (pc := 285) C dX11_sequence_285 1 rfl ?_
    refine zr_iload (pc := 286) C dX11_sequence_286 8 rfl ?_
    refine zr_iload (pc := 288) C dX11_sequence_288 9 rfl ?_
    refine zr_iload_n (pc := 290) C dX11_sequence_290 3 rfl ?_
    refine zr_iload (pc := 291) C dX11_sequence_291 4 rfl ?_
    refine zr_callV (As := [zv_i b, zv_i p, zv_i a, zv_i h, zv_i d]) (rest := []) (b := 67) (pc := 293) C dX11_sequence_293 kX11_isBest vX11_140 rfl (by decide) (by decide) (hs_67 _) rfl (Nat.le_of_ble_eq_true rfl) (n_isBest g σ b p a h d hb (by omega) (by omega) hh hd (by exact sq_If fr (by simp; omega) hI0) (sq_N σ0 b h d p a) (by exact sq_Nf fr (by simp; omega) _ _ _ _ _) (by omega) (by exact fun z => (hL _ (by have := hstp z; omega) (hstp z).2).1) (by exact fun z => vB _ z (by have := hstp z; omega)) (by exact vB p (by omega) (by omega))) (fun v_ τ_ h_ => ?_)
    obtain ⟨rfl, rfl⟩ := h_
    show zw_W g mX11_sequence k 296 [(0, .ref (g.2.2.1 67)), (1, zv_i b), (2, zv_i f), (3, zv_i h), (4, zv_i d), (5, .ref (g.2.2.1 (c))), (6, zv_i (G f)), (7, zv_i n), (8, zv_i p), (9, zv_i a)] [zv_i (zi_b (0 ≤ (sq_N σ0 b h d p a) ∧ σ 89 (sq_N σ0 b h d p a) = 1 ∧ σ 88 (sq_N σ0 b h d p a) = σ 88 p + σ 84 a))] σ
    refine zr_if_ne_b (pc := 296) C 305 dX11_sequence_296 (by decide) (fun h_1 => ?_) (fun h_1 => ?_)
    · have hst := est.mp h_1
      have e9 : a = r0 := by
        rcases (show a < r0 ∨ a = r0 by omega) with z | z
        · exact absurd ⟨hst.1, (mq_j hW hV hE hp.1 hRp ht ⟨by omega, by omega⟩ hst.1).mp hst.2⟩ (hlow a (by omega) z)
        · exact z
      refine zr_sub [0, 1, 2, 3, 4, 5, 6, 7, 8, 9] rfl ?_
      rw [e9]
      exact hex
    · refine zr_iinc (L' := [(9, zv_i (a + 1)), (0, .ref (g.2.2.1 67)), (1, zv_i b), (2, zv_i f), (3, zv_i h), (4, zv_i d), (5, .ref (g.2.2.1 (c))), (6, zv_i (G f)), (7, zv_i n), (8, zv_i p)]) (pc := 299) C dX11_sequence_299 9 rfl (by decide) rfl ?_
      refine zr_goto (pc := 302) C 284 dX11_sequence_302 (by decide) ?_
      have hlt : a < r0 := by
        rcases (show a < r0 ∨ a = r0 by omega) with z | z
        · exact z
        · subst z
          exact absurd (est.mpr ⟨hm.1, (mq_j hW hV hE hp.1 hRp ht hr0 hm.1).mpr hm.2⟩) h_1
      refine zr_sub [1, 2, 3, 4, 5, 6, 7, 8, 9, 0] rfl ?_
      exact ih σ (a + 1) (by omega) rfl (by omega) fr h88 hL

set_option maxRecDepth 20000 in
set_option maxHeartbeats 4000000 in
theorem l_sq4 {g : zg_G} {k : zk_T} {Q : Option Value → zs_S → Prop} (C : zk_ok g mX11_sequence k) (hr : zk_ret g mX11_sequence Q k) (b f h d : Int) (hb : b = 0 ∨ b = 1) (hf : 0 ≤ f ∧ f ≤ 5000) (hh : 0 ≤ h ∧ h ≤ 5000) (hd : 0 ≤ d ∧ d ≤ 9000) (c : Nat) (hc : c = 85 ∨ c = 86) (hcn : c < zs_N) (hcs : zs_sh g.2.2.2 c = .inl (0, 300)) (σ0 : zs_S) (hI0 : sq_I σ0) (G : Int → Int) (R : Int → Prop) (hW : mq_W (sq_N σ0 b h d) (σ0 84) G R) (hR : R f) (V : Int → Int) (hV : mq_V R G (G f) V) (hE : mq_E (sq_N σ0 b h d) (σ0 84) V f 9301) (l : List Int) (hQ : ∀ τ, zf_x σ0 τ [88, 89, c] → (∀ (j : Nat) (x : Int), l[j]? = some x → τ c j = x) → τ c l.length = -1 → (l.length : Int) ≤ 200 → Q (some (zv_i (G f))) τ) : ∀ (N : Nat) (σ : zs_S) (l1 l2 : List Int) (p : Int), (9301 - p).toNat < N → (f ≤ p ∧ p ≤ 9300) → (zf_x σ0 σ [88, 89, c]) → (σ 88 = V) → (∀ x, f ≤ x → x ≤ 9300 → (σ 89 x = 0 ∨ σ 89 x = 1) ∧ (σ 89 x = 1 ↔ mq_T V G (G f) x)) → (R p) → (mq_T V G (G f) p) → (l = l1 ++ l2) → (mq_L (sq_N σ0 b h d) (σ0 84) G l2 p) → (∀ (j : Nat) (x : Int), l1[j]? = some x → σ c j = x) → (50 * (l1.length : Int) ≤ p) → zw_W g mX11_sequence k 269 [(0, .ref (g.2.2.1 67)), (1, zv_i b), (2, zv_i f), (3, zv_i h), (4, zv_i d), (5, .ref (g.2.2.1 (c))), (6, zv_i (G f)), (7, zv_i ((l1.length : Int))), (8, zv_i p)] [] σ := by
  intro N
  induction N with
  | zero =>
    intro σ l1 l2 p hN
    exact absurd hN (by omega)
  | succ N ih =>
    intro σ l1 l2 p hN hp fr h88 hL hRp ht hll hm hto h50
    have vB : ∀ x, 0 ≤ x → x < 9400 → -1 ≤ σ 88 x ∧ σ 88 x ≤ 300000000 := fun x x1 x2 => by
      rw [h88]
      have gf := (hW f hR).1
      rcases hV x x1 x2 with z | ⟨z, z1, z2⟩
      · omega
      · have := (hW x z).1
        omega
    have gf := (hW f hR).1
    have vb := vB p (by omega) (by omega)
    have vp : V p = σ 88 p := by rw [h88]
    have wp := hW p hRp
    have ht2 := ht.2
    refine zr_aload_n (pc := 269) C dX11_sequence_269 0 rfl ?_
    refine zr_get (v := .ref (g.2.2.1 88)) (pc := 270) C 27 (some (some 88)) dX11_sequence_270 fX11_70 (by decide) (hs_67 _) rfl rfl ?_
    refine zr_iload (pc := 273) C dX11_sequence_273 8 rfl ?_
    refine zr_iaload (pc := 275) C dX11_sequence_275 (by decide) (hs_88 _) (by omega) (by decide) ?_
    refine zr_iload (pc := 276) C dX11_sequence_276 6 rfl ?_
    refine zr_icmp_ge (pc := 278) C 332 dX11_sequence_278 (by decide) (by omega) (by omega) (fun h_1 => ?_) (fun h_1 => ?_)
    · have l0 : l2 = [] := by
        cases l2 with
        | nil => rfl
        | cons r0 l3 =>
          obtain ⟨c1, c2, c3, c4⟩ := wp.2.1 r0 hm.1.1 hm.1.2 hm.2.1.1
          have nb := (hW _ c1).1
          have := hm.2.1.2
          omega
      subst l0
      rw [List.append_nil] at hll
      subst hll
      refine zr_aload (pc := 332) C dX11_sequence_332 5 rfl ?_
      refine zr_iload (pc := 334) C dX11_sequence_334 7 rfl ?_
      refine zr_iconst (pc := 336) C dX11_sequence_336 ?_
      refine zr_iastore (pc := 337) C dX11_sequence_337 hcn hcs (by omega) (by decide) (fun τ_2 e_3 => ?_)
      refine zr_iload (pc := 338) C dX11_sequence_338 6 rfl ?_
      exact zr_iret (pc := 340) C hr dX11_sequence_340 rfl (hQ τ_2 (zf_p fr e_3 (by simp)) (fun j x hj => by have := (List.getElem?_eq_some_iff.mp hj).1; rw [e_3, zs_put_off (by omega)]; exact hto j x hj) (by rw [e_3, zs_put_self]) (by omega))
    · obtain ⟨r0, l3, hl3⟩ : ∃ r0 l3, l2 = r0 :: l3 := by
        cases l2 with
        | cons r0 l3 => exact ⟨r0, l3, rfl⟩
        | nil =>
          have gp : ¬ G p = 0 := by have := ht.2; omega
          rcases wp.2.2 with z | ⟨k, k1, k2, k3⟩
          · exact absurd z gp
          · exact absurd k3 (hm k k1 k2)
      subst hl3
      obtain ⟨m1, m2, m3, m4⟩ := hm
      obtain ⟨c1, c2, c3, c4⟩ := wp.2.1 r0 m1.1 m1.2 m2.1
      have nb := (hW _ c1).1
      refine zr_iconst (pc := 281) C dX11_sequence_281 ?_
      refine zr_istore (L' := [(9, zv_i 0), (0, .ref (g.2.2.1 67)), (1, zv_i b), (2, zv_i f), (3, zv_i h), (4, zv_i d), (5, .ref (g.2.2.1 (c))), (6, zv_i (G f)), (7, zv_i ((l1.length : Int))), (8, zv_i p)]) (pc := 282) C dX11_sequence_282 (by decide) rfl ?_
      refine zr_sub [1, 2, 3, 4, 5, 6, 7, 8, 9, 0] rfl ?_
      refine l_sq4i C hr b f h d hb hf hh hd c hc hcn hcs σ0 hI0 G R hW hR V hV hE p r0 (l1.length : Int) hp hRp ht m1 m2 m3 σ ?_ 7 σ 0 (by omega) rfl (by omega) fr h88 hL
      refine zr_aload (pc := 305) C dX11_sequence_305 5 rfl ?_
      refine zr_iload (pc := 307) C dX11_sequence_307 7 rfl ?_
      refine zr_iload (pc := 309) C dX11_sequence_309 9 rfl ?_
      refine zr_iastore (pc := 311) C dX11_sequence_311 hcn hcs (by omega) (by decide) (fun τ_101 e_102 => ?_)
      refine zr_iinc (L' := [(7, zv_i (((l1.length : Int)) + 1)), (0, .ref (g.2.2.1 67)), (1, zv_i b), (2, zv_i f), (3, zv_i h), (4, zv_i d), (5, .ref (g.2.2.1 (c))), (6, zv_i (G f)), (8, zv_i p), (9, zv_i r0)]) (pc := 312) C dX11_sequence_312 7 rfl (by decide) rfl ?_
      refine zr_aload_n (pc := 315) C dX11_sequence_315 1 rfl ?_
      refine zr_iload_n (pc := 316) C dX11_sequence_316 2 rfl ?_
      refine zr_iload (pc := 317) C dX11_sequence_317 8 rfl ?_
      refine zr_iload (pc := 319) C dX11_sequence_319 9 rfl ?_
      refine zr_iload_n (pc := 321) C dX11_sequence_321 4 rfl ?_
      refine zr_iload (pc := 322) C dX11_sequence_322 5 rfl ?_
      refine zr_callV (As := [zv_i b, zv_i p, zv_i r0, zv_i h, zv_i d]) (rest := []) (b := 67) (pc := 324) C dX11_sequence_324 kX11_step vX11_136 rfl (by decide) (by decide) (hs_67 _) rfl (Nat.le_of_ble_eq_true rfl) (n_step g τ_101 b p r0 h d (by omega) (by omega) (by omega) (by omega) (by omega) (by exact sq_If (zf_p fr e_102 (by simp)) (by simp; omega) hI0) (sq_N σ0 b h d p r0) (by exact sq_Nf (zf_p fr e_102 (by simp)) (by simp; omega) _ _ _ _ _)) (fun v_ τ_ h_ => ?_)
      obtain ⟨rfl, rfl⟩ := h_
      show zw_W g mX11_sequence k 327 [(7, zv_i (((l1.length : Int)) + 1)), (0, .ref (g.2.2.1 67)), (1, zv_i b), (2, zv_i f), (3, zv_i h), (4, zv_i d), (5, .ref (g.2.2.1 (c))), (6, zv_i (G f)), (8, zv_i p), (9, zv_i r0)] [zv_i (sq_N σ0 b h d p r0)] τ_101
      refine zr_istore (L' := [(8, zv_i (sq_N σ0 b h d p r0)), (7, zv_i (((l1.length : Int)) + 1)), (0, .ref (g.2.2.1 67)), (1, zv_i b), (2, zv_i f), (3, zv_i h), (4, zv_i d), (5, .ref (g.2.2.1 (c))), (6, zv_i (G f)), (9, zv_i r0)]) (pc := 327) C dX11_sequence_327 (by decide) rfl ?_
      refine zr_goto (pc := 329) C 269 dX11_sequence_329 (by decide) ?_
      refine zr_sub [2, 3, 4, 5, 6, 7, 8, 1, 0] rfl ?_
      have en : ((l1.length : Int) + 1) = ((l1 ++ [r0]).length : Int) := by rw [List.length_append]; simp
      rw [en]
      exact ih τ_101 (l1 ++ [r0]) l3 (sq_N σ0 b h d p r0) (by omega) (by omega) (zf_p fr e_102 (by simp)) (by rw [show τ_101 88 = σ 88 from funext fun y => by rw [e_102, zs_put_ne (by omega)]]; exact h88) (by rw [show τ_101 89 = σ 89 from funext fun y => by rw [e_102, zs_put_ne (by omega)]]; exact hL) c1 ((mq_j hW hV hE hp.1 hRp ht m1 m2.1).mpr m2.2).1 (by rw [hll, List.append_assoc]; rfl) m4 (fun j x hj => by
        rw [e_102, zs_put_at]
        by_cases hl : j < l1.length
        · rw [List.getElem?_append_left hl] at hj
          rw [if_neg (by omega)]
          exact hto j x hj
        · rw [List.getElem?_append_right (by omega)] at hj
          have hz : j - l1.length < 1 := (List.getElem?_eq_some_iff.mp hj).1
          have e0 : j = l1.length := by omega
          subst e0
          rw [Nat.sub_self] at hj
          cases hj
          rw [if_pos rfl]) (by rw [← en]; omega)

set_option maxRecDepth 20000 in
set_option maxHeartbeats 4000000 in
theorem n_sequence (g : zg_G) (σ : zs_S) (b f h d : Int) (hb : b = 0 ∨ b = 1) (hf : 0 ≤ f ∧ f ≤ 5000) (hh : 0 ≤ h ∧ h ≤ 5000) (hd : 0 ≤ d ∧ d ≤ 9000) (c : Nat) (hc : c = 85 ∨ c = 86) (hcn : c < zs_N) (hcs : zs_sh g.2.2.2 c = .inl (0, 300)) (hI0 : sq_I σ) (G : Int → Int) (R : Int → Prop) (hW : mq_W (sq_N σ b h d) (σ 84) G R) (hR : R f) (l : List Int) (hl : mq_L (sq_N σ b h d) (σ 84) G l f) : zm_Met g mX11_sequence σ [.ref (g.2.2.1 67), zv_i b, zv_i f, zv_i h, zv_i d, .ref (g.2.2.1 (c))] (fun v τ => v = some (zv_i (G f)) ∧ zf_x σ τ [88, 89, c] ∧ (∀ (j : Nat) (x : Int), l[j]? = some x → τ c j = x) ∧ τ c l.length = -1 ∧ (l.length : Int) ≤ 200) := by
  refine zm_of (by decide +kernel) (Nat.le_of_ble_eq_true rfl) ?_
  intro k C hr
  show zw_W g mX11_sequence k 0 [(0, .ref (g.2.2.1 67)), (1, zv_i b), (2, zv_i f), (3, zv_i h), (4, zv_i d), (5, .ref (g.2.2.1 (c)))] [] σ
  have gf := (hW f hR).1
  refine zr_iconst (pc := 0) C dX11_sequence_0 ?_
  refine zr_istore (L' := [(6, zv_i 0), (0, .ref (g.2.2.1 67)), (1, zv_i b), (2, zv_i f), (3, zv_i h), (4, zv_i d), (5, .ref (g.2.2.1 (c)))]) (pc := 1) C dX11_sequence_1 (by decide) rfl ?_
  refine zr_sub [1, 2, 3, 4, 5, 6, 0] rfl ?_
  refine l_sq1 C hr b f h d hb hf hh hd c hc hcn hcs σ hI0 (fun σ1 f1 z1 => ?_) 9401 σ 0 (by omega) (by omega) (zf_r σ _) (fun x x1 x2 => absurd x2 (by omega))
  refine zr_aload_n (pc := 25) C dX11_sequence_25 0 rfl ?_
  refine zr_get (v := .ref (g.2.2.1 88)) (pc := 26) C 27 (some (some 88)) dX11_sequence_26 fX11_70 (by decide) (hs_67 _) rfl rfl ?_
  refine zr_iload_n (pc := 29) C dX11_sequence_29 2 rfl ?_
  refine zr_iconst (pc := 30) C dX11_sequence_30 ?_
  refine zr_iastore (pc := 31) C dX11_sequence_31 (by decide) (hs_88 _) (by omega) (by decide) (fun τ_101 e_102 => ?_)
  refine zr_iconst (pc := 32) C dX11_sequence_32 ?_
  refine zr_istore (L' := [(6, zv_i 0), (0, .ref (g.2.2.1 67)), (1, zv_i b), (2, zv_i f), (3, zv_i h), (4, zv_i d), (5, .ref (g.2.2.1 (c)))]) (pc := 33) C dX11_sequence_33 (by decide) rfl ?_
  refine zr_iload_n (pc := 35) C dX11_sequence_35 3 rfl ?_
  refine zr_istore (L' := [(7, zv_i f), (6, zv_i 0), (0, .ref (g.2.2.1 67)), (1, zv_i b), (2, zv_i f), (3, zv_i h), (4, zv_i d), (5, .ref (g.2.2.1 (c)))]) (pc := 36) C dX11_sequence_36 (by decide) rfl ?_
  refine zr_sub [2, 3, 4, 5, 6, 7, 1, 0] rfl ?_
  have hU : ∀ x, τ_101 88 x = if x = f then 0 else σ1 88 x := fun x => by rw [e_102, zs_put_at]
  refine l_sq2 C hr b f h d hb hf hh hd c hc hcn hcs σ hI0 G R hW hR (fun σ2 mo f2 V2 E2 m2 m3 p2 => ?_) 9302 τ_101 0 f (by omega) (by omega) (zf_p f1 e_102 (by decide)) (fun x x1 x2 => by
    rw [hU x]
    by_cases z : x = f
    · rw [if_pos z, z]; exact Or.inr ⟨hR, Int.le_refl _, by omega⟩
    · rw [if_neg z]; exact Or.inl (z1 x x1 x2)) (fun q q1 q2 => absurd q2 (by omega)) (by omega) (fun q q1 q2 => absurd q2 (by omega)) (by rw [hU f, if_pos rfl]; exact Int.le_refl _)
  refine zr_sipush (pc := 173) C dX11_sequence_173 (by decide) ?_
  refine zr_istore (L' := [(7, zv_i 9300), (0, .ref (g.2.2.1 67)), (1, zv_i b), (2, zv_i f), (3, zv_i h), (4, zv_i d), (5, .ref (g.2.2.1 (c))), (6, zv_i mo)]) (pc := 176) C dX11_sequence_176 (by decide) rfl ?_
  have em : mo = G f := by
    obtain ⟨q, q1, q2, q3⟩ := mq_e hW E2 _ f (Nat.lt_succ_self _) hR (Int.le_refl _) p2
    have := m3 q q1 (by omega)
    omega
  subst em
  refine zr_sub [1, 2, 3, 4, 5, 6, 7, 0] rfl ?_
  refine l_sq3 C hr b f h d hb hf hh hd c hc hcn hcs σ hI0 G R hW hR (σ2 88) V2 E2 (fun σ3 f3 k3 L3 => ?_) 9302 σ2 9300 (by omega) (by omega) (zf_w f2 (by simp)) rfl (fun x x1 x2 => absurd x2 (by omega))
  refine zr_iconst (pc := 263) C dX11_sequence_263 ?_
  refine zr_istore (L' := [(7, zv_i 0), (0, .ref (g.2.2.1 67)), (1, zv_i b), (2, zv_i f), (3, zv_i h), (4, zv_i d), (5, .ref (g.2.2.1 (c))), (6, zv_i (G f))]) (pc := 264) C dX11_sequence_264 (by decide) rfl ?_
  refine zr_iload_n (pc := 266) C dX11_sequence_266 3 rfl ?_
  refine zr_istore (L' := [(8, zv_i f), (7, zv_i 0), (0, .ref (g.2.2.1 67)), (1, zv_i b), (2, zv_i f), (3, zv_i h), (4, zv_i d), (5, .ref (g.2.2.1 (c))), (6, zv_i (G f))]) (pc := 267) C dX11_sequence_267 (by decide) rfl ?_
  refine zr_sub [2, 3, 4, 5, 6, 7, 8, 1, 0] rfl ?_
  exact l_sq4 C hr b f h d hb hf hh hd c hc hcn hcs σ hI0 G R hW hR (σ2 88) V2 E2 l (fun τ q1 q2 q3 q4 => ⟨rfl, q1, q2, q3, q4⟩) 9302 σ3 [] l f (by omega) (by omega) (zf_w f3 (by simp <;> omega)) k3 L3 hR ⟨p2, by
    have z := V2 f (by omega) (by omega)
    rcases z with z | ⟨-, z1, z2⟩
    · omega
    · omega⟩ rfl hl (fun j x h => by simp at h) (by simp; omega)
