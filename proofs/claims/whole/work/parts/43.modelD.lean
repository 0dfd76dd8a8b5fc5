def mb_H (σ0 σ : zs_S) (n : Int) (B V : Int → Int) (p a : Int) : Prop := σ 89 p = 1 ↔ ((p = n + 1 ∨ (mb_T B V (p + 1) ∧ V (p + 1) = V p)) ∨ ∃ j : Int, 0 ≤ j ∧ j < a ∧ bk_a σ0 n p j ∧ mb_T B V (p + bk_n σ0 j + 1) ∧ V (p + bk_n σ0 j + 1) = V p + bk_v σ0 p j)
theorem mb_Hn {σ0 σ : zs_S} {n p a : Int} {B V : Int → Int} (h : mb_H σ0 σ n B V p a) (hn : ¬ (bk_a σ0 n p a ∧ mb_T B V (p + bk_n σ0 a + 1) ∧ V (p + bk_n σ0 a + 1) = V p + bk_v σ0 p a)) : mb_H σ0 σ n B V p (a + 1) :=
  h.trans ⟨fun z => z.imp id (fun ⟨j, j1, j2, j3⟩ => ⟨j, j1, by omega, j3⟩), fun z => z.imp id (fun ⟨j, j1, j2, j3⟩ => ⟨j, j1, by
    rcases (show j < a ∨ j = a by omega) with q | q
    · exact q
    · subst q; exact absurd j3 hn, j3⟩)⟩
theorem mb_Hy {σ0 σ : zs_S} {n p a : Int} {B V : Int → Int} (h : σ 89 p = 1) (ha : 0 ≤ a) (hy : bk_a σ0 n p a ∧ mb_T B V (p + bk_n σ0 a + 1) ∧ V (p + bk_n σ0 a + 1) = V p + bk_v σ0 p a) : mb_H σ0 σ n B V p (a + 1) :=
  ⟨fun _ => Or.inr ⟨a, ha, by omega, hy⟩, fun _ => h⟩
theorem mb_Hi {σ0 σ : zs_S} {n p a : Int} {B V : Int → Int} {P : Prop} (h : mb_H σ0 σ n B V p a) (hi : ((p = n + 1 ∨ (mb_T B V (p + 1) ∧ V (p + 1) = V p)) ∨ ∃ j : Int, 0 ≤ j ∧ j < a ∧ bk_a σ0 n p j ∧ mb_T B V (p + bk_n σ0 j + 1) ∧ V (p + bk_n σ0 j + 1) = V p + bk_v σ0 p j) ↔ P) : σ 89 p = 1 ↔ P := Iff.trans h hi
theorem bk_zc {σ τ : zs_S} {n : Int} {B K : Int → Int} (hz : bk_z σ n B K) (h : md_E σ τ) : bk_z τ n B K := by
  refine ⟨hz.1, fun x x1 x2 => ?_⟩
  rw [bk_fc (σ := σ) (τ := τ) h.1 h.2.1 h.2.2 x2 (fun _ _ _ => rfl) 6 (by omega)]
  exact hz.2 x x1 x2
theorem bk_Dc {σ τ : zs_S} {K : Int → Int} : ∀ {l : List (Int × Int)} {s e : Int}, bk_D τ K l s e → (∀ j : Int, 0 ≤ j → j < 6 → bk_n τ j = bk_n σ j) → (∀ z ∈ l, 0 ≤ z.2 ∧ z.2 < 6) → bk_D σ K l s e
  | [], _, _, h, _, _ => h
  | q :: r, s, e, ⟨h1, h2, h3, h4, h5⟩, hn, hm => ⟨h1, h2, h3, h4, by
    have hq := hm q List.mem_cons_self
    rw [← hn q.2 hq.1 hq.2]
    exact bk_Dc h5 hn (fun z hz => hm z (List.mem_cons_of_mem _ hz))⟩
theorem bk_Rv {σ τ : zs_S} {A : Int → Int} {l : List (Int × Int)} (h : bk_R τ A l) (hm : ∀ z ∈ l, 0 ≤ z.2 ∧ z.2 < 6) (hE : md_E σ τ) : bk_R σ A l := by
  intro i p j hi
  have ev := md_Ev (n := 0) (p := p) hE (hm (p, j) (List.mem_of_getElem? hi))
  obtain ⟨a, b, c, d, e, f⟩ := h i p j hi
  exact ⟨a, b, by rw [c, ev.2.2.2.1], by rw [d, ev.2.2.2.1], by rw [e, ev.2.2.2.2], by rw [f, ev.2.1]⟩
set_option maxRecDepth 20000 in
set_option maxHeartbeats 4000000 in
theorem l_bk3i {g : zg_G} {k : zk_T} {Q : Option Value → zs_S → Prop} (C : zk_ok g mX11_buck k) (hr : zk_ret g mX11_buck Q k) (n : Int) (σ0 : zs_S) (hA : md_A σ0 n) (B K : Int → Int) (hz : bk_z σ0 n B K) (V : Int → Int) (hU : mb_U n B V) (hE : mb_E σ0 n V (n + 1)) (p : Int) (hp : 0 ≤ p ∧ p ≤ n + 1) (hex : ∀ σ1, zf_x σ0 σ1 [88, 89] → σ1 88 = V → (∀ x, p ≤ x → x ≤ n + 1 → (σ1 89 x = 0 ∨ σ1 89 x = 1) ∧ (σ1 89 x = 1 ↔ mb_T B V x)) → zw_W g mX11_buck k 238 [(0, .ref (g.2.2.1 67)), (1, zv_i (n + 1)), (2, zv_i p)] [] σ1) : ∀ (N : Nat) (σ : zs_S) (a : Int), (6 - a).toNat < N → (0 ≤ a ∧ a ≤ 6) → (zf_x σ0 σ [88, 89]) → (σ 88 = V) → (∀ x, p < x → x ≤ n + 1 → (σ 89 x = 0 ∨ σ 89 x = 1) ∧ (σ 89 x = 1 ↔ mb_T B V x)) → (σ 89 p = 0 ∨ σ 89 p = 1) → (mb_H σ0 σ n B V p a) → zw_W g mX11_buck k 205 [(0, .ref (g.2.2.1 67)), (1, zv_i (n + 1)), (2, zv_i p), (3, zv_i a)] [] σ := by
  intro N
  induction N with
  | zero =>
    intro σ a hN
    exact absurd hN (by omega)
  | succ N ih =>
    intro σ a hN ha0 fr h88 hL hp9 hpi
    obtain ⟨hS, hK, hl, hd, hk, hc20, hdf, hgr⟩ := id hA
    obtain ⟨hn1, hn2, hlast, hd3, hd4⟩ := id hS
    have hA1 : md_A σ n := md_Af hA fr (by simp)
    have hE1 : md_E σ0 σ := md_Ef (md_Er σ0) fr (by simp)
    have vB : ∀ x, 0 ≤ x → x ≤ n + 1 → 0 ≤ σ 88 x ∧ σ 88 x ≤ 100000000 := fun x x1 x2 => by
      have u := hU x x1 x2
      have b := mb_1 hz ⟨hn1, hn2⟩ ⟨x1, x2⟩
      rw [h88]
      omega
    have kn : ∀ j : Int, 0 ≤ j → j < 6 → 0 ≤ bk_n σ0 j := fun j j1 j2 => (hK j j1 j2).1.1
    refine zr_iload_n (pc := 205) C dX11_buck_205 3 rfl ?_
    refine zr_bipush (pc := 206) C dX11_buck_206 (by decide) ?_
    refine zr_icmp_ge (pc := 208) C 238 dX11_buck_208 (by decide) (by omega) (by omega) (fun h_1 => ?_) (fun h_1 => ?_)
    · refine zr_sub [0, 1, 2] rfl ?_
      refine hex σ fr h88 (fun x x1 x2 => ?_)
      rcases (show x = p ∨ p < x by omega) with z | z
      · subst z
        refine ⟨hp9, mb_Hi hpi ?_⟩
        rcases (show x = n + 1 ∨ x ≤ n by omega) with q | q
        · subst q
          exact ⟨fun _ => (mb_e ⟨hn1, hn2⟩ hz kn hU hE).2.2.2, fun _ => Or.inl (Or.inl rfl)⟩
        · have e6 : a = 6 := by omega
          subst e6
          rw [mb_l hz hU hE ⟨by omega, q⟩]
          constructor
          · rintro ((y | y) | ⟨j, j1, j2, y⟩)
            · omega
            · exact Or.inl y
            · exact Or.inr ⟨j, j1, j2, y⟩
          · rintro (y | ⟨j, j1, j2, y⟩)
            · exact Or.inl (Or.inr y)
            · exact Or.inr ⟨j, j1, j2, y⟩
      · exact hL x z x2
    · refine zr_iload_n (pc := 211) C dX11_buck_211 2 rfl ?_
      refine zr_iload_n (pc := 212) C dX11_buck_212 1 rfl ?_
      refine zr_icmp_ge (pc := 213) C 238 dX11_buck_213 (by decide) (by omega) (by omega) (fun h_2 => ?_) (fun h_2 => ?_)
      · refine zr_sub [0, 1, 2] rfl ?_
        refine hex σ fr h88 (fun x x1 x2 => ?_)
        rcases (show x = p ∨ p < x by omega) with z | z
        · subst z
          refine ⟨hp9, mb_Hi hpi ?_⟩
          rcases (show x = n + 1 ∨ x ≤ n by omega) with q | q
          · subst q
            exact ⟨fun _ => (mb_e ⟨hn1, hn2⟩ hz kn hU hE).2.2.2, fun _ => Or.inl (Or.inl rfl)⟩
          · have e6 : a = 6 := by omega
            subst e6
            rw [mb_l hz hU hE ⟨by omega, q⟩]
            constructor
            · rintro ((y | y) | ⟨j, j1, j2, y⟩)
              · omega
              · exact Or.inl y
              · exact Or.inr ⟨j, j1, j2, y⟩
            · rintro (y | ⟨j, j1, j2, y⟩)
              · exact Or.inl (Or.inr y)
              · exact Or.inr ⟨j, j1, j2, y⟩
        · exact hL x z x2
      · have ev := md_Ev (n := n) (p := p) (j := a) hE1 ⟨by omega, by omega⟩
        have est : (bk_a σ n p a ∧ σ 89 (p + bk_n σ a + 1) = 1 ∧ σ 88 (p + bk_n σ a + 1) = σ 88 p + bk_v σ p a) ↔ (bk_a σ0 n p a ∧ mb_T B V (p + bk_n σ0 a + 1) ∧ V (p + bk_n σ0 a + 1) = V p + bk_v σ0 p a) := by
          rw [ev.1, ev.2.1, ev.2.2.1, h88]
          constructor
          · rintro ⟨x, y, z⟩
            have x1 := x.1
            have x2 := x.2.1
            exact ⟨x, (hL _ (by omega) (by omega)).2.mp y, z⟩
          · rintro ⟨x, y, z⟩
            have x1 := x.1
            have x2 := x.2.1
            exact ⟨x, (hL _ (by omega) (by omega)).2.mpr y, z⟩
        refine zr_aload_n (pc := 216) C dX11_buck_216 0 rfl ?_
        refine zr_iload_n (pc := 217) C dX11_buck_217 3 rfl ?_
        refine zr_iload_n (pc := 218) C dX11_buck_218 2 rfl ?_
        refine zr_callV (As := [zv_i a, zv_i p]) (rest := []) (b := 67) (pc := 219) C dX11_buck_219 kX11_steps vX11_112 rfl (by decide) (by decide) (hs_67 _) rfl (Nat.le_of_ble_eq_true rfl) (n_steps g σ n a p (by omega) (by omega) (by exact hA1) (by exact vB) (by exact fun x x1 x2 => (hL x x1 x2).1)) (fun v_ τ_ h_ => ?_)
        obtain ⟨rfl, rfl⟩ := h_
        show zw_W g mX11_buck k 222 [(0, .ref (g.2.2.1 67)), (1, zv_i (n + 1)), (2, zv_i p), (3, zv_i a)] [zv_i (zi_b (bk_a σ n p a ∧ σ 89 (p + bk_n σ a + 1) = 1 ∧ σ 88 (p + bk_n σ a + 1) = σ 88 p + bk_v σ p a))] σ
        refine zr_if_eq_b (pc := 222) C 232 dX11_buck_222 (by decide) (fun h_3 => ?_) (fun h_3 => ?_)
        · refine zr_iinc (L' := [(3, zv_i (a + 1)), (0, .ref (g.2.2.1 67)), (1, zv_i (n + 1)), (2, zv_i p)]) (pc := 232) C dX11_buck_232 3 rfl (by decide) rfl ?_
          refine zr_goto (pc := 235) C 205 dX11_buck_235 (by decide) ?_
          refine zr_sub [1, 2, 3, 0] rfl ?_
          exact ih σ (a + 1) (by omega) (by omega) fr h88 hL hp9 (mb_Hn hpi (fun z => absurd (est.mpr z) h_3))
        · refine zr_aload_n (pc := 225) C dX11_buck_225 0 rfl ?_
          refine zr_get (v := .ref (g.2.2.1 89)) (pc := 226) C 28 (some (some 89)) dX11_buck_226 fX11_73 (by decide) (hs_67 _) rfl rfl ?_
          refine zr_iload_n (pc := 229) C dX11_buck_229 2 rfl ?_
          refine zr_iconst (pc := 230) C dX11_buck_230 ?_
          refine zr_bastore (pc := 231) C dX11_buck_231 (by decide) (hs_89 _) (by omega) (by decide) (by omega) (fun τ_4 e_5 => ?_)
          refine zr_iinc (L' := [(3, zv_i (a + 1)), (0, .ref (g.2.2.1 67)), (1, zv_i (n + 1)), (2, zv_i p)]) (pc := 232) C dX11_buck_232 3 rfl (by decide) rfl ?_
          refine zr_goto (pc := 235) C 205 dX11_buck_235 (by decide) ?_
          refine zr_sub [1, 2, 3, 0] rfl ?_
          exact ih τ_4 (a + 1) (by omega) (by omega) (zf_p fr e_5 (by decide)) (by rw [show τ_4 88 = σ 88 from funext fun y => by rw [e_5, zs_put_ne (by decide)]]; exact h88) (fun x x1 x2 => by rw [e_5, zs_put_off (by omega)]; exact hL x x1 x2) (by rw [e_5, zs_put_self]; omega) (mb_Hy (by rw [e_5, zs_put_self]) (by omega) (est.mp h_3))

set_option maxRecDepth 20000 in
set_option maxHeartbeats 4000000 in
theorem l_bk3 {g : zg_G} {k : zk_T} {Q : Option Value → zs_S → Prop} (C : zk_ok g mX11_buck k) (hr : zk_ret g mX11_buck Q k) (n : Int) (σ0 : zs_S) (hA : md_A σ0 n) (B K : Int → Int) (hz : bk_z σ0 n B K) (V : Int → Int) (hU : mb_U n B V) (hE : mb_E σ0 n V (n + 1)) (hex : ∀ σ1, zf_x σ0 σ1 [88, 89] → σ1 88 = V → (∀ x, 0 ≤ x → x ≤ n + 1 → (σ1 89 x = 0 ∨ σ1 89 x = 1) ∧ (σ1 89 x = 1 ↔ mb_T B V x)) → zw_W g mX11_buck k 244 [(0, .ref (g.2.2.1 67)), (1, zv_i (n + 1))] [] σ1) : ∀ (N : Nat) (σ : zs_S) (p : Int), (p + 1).toNat < N → (-1 ≤ p ∧ p ≤ n + 1) → (zf_x σ0 σ [88, 89]) → (σ 88 = V) → (∀ x, p < x → x ≤ n + 1 → (σ 89 x = 0 ∨ σ 89 x = 1) ∧ (σ 89 x = 1 ↔ mb_T B V x)) → zw_W g mX11_buck k 155 [(0, .ref (g.2.2.1 67)), (1, zv_i (n + 1)), (2, zv_i p)] [] σ := by
  intro N
  induction N with
  | zero =>
    intro σ p hN
    exact absurd hN (by omega)
  | succ N ih =>
    intro σ p hN hp fr h88 hL
    obtain ⟨hS, hK, hl, hd, hk, hc20, hdf, hgr⟩ := id hA
    obtain ⟨hn1, hn2, hlast, hd3, hd4⟩ := id hS
    have hA1 : md_A σ n := md_Af hA fr (by simp)
    have hE1 : md_E σ0 σ := md_Ef (md_Er σ0) fr (by simp)
    have vB : ∀ x, 0 ≤ x → x ≤ n + 1 → 0 ≤ σ 88 x ∧ σ 88 x ≤ 100000000 := fun x x1 x2 => by
      have u := hU x x1 x2
      have b := mb_1 hz ⟨hn1, hn2⟩ ⟨x1, x2⟩
      rw [h88]
      omega
    have kn : ∀ j : Int, 0 ≤ j → j < 6 → 0 ≤ bk_n σ0 j := fun j j1 j2 => (hK j j1 j2).1.1
    refine zr_iload_n (pc := 155) C dX11_buck_155 2 rfl ?_
    refine zr_if_lt (pc := 156) C 244 dX11_buck_156 (by decide) (by omega) (fun h_1 => ?_) (fun h_1 => ?_)
    · refine zr_sub [0, 1] rfl ?_
      exact hex σ fr h88 (fun x x1 x2 => hL x (by omega) x2)
    · have v1 := vB p (by omega) (by omega)
      refine zr_aload_n (pc := 159) C dX11_buck_159 0 rfl ?_
      refine zr_get (v := .ref (g.2.2.1 89)) (pc := 160) C 28 (some (some 89)) dX11_buck_160 fX11_73 (by decide) (hs_67 _) rfl rfl ?_
      refine zr_iload_n (pc := 163) C dX11_buck_163 2 rfl ?_
      refine zr_iload_n (pc := 164) C dX11_buck_164 2 rfl ?_
      refine zr_iload_n (pc := 165) C dX11_buck_165 1 rfl ?_
      refine zr_icmp_eq (pc := 166) C 197 dX11_buck_166 (by decide) (by omega) (by omega) (fun h_2 => ?_) (fun h_2 => ?_)
      · refine zr_iconst (pc := 197) C dX11_buck_197 ?_
        refine zr_goto (pc := 198) C 202 dX11_buck_198 (by decide) ?_
        refine zr_bastore (pc := 202) C dX11_buck_202 (by decide) (hs_89 _) (by omega) (by decide) (by omega) (fun τ_3 e_4 => ?_)
        refine zr_iconst (pc := 203) C dX11_buck_203 ?_
        refine zr_istore_n (L' := [(3, zv_i 0), (0, .ref (g.2.2.1 67)), (1, zv_i (n + 1)), (2, zv_i p)]) (pc := 204) C dX11_buck_204 (by decide) rfl ?_
        refine zr_sub [1, 2, 3, 0] rfl ?_
        refine l_bk3i C hr n σ0 hA B K hz V hU hE p (by omega) (fun σ1 f1 k1 L1 => ?_) 7 τ_3 0 (by omega) (by omega) (zf_p fr e_4 (by decide)) (by rw [show τ_3 88 = σ 88 from funext fun y => by rw [e_4, zs_put_ne (by decide)]]; exact h88) (fun x x1 x2 => by rw [e_4, zs_put_off (by omega)]; exact hL x x1 x2) (by rw [e_4, zs_put_self]; omega) (by
          unfold mb_H
          rw [e_4, zs_put_self]
          exact ⟨fun _ => Or.inl (Or.inl (by omega)), fun _ => rfl⟩)
        refine zr_iinc (L' := [(2, zv_i (p + (-1))), (0, .ref (g.2.2.1 67)), (1, zv_i (n + 1))]) (pc := 238) C dX11_buck_238 2 rfl (by decide) rfl ?_
        refine zr_goto (pc := 241) C 155 dX11_buck_241 (by decide) ?_
        refine zr_sub [1, 2, 0] rfl ?_
        exact ih σ1 (p + (-1)) (by omega) (by omega) f1 k1 (fun x x1 x2 => L1 x (by omega) x2)
      · have v2 := vB (p + 1) (by omega) (by omega)
        have l1 := (hL (p + 1) (by omega) (by omega)).1
        refine zr_aload_n (pc := 169) C dX11_buck_169 0 rfl ?_
        refine zr_get (v := .ref (g.2.2.1 89)) (pc := 170) C 28 (some (some 89)) dX11_buck_170 fX11_73 (by decide) (hs_67 _) rfl rfl ?_
        refine zr_iload_n (pc := 173) C dX11_buck_173 2 rfl ?_
        refine zr_iconst (pc := 174) C dX11_buck_174 ?_
        refine zr_iadd (pc := 175) C dX11_buck_175 ?_
        refine zr_baload (pc := 176) C dX11_buck_176 (by decide) (hs_89 _) (by omega) (by decide) ?_
        refine zr_if_eq (pc := 177) C 201 dX11_buck_177 (by decide) (by omega) (fun h_5 => ?_) (fun h_5 => ?_)
        · refine zr_iconst (pc := 201) C dX11_buck_201 ?_
          refine zr_bastore (pc := 202) C dX11_buck_202 (by decide) (hs_89 _) (by omega) (by decide) (by omega) (fun τ_6 e_7 => ?_)
          refine zr_iconst (pc := 203) C dX11_buck_203 ?_
          refine zr_istore_n (L' := [(3, zv_i 0), (0, .ref (g.2.2.1 67)), (1, zv_i (n + 1)), (2, zv_i p)]) (pc := 204) C dX11_buck_204 (by decide) rfl ?_
          refine zr_sub [1, 2, 3, 0] rfl ?_
          refine l_bk3i C hr n σ0 hA B K hz V hU hE p (by omega) (fun σ1 f1 k1 L1 => ?_) 7 τ_6 0 (by omega) (by omega) (zf_p fr e_7 (by decide)) (by rw [show τ_6 88 = σ 88 from funext fun y => by rw [e_7, zs_put_ne (by decide)]]; exact h88) (fun x x1 x2 => by rw [e_7, zs_put_off (by omega)]; exact hL x x1 x2) (by rw [e_7, zs_put_self]; omega) (by
            unfold mb_H
            rw [e_7, zs_put_self]
            exact ⟨fun z => absurd z (by decide), fun z => by
              rcases z with (z | ⟨z1, z2⟩) | ⟨j, j1, j2, -⟩
              · omega
              · have z3 := (hL (p + 1) (by omega) (by omega)).2.mpr z1
                rw [← h88] at z2
                omega
              · omega⟩)
          refine zr_iinc (L' := [(2, zv_i (p + (-1))), (0, .ref (g.2.2.1 67)), (1, zv_i (n + 1))]) (pc := 238) C dX11_buck_238 2 rfl (by decide) rfl ?_
          refine zr_goto (pc := 241) C 155 dX11_buck_241 (by decide) ?_
          refine zr_sub [1, 2, 0] rfl ?_
          exact ih σ1 (p + (-1)) (by omega) (by omega) f1 k1 (fun x x1 x2 => L1 x (by omega) x2)
        · refine zr_aload_n (pc := 180) C dX11_buck_180 0 rfl ?_
          refine zr_get (v := .ref (g.2.2.1 88)) (pc := 181) C 27 (some (some 88)) dX11_buck_181 fX11_70 (by decide) (hs_67 _) rfl rfl ?_
          refine zr_iload_n (pc := 184) C dX11_buck_184 2 rfl ?_
          refine zr_iconst (pc := 185) C dX11_buck_185 ?_
          refine zr_iadd (pc := 186) C dX11_buck_186 ?_
          refine zr_iaload (pc := 187) C dX11_buck_187 (by decide) (hs_88 _) (by omega) (by decide) ?_
          refine zr_aload_n (pc := 188) C dX11_buck_188 0 rfl ?_
          refine zr_get (v := .ref (g.2.2.1 88)) (pc := 189) C 27 (some (some 88)) dX11_buck_189 fX11_70 (by decide) (hs_67 _) rfl rfl ?_
          refine zr_iload_n (pc := 192) C dX11_buck_192 2 rfl ?_
          refine zr_iaload (pc := 193) C dX11_buck_193 (by decide) (hs_88 _) (by omega) (by decide) ?_
          refine zr_icmp_ne (pc := 194) C 201 dX11_buck_194 (by decide) (by omega) (by omega) (fun h_8 => ?_) (fun h_8 => ?_)
          · refine zr_iconst (pc := 201) C dX11_buck_201 ?_
            refine zr_bastore (pc := 202) C dX11_buck_202 (by decide) (hs_89 _) (by omega) (by decide) (by omega) (fun τ_9 e_10 => ?_)
            refine zr_iconst (pc := 203) C dX11_buck_203 ?_
            refine zr_istore_n (L' := [(3, zv_i 0), (0, .ref (g.2.2.1 67)), (1, zv_i (n + 1)), (2, zv_i p)]) (pc := 204) C dX11_buck_204 (by decide) rfl ?_
            refine zr_sub [1, 2, 3, 0] rfl ?_
            refine l_bk3i C hr n σ0 hA B K hz V hU hE p (by omega) (fun σ1 f1 k1 L1 => ?_) 7 τ_9 0 (by omega) (by omega) (zf_p fr e_10 (by decide)) (by rw [show τ_9 88 = σ 88 from funext fun y => by rw [e_10, zs_put_ne (by decide)]]; exact h88) (fun x x1 x2 => by rw [e_10, zs_put_off (by omega)]; exact hL x x1 x2) (by rw [e_10, zs_put_self]; omega) (by
              unfold mb_H
              rw [e_10, zs_put_self]
              exact ⟨fun z => absurd z (by decide), fun z => by
                rcases z with (z | ⟨z1, z2⟩) | ⟨j, j1, j2, -⟩
                · omega
                · have z3 := (hL (p + 1) (by omega) (by omega)).2.mpr z1
                  rw [← h88] at z2
                  omega
                · omega⟩)
            refine zr_iinc (L' := [(2, zv_i (p + (-1))), (0, .ref (g.2.2.1 67)), (1, zv_i (n + 1))]) (pc := 238) C dX11_buck_238 2 rfl (by decide) rfl ?_
            refine zr_goto (pc := 241) C 155 dX11_buck_241 (by decide) ?_
            refine zr_sub [1, 2, 0] rfl ?_
            exact ih σ1 (p + (-1)) (by omega) (by omega) f1 k1 (fun x x1 x2 => L1 x (by omega) x2)
          · refine zr_iconst (pc := 197) C dX11_buck_197 ?_
            refine zr_goto (pc := 198) C 202 dX11_buck_198 (by decide) ?_
            refine zr_bastore (pc := 202) C dX11_buck_202 (by decide) (hs_89 _) (by omega) (by decide) (by omega) (fun τ_11 e_12 => ?_)
            refine zr_iconst (pc := 203) C dX11_buck_203 ?_
            refine zr_istore_n (L' := [(3, zv_i 0), (0, .ref (g.2.2.1 67)), (1, zv_i (n + 1)), (2, zv_i p)]) (pc := 204) C dX11_buck_204 (by decide) rfl ?_
            refine zr_sub [1, 2, 3, 0] rfl ?_
            refine l_bk3i C hr n σ0 hA B K hz V hU hE p (by omega) (fun σ1 f1 k1 L1 => ?_) 7 τ_11 0 (by omega) (by omega) (zf_p fr e_12 (by decide)) (by rw [show τ_11 88 = σ 88 from funext fun y => by rw [e_12, zs_put_ne (by decide)]]; exact h88) (fun x x1 x2 => by rw [e_12, zs_put_off (by omega)]; exact hL x x1 x2) (by rw [e_12, zs_put_self]; omega) (by
              unfold mb_H
              rw [e_12, zs_put_self]
              exact ⟨fun _ => Or.inl (Or.inr ⟨(hL (p + 1) (by omega) (by omega)).2.mp (by have := (hL (p + 1) (by omega) (by omega)).1; omega), by rw [← h88]; omega⟩), fun _ => rfl⟩)
            refine zr_iinc (L' := [(2, zv_i (p + (-1))), (0, .ref (g.2.2.1 67)), (1, zv_i (n + 1))]) (pc := 238) C dX11_buck_238 2 rfl (by decide) rfl ?_
            refine zr_goto (pc := 241) C 155 dX11_buck_241 (by decide) ?_
            refine zr_sub [1, 2, 0] rfl ?_
            exact ih σ1 (p + (-1)) (by omega) (by omega) f1 k1 (fun x x1 x2 => L1 x (by omega) x2)

set_option maxRecDepth 20000 in
set_option maxHeartbeats 4000000 in
theorem l_bk4i {g : zg_G} {k : zk_T} {Q : Option Value → zs_S → Prop} (C : zk_ok g mX11_buck k) (hr : zk_ret g mX11_buck Q k) (n : Int) (σ0 : zs_S) (hA : md_A σ0 n) (B K : Int → Int) (hz : bk_z σ0 n B K) (V : Int → Int) (hU : mb_U n B V) (hE : mb_E σ0 n V (n + 1)) (p : Int) (hp : 0 ≤ p ∧ p ≤ n) (ht : mb_T B V p) (hkp : 0 ≤ K p ∧ K p < 6) (σ1 : zs_S) (hex : zw_W g mX11_buck k 307 [(0, .ref (g.2.2.1 67)), (1, zv_i (n + 1)), (2, zv_i p), (3, zv_i (K p))] [] σ1) : ∀ (N : Nat) (σ : zs_S) (a : Int), (K p - a).toNat < N → (σ = σ1) → (0 ≤ a ∧ a ≤ K p) → (zf_x σ0 σ [67, 75, 88, 89] ∧ (∀ y, y ≠ 0 → y ≠ 10 → σ 67 y = σ0 67 y)) → (σ 88 = V) → (∀ x, 0 ≤ x → x ≤ n + 1 → (σ 89 x = 0 ∨ σ 89 x = 1) ∧ (σ 89 x = 1 ↔ mb_T B V x)) → zw_W g mX11_buck k 292 [(0, .ref (g.2.2.1 67)), (1, zv_i (n + 1)), (2, zv_i p), (3, zv_i a)] [] σ := by
  intro N
  induction N with
  | zero =>
    intro σ a hN
    exact absurd hN (by omega)
  | succ N ih =>
    intro σ a hN hs ha0 fr h88 hL
    subst hs
    obtain ⟨hS, hK, hl, hd, hk, hc20, hdf, hgr⟩ := id hA
    obtain ⟨hn1, hn2, hlast, hd3, hd4⟩ := id hS
    have hA1 : md_A σ n := md_Ax hA (fun c hc y => fr.1 c (by simp; omega) y) (fr.2 1 (by decide) (by decide)) (fr.2 3 (by decide) (by decide))
    have hE1 : md_E σ0 σ := md_Ef (md_Er σ0) fr.1 (by simp)
    have vB : ∀ x, 0 ≤ x → x ≤ n + 1 → 0 ≤ σ 88 x ∧ σ 88 x ≤ 100000000 := fun x x1 x2 => by
      have u := hU x x1 x2
      have b := mb_1 hz ⟨hn1, hn2⟩ ⟨x1, x2⟩
      rw [h88]
      omega
    obtain ⟨-, -, b3⟩ := mb_B hz hp
    obtain ⟨-, -, c3, c4, -, c6⟩ : 0 ≤ K p ∧ K p < 6 ∧ bk_a σ0 n p (K p) ∧ B p = bk_v σ0 p (K p) + B (p + bk_n σ0 (K p) + 1) ∧ B (p + 1) < B p ∧ ∀ a : Int, 0 ≤ a → a < K p → bk_a σ0 n p a → bk_v σ0 p a + B (p + bk_n σ0 a + 1) < B p := by
      rcases b3 with z | z
      · omega
      · exact z
    have ev := md_Ev (n := n) (p := p) (j := a) hE1 ⟨by omega, by omega⟩
    have est : (bk_a σ n p a ∧ σ 89 (p + bk_n σ a + 1) = 1 ∧ σ 88 (p + bk_n σ a + 1) = σ 88 p + bk_v σ p a) ↔ (bk_a σ0 n p a ∧ mb_T B V (p + bk_n σ0 a + 1) ∧ V (p + bk_n σ0 a + 1) = V p + bk_v σ0 p a) := by
      rw [ev.1, ev.2.1, ev.2.2.1, h88]
      constructor
      · rintro ⟨x, y, z⟩
        have x1 := x.1
        have x2 := x.2.1
        exact ⟨x, (hL _ (by omega) (by omega)).2.mp y, z⟩
      · rintro ⟨x, y, z⟩
        have x1 := x.1
        have x2 := x.2.1
        exact ⟨x, (hL _ (by omega) (by omega)).2.mpr y, z⟩
    refine zr_aload_n (pc := 292) C dX11_buck_292 0 rfl ?_
    refine zr_iload_n (pc := 293) C dX11_buck_293 3 rfl ?_
    refine zr_iload_n (pc := 294) C dX11_buck_294 2 rfl ?_
    refine zr_callV (As := [zv_i a, zv_i p]) (rest := []) (b := 67) (pc := 295) C dX11_buck_295 kX11_steps vX11_112 rfl (by decide) (by decide) (hs_67 _) rfl (Nat.le_of_ble_eq_true rfl) (n_steps g σ n a p (by omega) (by omega) (by exact hA1) (by exact vB) (by exact fun x x1 x2 => (hL x (by omega) x2).1)) (fun v_ τ_ h_ => ?_)
    obtain ⟨rfl, rfl⟩ := h_
    show zw_W g mX11_buck k 298 [(0, .ref (g.2.2.1 67)), (1, zv_i (n + 1)), (2, zv_i p), (3, zv_i a)] [zv_i (zi_b (bk_a σ n p a ∧ σ 89 (p + bk_n σ a + 1) = 1 ∧ σ 88 (p + bk_n σ a + 1) = σ 88 p + bk_v σ p a))] σ
    refine zr_if_ne_b (pc := 298) C 307 dX11_buck_298 (by decide) (fun h_1 => ?_) (fun h_1 => ?_)
    · have hst := est.mp h_1
      have e9 : a = K p := by
        rcases (show a < K p ∨ a = K p by omega) with z | z
        · have := c6 a (by omega) z hst.1
          have q := (mb_j hz hU hE hp (j := a) ⟨by omega, by omega⟩ ht hst.1).mp hst.2
          omega
        · exact z
      refine zr_sub [0, 1, 2, 3] rfl ?_
      rw [e9]
      exact hex
    · refine zr_iinc (L' := [(3, zv_i (a + 1)), (0, .ref (g.2.2.1 67)), (1, zv_i (n + 1)), (2, zv_i p)]) (pc := 301) C dX11_buck_301 3 rfl (by decide) rfl ?_
      refine zr_goto (pc := 304) C 292 dX11_buck_304 (by decide) ?_
      refine zr_sub [1, 2, 3, 0] rfl ?_
      have hlt : a < K p := by
        rcases (show a < K p ∨ a = K p by omega) with z | z
        · exact z
        · subst z
          exact absurd (est.mpr ⟨c3, (mb_j hz hU hE hp hkp ht c3).mpr c4.symm⟩) h_1
      exact ih σ (a + 1) (by omega) rfl (by omega) fr h88 hL

set_option maxRecDepth 20000 in
set_option maxHeartbeats 4000000 in
theorem l_bk4 {g : zg_G} {k : zk_T} {Q : Option Value → zs_S → Prop} (C : zk_ok g mX11_buck k) (hr : zk_ret g mX11_buck Q k) (n : Int) (σ0 : zs_S) (hA : md_A σ0 n) (B K : Int → Int) (hz : bk_z σ0 n B K) (V : Int → Int) (hU : mb_U n B V) (hE : mb_E σ0 n V (n + 1)) (hQ : ∀ τ l, (zf_x σ0 τ [67, 75, 88, 89] ∧ (∀ y, y ≠ 0 → y ≠ 10 → τ 67 y = σ0 67 y)) → bk_D σ0 K l 0 (n + 1) → bk_W σ0 n (n + 1) l → τ 67 10 = l.length → (l.length : Int) ≤ 40 → bk_R σ0 (τ 75) l → Q (some (zv_i (B 0))) τ) : ∀ (N : Nat) (σ : zs_S) (l : List (Int × Int)) (p : Int), (n + 1 - p).toNat < N → (0 ≤ p ∧ p ≤ n + 1) → (zf_x σ0 σ [67, 75, 88, 89] ∧ (∀ y, y ≠ 0 → y ≠ 10 → σ 67 y = σ0 67 y)) → (σ 88 = V) → (∀ x, 0 ≤ x → x ≤ n + 1 → (σ 89 x = 0 ∨ σ 89 x = 1) ∧ (σ 89 x = 1 ↔ mb_T B V x)) → (bk_D σ0 K l 0 p) → (σ 67 10 = l.length) → (bk_R σ0 (σ 75) l) → (2 * (l.length : Int) ≤ p) → (mb_T B V p) → (bk_W σ0 n p l) → zw_W g mX11_buck k 251 [(0, .ref (g.2.2.1 67)), (1, zv_i (n + 1)), (2, zv_i p)] [] σ := by
  intro N
  induction N with
  | zero =>
    intro σ l p hN
    exact absurd hN (by omega)
  | succ N ih =>
    intro σ l p hN hp fr h88 hL hD hc hR h2 ht hW
    obtain ⟨hS, hK, hl, hd, hk, hc20, hdf, hgr⟩ := id hA
    obtain ⟨hn1, hn2, hlast, hd3, hd4⟩ := id hS
    have hA1 : md_A σ n := md_Ax hA (fun c hc y => fr.1 c (by simp; omega) y) (fr.2 1 (by decide) (by decide)) (fr.2 3 (by decide) (by decide))
    have hE1 : md_E σ0 σ := md_Ef (md_Er σ0) fr.1 (by simp)
    have vB : ∀ x, 0 ≤ x → x ≤ n + 1 → 0 ≤ σ 88 x ∧ σ 88 x ≤ 100000000 := fun x x1 x2 => by
      have u := hU x x1 x2
      have b := mb_1 hz ⟨hn1, hn2⟩ ⟨x1, x2⟩
      rw [h88]
      omega
    refine zr_iload_n (pc := 251) C dX11_buck_251 2 rfl ?_
    refine zr_iload_n (pc := 252) C dX11_buck_252 1 rfl ?_
    refine zr_icmp_ge (pc := 253) C 327 dX11_buck_253 (by decide) (by omega) (by omega) (fun h_1 => ?_) (fun h_1 => ?_)
    · refine zr_aload_n (pc := 327) C dX11_buck_327 0 rfl ?_
      refine zr_get (v := .ref (g.2.2.1 88)) (pc := 328) C 27 (some (some 88)) dX11_buck_328 fX11_70 (by decide) (hs_67 _) rfl rfl ?_
      refine zr_iload_n (pc := 331) C dX11_buck_331 1 rfl ?_
      refine zr_iaload (pc := 332) C dX11_buck_332 (by decide) (hs_88 _) (by omega) (by decide) ?_
      exact zr_iret (pc := 333) C hr dX11_buck_333 rfl (by rw [h88, (mb_e ⟨hn1, hn2⟩ hz (fun j j1 j2 => (hK j j1 j2).1.1) hU hE).1]; exact hQ σ l fr (by rw [show n + 1 = p by omega]; exact hD) (by rw [show n + 1 = p by omega]; exact hW) hc (by omega) hR)
    · have v1 := vB p (by omega) (by omega)
      have v2 := vB (p + 1) (by omega) (by omega)
      have l1 := (hL (p + 1) (by omega) (by omega)).1
      refine zr_aload_n (pc := 256) C dX11_buck_256 0 rfl ?_
      refine zr_get (v := .ref (g.2.2.1 89)) (pc := 257) C 28 (some (some 89)) dX11_buck_257 fX11_73 (by decide) (hs_67 _) rfl rfl ?_
      refine zr_iload_n (pc := 260) C dX11_buck_260 2 rfl ?_
      refine zr_iconst (pc := 261) C dX11_buck_261 ?_
      refine zr_iadd (pc := 262) C dX11_buck_262 ?_
      refine zr_baload (pc := 263) C dX11_buck_263 (by decide) (hs_89 _) (by omega) (by decide) ?_
      refine zr_if_eq (pc := 264) C 290 dX11_buck_264 (by decide) (by omega) (fun h_2 => ?_) (fun h_2 => ?_)
      · refine zr_iconst (pc := 290) C dX11_buck_290 ?_
        refine zr_istore_n (L' := [(3, zv_i 0), (0, .ref (g.2.2.1 67)), (1, zv_i (n + 1)), (2, zv_i p)]) (pc := 291) C dX11_buck_291 (by decide) rfl ?_
        have hk : ¬ K p = -1 := fun z => by
          have q := (mb_s hz hU hE (by omega) ht).mpr z
          have q1 := (hL (p + 1) (by omega) (by omega)).2.mpr q.1
          have q2 := q.2
          rw [← h88] at q2
          omega
        obtain ⟨-, -, b3⟩ := mb_B hz (p := p) (by omega)
        obtain ⟨c1, c2, c3, c4, -, -⟩ : 0 ≤ K p ∧ K p < 6 ∧ bk_a σ0 n p (K p) ∧ B p = bk_v σ0 p (K p) + B (p + bk_n σ0 (K p) + 1) ∧ B (p + 1) < B p ∧ ∀ a : Int, 0 ≤ a → a < K p → bk_a σ0 n p a → bk_v σ0 p a + B (p + bk_n σ0 a + 1) < B p := by
          rcases b3 with z | z
          · exact absurd z.1 hk
          · exact z
        have a1 := c3.1
        have a2 := c3.2.1
        have ev := md_Ev (n := n) (p := p) (j := K p) hE1 ⟨c1, c2⟩
        have htt := (mb_j hz hU hE (p := p) (by omega) ⟨c1, c2⟩ ht c3).mpr c4.symm
        refine zr_sub [1, 2, 3, 0] rfl ?_
        refine l_bk4i C hr n σ0 hA B K hz V hU hE p (by omega) ht ⟨c1, c2⟩ σ ?_ 7 σ 0 (by omega) rfl (by omega) fr h88 hL
        refine zr_aload_n (pc := 307) C dX11_buck_307 0 rfl ?_
        refine zr_iload_n (pc := 308) C dX11_buck_308 3 rfl ?_
        refine zr_iload_n (pc := 309) C dX11_buck_309 2 rfl ?_
        refine zr_callV (As := [zv_i (K p), zv_i p]) (rest := []) (b := 67) (pc := 310) C dX11_buck_310 kX11_add vX11_115 rfl (by decide) (by decide) (hs_67 _) rfl (Nat.le_of_ble_eq_true rfl) (n_add g σ n (K p) p (l.length) (by exact ⟨c1, c2⟩) (by omega) (by exact hA1) (by exact ev.1.mpr c3) (by exact hc) (by omega)) (fun v_ τ_ h_ => ?_)
        obtain ⟨rfl, h_102⟩ := h_
        generalize τ_ = τ_101 at h_102 ⊢
        show zw_W g mX11_buck k 313 [(0, .ref (g.2.2.1 67)), (1, zv_i (n + 1)), (2, zv_i p), (3, zv_i (K p))] [] τ_101
        refine zr_iload_n (pc := 313) C dX11_buck_313 2 rfl ?_
        refine zr_aload_n (pc := 314) C dX11_buck_314 0 rfl ?_
        refine zr_get (v := .ref (g.2.2.1 72)) (pc := 315) C 7 (some (some 72)) dX11_buck_315 fX11_22 (by decide) (hs_67 _) rfl rfl ?_
        refine zr_iload_n (pc := 318) C dX11_buck_318 3 rfl ?_
        refine zr_iaload (pc := 319) C dX11_buck_319 (by decide) (hs_72 _) (by exact ⟨c1, c2⟩) (by decide) ?_
        refine zr_iconst (pc := 320) C dX11_buck_320 ?_
        refine zr_iadd (pc := 321) C dX11_buck_321 ?_
        refine zr_iadd (pc := 322) C dX11_buck_322 ?_
        refine zr_istore_n (L' := [(2, zv_i (p + ((τ_101 72 (K p)) + 1))), (0, .ref (g.2.2.1 67)), (1, zv_i (n + 1)), (3, zv_i (K p))]) (pc := 323) C dX11_buck_323 (by decide) rfl ?_
        refine zr_goto (pc := 324) C 251 dX11_buck_324 (by decide) ?_
        obtain ⟨d1, d2, d3, d4, d5⟩ := h_102
        have e72 : τ_101 72 (K p) = bk_n σ0 (K p) := by rw [d5 72 (by decide), (hA1.2.2.2.2.1 (K p) c1 c2).1]; exact ev.2.2.1
        have fr2 : zf_x σ0 τ_101 [67, 75, 88, 89] ∧ (∀ y, y ≠ 0 → y ≠ 10 → τ_101 67 y = σ0 67 y) := ⟨zf_t fr.1 d5 (by simp) (by simp), fun y y1 y2 => by rw [d4 y y2]; exact fr.2 y y1 y2⟩
        have e89 : τ_101 89 = σ 89 := funext (d5 89 (by decide))
        have hp2 : p + (τ_101 72 (K p) + 1) = p + bk_n σ0 (K p) + 1 := by rw [e72]; omega
        refine zr_sub [1, 2, 0] rfl ?_
        rw [hp2]
        exact ih τ_101 (l ++ [(p, K p)]) (p + bk_n σ0 (K p) + 1) (by omega) (by omega) fr2 (by rw [show τ_101 88 = σ 88 from funext (d5 88 (by decide))]; exact h88) (by rw [e89]; exact hL) (bk_Dy hD hk) (by rw [d1, List.length_append]; simp) (bk_Ra hR (fun j y1 y2 => d2 j y2) (by
          obtain ⟨z0, z1, z2, z3, z4, z5⟩ := d3
          exact ⟨z0, z1, by rw [z2, ev.2.2.2.1], by rw [z3, ev.2.2.2.1], by rw [z4, ev.2.2.2.2], by rw [z5, ev.2.1]⟩)) (by rw [List.length_append]; simp; omega) htt.1 (bk_Wa hW (by omega) ⟨by omega, by omega, ⟨c1, c2⟩, c3⟩)
      · refine zr_aload_n (pc := 267) C dX11_buck_267 0 rfl ?_
        refine zr_get (v := .ref (g.2.2.1 88)) (pc := 268) C 27 (some (some 88)) dX11_buck_268 fX11_70 (by decide) (hs_67 _) rfl rfl ?_
        refine zr_iload_n (pc := 271) C dX11_buck_271 2 rfl ?_
        refine zr_iconst (pc := 272) C dX11_buck_272 ?_
        refine zr_iadd (pc := 273) C dX11_buck_273 ?_
        refine zr_iaload (pc := 274) C dX11_buck_274 (by decide) (hs_88 _) (by omega) (by decide) ?_
        refine zr_aload_n (pc := 275) C dX11_buck_275 0 rfl ?_
        refine zr_get (v := .ref (g.2.2.1 88)) (pc := 276) C 27 (some (some 88)) dX11_buck_276 fX11_70 (by decide) (hs_67 _) rfl rfl ?_
        refine zr_iload_n (pc := 279) C dX11_buck_279 2 rfl ?_
        refine zr_iaload (pc := 280) C dX11_buck_280 (by decide) (hs_88 _) (by omega) (by decide) ?_
        refine zr_icmp_ne (pc := 281) C 290 dX11_buck_281 (by decide) (by omega) (by omega) (fun h_3 => ?_) (fun h_3 => ?_)
        · refine zr_iconst (pc := 290) C dX11_buck_290 ?_
          refine zr_istore_n (L' := [(3, zv_i 0), (0, .ref (g.2.2.1 67)), (1, zv_i (n + 1)), (2, zv_i p)]) (pc := 291) C dX11_buck_291 (by decide) rfl ?_
          have hk : ¬ K p = -1 := fun z => by
            have q := (mb_s hz hU hE (by omega) ht).mpr z
            have q1 := (hL (p + 1) (by omega) (by omega)).2.mpr q.1
            have q2 := q.2
            rw [← h88] at q2
            omega
          obtain ⟨-, -, b3⟩ := mb_B hz (p := p) (by omega)
          obtain ⟨c1, c2, c3, c4, -, -⟩ : 0 ≤ K p ∧ K p < 6 ∧ bk_a σ0 n p (K p) ∧ B p = bk_v σ0 p (K p) + B (p + bk_n σ0 (K p) + 1) ∧ B (p + 1) < B p ∧ ∀ a : Int, 0 ≤ a → a < K p → bk_a σ0 n p a → bk_v σ0 p a + B (p + bk_n σ0 a + 1) < B p := by
            rcases b3 with z | z
            · exact absurd z.1 hk
            · exact z
          have a1 := c3.1
          have a2 := c3.2.1
          have ev := md_Ev (n := n) (p := p) (j := K p) hE1 ⟨c1, c2⟩
          have htt := (mb_j hz hU hE (p := p) (by omega) ⟨c1, c2⟩ ht c3).mpr c4.symm
          refine zr_sub [1, 2, 3, 0] rfl ?_
          refine l_bk4i C hr n σ0 hA B K hz V hU hE p (by omega) ht ⟨c1, c2⟩ σ ?_ 7 σ 0 (by omega) rfl (by omega) fr h88 hL
          refine zr_aload_n (pc := 307) C dX11_buck_307 0 rfl ?_
          refine zr_iload_n (pc := 308) C dX11_buck_308 3 rfl ?_
          refine zr_iload_n (pc := 309) C dX11_buck_309 2 rfl ?_
          refine zr_callV (As := [zv_i (K p), zv_i p]) (rest := []) (b := 67) (pc := 310) C dX11_buck_310 kX11_add vX11_115 rfl (by decide) (by decide) (hs_67 _) rfl (Nat.le_of_ble_eq_true rfl) (n_add g σ n (K p) p (l.length) (by exact ⟨c1, c2⟩) (by omega) (by exact hA1) (by exact ev.1.mpr c3) (by exact hc) (by omega)) (fun v_ τ_ h_ => ?_)
          obtain ⟨rfl, h_102⟩ := h_
          generalize τ_ = τ_101 at h_102 ⊢
          show zw_W g mX11_buck k 313 [(0, .ref (g.2.2.1 67)), (1, zv_i (n + 1)), (2, zv_i p), (3, zv_i (K p))] [] τ_101
          refine zr_iload_n (pc := 313) C dX11_buck_313 2 rfl ?_
          refine zr_aload_n (pc := 314) C dX11_buck_314 0 rfl ?_
          refine zr_get (v := .ref (g.2.2.1 72)) (pc := 315) C 7 (some (some 72)) dX11_buck_315 fX11_22 (by decide) (hs_67 _) rfl rfl ?_
          refine zr_iload_n (pc := 318) C dX11_buck_318 3 rfl ?_
          refine zr_iaload (pc := 319) C dX11_buck_319 (by decide) (hs_72 _) (by exact ⟨c1, c2⟩) (by decide) ?_
          refine zr_iconst (pc := 320) C dX11_buck_320 ?_
          refine zr_iadd (pc := 321) C dX11_buck_321 ?_
          refine zr_iadd (pc := 322) C dX11_buck_322 ?_
          refine zr_istore_n (L' := [(2, zv_i (p + ((τ_101 72 (K p)) + 1))), (0, .ref (g.2.2.1 67)), (1, zv_i (n + 1)), (3, zv_i (K p))]) (pc := 323) C dX11_buck_323 (by decide) rfl ?_
          refine zr_goto (pc := 324) C 251 dX11_buck_324 (by decide) ?_
          obtain ⟨d1, d2, d3, d4, d5⟩ := h_102
          have e72 : τ_101 72 (K p) = bk_n σ0 (K p) := by rw [d5 72 (by decide), (hA1.2.2.2.2.1 (K p) c1 c2).1]; exact ev.2.2.1
          have fr2 : zf_x σ0 τ_101 [67, 75, 88, 89] ∧ (∀ y, y ≠ 0 → y ≠ 10 → τ_101 67 y = σ0 67 y) := ⟨zf_t fr.1 d5 (by simp) (by simp), fun y y1 y2 => by rw [d4 y y2]; exact fr.2 y y1 y2⟩
          have e89 : τ_101 89 = σ 89 := funext (d5 89 (by decide))
          have hp2 : p + (τ_101 72 (K p) + 1) = p + bk_n σ0 (K p) + 1 := by rw [e72]; omega
          refine zr_sub [1, 2, 0] rfl ?_
          rw [hp2]
          exact ih τ_101 (l ++ [(p, K p)]) (p + bk_n σ0 (K p) + 1) (by omega) (by omega) fr2 (by rw [show τ_101 88 = σ 88 from funext (d5 88 (by decide))]; exact h88) (by rw [e89]; exact hL) (bk_Dy hD hk) (by rw [d1, List.length_append]; simp) (bk_Ra hR (fun j y1 y2 => d2 j y2) (by
            obtain ⟨z0, z1, z2, z3, z4, z5⟩ := d3
            exact ⟨z0, z1, by rw [z2, ev.2.2.2.1], by rw [z3, ev.2.2.2.1], by rw [z4, ev.2.2.2.2], by rw [z5, ev.2.1]⟩)) (by rw [List.length_append]; simp; omega) htt.1 (bk_Wa hW (by omega) ⟨by omega, by omega, ⟨c1, c2⟩, c3⟩)
        · refine zr_iinc (L' := [(2, zv_i (p + 1)), (0, .ref (g.2.2.1 67)), (1, zv_i (n + 1))]) (pc := 284) C dX11_buck_284 2 rfl (by decide) rfl ?_
          refine zr_goto (pc := 287) C 251 dX11_buck_287 (by decide) ?_
          have hk : K p = -1 := (mb_s hz hU hE (by omega) ht).mp ⟨(hL (p + 1) (by omega) (by omega)).2.mp (by omega), by rw [← h88]; omega⟩
          refine zr_sub [1, 2, 0] rfl ?_
          exact ih σ l (p + 1) (by omega) (by omega) fr h88 hL (bk_Dn hD hk) hc hR (by omega) ((hL (p + 1) (by omega) (by omega)).2.mp (by omega)) (bk_We hW (by omega))

set_option maxRecDepth 20000 in
set_option maxHeartbeats 4000000 in
theorem n_buck (g : zg_G) (σ : zs_S) (n : Int) (hA : md_A σ n) (B K : Int → Int) (hz : bk_z σ n B K) : zm_Met g mX11_buck σ [.ref (g.2.2.1 67)] (fun v τ => ∃ l, v = some (zv_i (B 0)) ∧ (zf_x σ τ [67, 75, 88, 89] ∧ (∀ y, y ≠ 0 → y ≠ 10 → τ 67 y = σ 67 y)) ∧ bk_D σ K l 0 (n + 1) ∧ bk_W σ n (n + 1) l ∧ τ 67 10 = l.length ∧ (l.length : Int) ≤ 40 ∧ bk_R σ (τ 75) l) := by
  refine zm_of (by decide +kernel) (Nat.le_of_ble_eq_true rfl) ?_
  intro k C hr
  show zw_W g mX11_buck k 0 [(0, .ref (g.2.2.1 67))] [] σ
  obtain ⟨hS, hK, hl, hd, hk, hc20, hdf, hgr⟩ := id hA
  obtain ⟨hn1, hn2, hlast, hd3, hd4⟩ := id hS
  refine zr_aload_n (pc := 0) C dX11_buck_0 0 rfl ?_
  refine zr_iconst (pc := 1) C dX11_buck_1 ?_
  refine zr_put (pc := 2) C 0 0 rfl dX11_buck_2 pX11_84 (by decide) (hs_67 _) rfl (fun τ_1 e_2 => ?_)
  have fr0 : zf_x σ τ_1 [67] ∧ (∀ y, y ≠ 0 → τ_1 67 y = σ 67 y) := ⟨zf_p (zf_r σ _) e_2 (by decide), fun y hy => by rw [e_2, zs_put_off hy]⟩
  have e1 : τ_1 67 1 = n := (fr0.2 1 (by decide)).trans hl
  have hE0 : md_E σ τ_1 := md_Ef (md_Er σ) fr0.1 (by simp)
  have hA0 : md_A τ_1 n := md_Ap hA e_2 (by omega)
  have kn : ∀ j : Int, 0 ≤ j → j < 6 → 0 ≤ bk_n σ j := fun j j1 j2 => (hK j j1 j2).1.1
  refine zr_aload_n (pc := 5) C dX11_buck_5 0 rfl ?_
  refine zr_get (v := zv_i (τ_1 67 1)) (pc := 6) C 1 none dX11_buck_6 fX11_77 (by decide) (hs_67 _) rfl rfl ?_
  refine zr_iconst (pc := 9) C dX11_buck_9 ?_
  refine zr_iadd (pc := 10) C dX11_buck_10 ?_
  refine zr_istore_n (L' := [(1, zv_i ((τ_1 67 1) + 1)), (0, .ref (g.2.2.1 67))]) (pc := 11) C dX11_buck_11 (by decide) rfl ?_
  refine zr_iconst (pc := 12) C dX11_buck_12 ?_
  refine zr_istore_n (L' := [(2, zv_i 0), (1, zv_i ((τ_1 67 1) + 1)), (0, .ref (g.2.2.1 67))]) (pc := 13) C dX11_buck_13 (by decide) rfl ?_
  rw [e1]
  refine zr_sub [2, 1, 0] rfl ?_
  refine l_bk1 C hr n ⟨hn1, hn2⟩ τ_1 (fun σ1 f1 z1 => ?_) (n.toNat + 3) τ_1 0 (by omega) (by omega) (zf_r τ_1 _) (fun x x1 x2 => absurd x2 (by omega))
  refine zr_iconst (pc := 32) C dX11_buck_32 ?_
  refine zr_istore_n (L' := [(2, zv_i 0), (0, .ref (g.2.2.1 67)), (1, zv_i (n + 1))]) (pc := 33) C dX11_buck_33 (by decide) rfl ?_
  refine zr_sub [1, 2, 0] rfl ?_
  have hz1 : bk_z τ_1 n B K := bk_zc hz hE0
  refine l_bk2 C hr n τ_1 hA0 B K hz1 (fun σ2 f2 U2 E2 => ?_) (n.toNat + 2) σ1 0 (by omega) (by omega) f1 (fun x x1 x2 => by rw [z1 x x1 x2]; have := mb_1 hz ⟨hn1, hn2⟩ ⟨x1, x2⟩; omega) (fun q q1 q2 => absurd q2 (by omega))
  refine zr_iload_n (pc := 153) C dX11_buck_153 1 rfl ?_
  refine zr_istore_n (L' := [(2, zv_i (n + 1)), (0, .ref (g.2.2.1 67)), (1, zv_i (n + 1))]) (pc := 154) C dX11_buck_154 (by decide) rfl ?_
  refine zr_sub [1, 2, 0] rfl ?_
  refine l_bk3 C hr n τ_1 hA0 B K hz1 (σ2 88) U2 E2 (fun σ3 f3 k3 L3 => ?_) (n.toNat + 3) σ2 (n + 1) (by omega) (by omega) (zf_w f2 (by simp)) rfl (fun x x1 x2 => absurd x2 (by omega))
  refine zr_aload_n (pc := 244) C dX11_buck_244 0 rfl ?_
  refine zr_iconst (pc := 245) C dX11_buck_245 ?_
  refine zr_put (pc := 246) C 10 10 rfl dX11_buck_246 pX11_102 (by decide) (hs_67 _) rfl (fun τ_121 e_122 => ?_)
  refine zr_iconst (pc := 249) C dX11_buck_249 ?_
  refine zr_istore_n (L' := [(2, zv_i 0), (0, .ref (g.2.2.1 67)), (1, zv_i (n + 1))]) (pc := 250) C dX11_buck_250 (by decide) rfl ?_
  refine zr_sub [1, 2, 0] rfl ?_
  have me := mb_e ⟨hn1, hn2⟩ hz1 (fun j j1 j2 => by rw [(md_Ev (n := n) (p := 0) hE0 ⟨j1, j2⟩).2.2.1]; exact kn j j1 j2) U2 E2
  exact l_bk4 C hr n τ_1 hA0 B K hz1 (σ2 88) U2 E2 (fun τ l q1 q2 q3 q4 q5 q6 => ⟨l, rfl, ⟨zf_t fr0.1 q1.1 (by simp) (by simp), fun y y1 y2 => by rw [q1.2 y y1 y2, fr0.2 y y1]⟩, bk_Dc q2 (fun j j1 j2 => (md_Ev (n := n) (p := 0) hE0 ⟨j1, j2⟩).2.2.1) (fun z hz9 => (q3 z hz9).2.2.1), fun z hz9 => by obtain ⟨y1, y2, y3, y4⟩ := q3 z hz9; exact ⟨y1, y2, y3, (md_Ev (n := n) hE0 y3).1.mp y4⟩, q4, q5, bk_Rv q6 (fun z hz9 => (q3 z hz9).2.2.1) hE0⟩) (n.toNat + 2) τ_121 [] 0 (by omega) (by omega) ⟨zf_p (zf_w f3 (by simp)) e_122 (by decide), fun y y1 y2 => by rw [e_122, zs_put_off y2, f3 67 (by decide)]⟩ (by rw [show τ_121 88 = σ3 88 from funext fun y => by rw [e_122, zs_put_ne (by decide)]]; exact k3) (by rw [show τ_121 89 = σ3 89 from funext fun y => by rw [e_122, zs_put_ne (by decide)]]; exact L3) ⟨Int.le_refl _, fun x y1 y2 => absurd y2 (by omega)⟩ (by rw [e_122, zs_put_self]; rfl) (fun j p q h => by simp at h) (by simp) me.2.2.1 (fun z hz9 => by simp at hz9)
