/-- the logs l of a cutting: each allowed, on the stem, ahead of e -/
def bk_W (σ : zs_S) (n e : Int) (l : List (Int × Int)) : Prop := ∀ z ∈ l, z.1 < e ∧ 0 ≤ z.1 ∧ (0 ≤ z.2 ∧ z.2 < 6) ∧ bk_a σ n z.1 z.2
/-- what the best cutting leaves: its logs l in the Cutting q, which is the bucked one then -/
def bk_O (σ τ : zs_S) (n : Int) (q b : Nat) (B K : Int → Int) (l : List (Int × Int)) (r : Int) : Prop := bk_z σ n B K ∧ bk_D σ K l 0 (n + 1) ∧ bk_W σ n (n + 1) l ∧ r = B 0 ∧ τ q 0 = l.length ∧ (l.length : Int) ≤ 40 ∧ bk_R σ (τ (q + 1)) l ∧ τ 1 4 = q ∧ τ 1 5 = b ∧ τ 20 (n + 1) = 0 ∧ zf_x σ τ [1, 5, 6, 20, 21, q, q + 1]
theorem bk_We {σ : zs_S} {n e f : Int} {l : List (Int × Int)} (h : bk_W σ n e l) (hf : e ≤ f) : bk_W σ n f l := fun z hz => by
  obtain ⟨a, b⟩ := h z hz
  exact ⟨by omega, b⟩
theorem bk_Wa {σ : zs_S} {n e f p j : Int} {l : List (Int × Int)} (h : bk_W σ n e l) (hf : e ≤ f) (h1 : p < f ∧ 0 ≤ p ∧ (0 ≤ j ∧ j < 6) ∧ bk_a σ n p j) : bk_W σ n f (l ++ [(p, j)]) := fun z hz => by
  rcases List.mem_append.mp hz with q | q
  · exact bk_We h hf z q
  · rw [List.mem_singleton.mp q]
    exact h1
