/-- all boards of a pattern -/
def bo_T (st : Int → Int) (gp h : Int) (l1 l2 : List Int) : List (Int × Int × Int) := bo_r st l1 0 ++ bo_s st 1 (sw_F gp h) l2 0 ++ (if h = -1 then [] else bo_s st 2 (sw_F gp h) l2 0)
theorem bo_T1 {st : Int → Int} {gp : Int} {l1 l2 : List Int} : bo_T st gp (-1) l1 l2 = bo_r st l1 0 ++ bo_s st 1 (-2 * gp) l2 0 := by
  unfold bo_T sw_F
  simp
theorem bo_T2 {st : Int → Int} {gp h : Int} {l1 l2 : List Int} (hh : ¬ h = -1) : bo_T st gp h l1 l2 = bo_r st l1 0 ++ bo_s st 1 h l2 0 ++ bo_s st 2 h l2 0 := by
  unfold bo_T sw_F
  rw [if_neg hh, if_neg hh]
theorem bo_Tl {st : Int → Int} {gp h : Int} {l1 l2 : List Int} : ((bo_T st gp h l1 l2).length : Int) = l1.length + pa_s h * l2.length := by
  by_cases hh : h = -1
  · subst hh
    rw [bo_T1, pa_s1 rfl, List.length_append, bo_rl, bo_sl]
    omega
  · rw [bo_T2 hh, pa_s2 hh, List.length_append, List.length_append, bo_rl, bo_sl, bo_sl]
    omega
theorem bo_Tn {st : Int → Int} {gp h y : Int} {l1 l2 : List Int} : bo_n y (bo_T st gp h l1 l2) = ln_n y l1 + pa_s h * ln_n y l2 := by
  by_cases hh : h = -1
  · subst hh
    rw [bo_T1, pa_s1 rfl, bo_na, bo_nr, bo_ns]
    omega
  · rw [bo_T2 hh, pa_s2 hh, bo_na, bo_na, bo_nr, bo_ns, bo_ns]
    omega
