/-! THE CLASS: Keeping, looking behind a stand -/
theorem nx_deed3 {c : KC} {sky : Nat} {s : ST} {x : Nat × ST} (hx : x ∈ nx c sky s) : x.1 = 0 ∨ (10 ≤ x.1 ∧ x.1 < 13) ∨ (100 ≤ x.1 ∧ x.1 < 130) := by
  obtain ⟨m, h1, -, rfl⟩ := nx_mem.mp hx
  show deedM m = 0 ∨ (10 ≤ deedM m ∧ deedM m < 13) ∨ (100 ≤ deedM m ∧ deedM m < 130)
  unfold deedM
  split <;> (try split) <;> omega
theorem need_3 {dd : Nat} (h : dd = 0 ∨ (10 ≤ dd ∧ dd < 13) ∨ (100 ≤ dd ∧ dd < 130)) : needB dd 3 = false := by
  unfold needB
  split
  · rfl
  · split
    · exact decide_eq_false (by omega)
    · exact decide_eq_false (by omega)
/-- who is left out, as the call says it -/
def lfO (lf : Int) (b : Nat) : Prop := (lf = -1 ∧ b = 3) ∨ (lf = (b : Int) ∧ b < 3)
theorem k_needs {d : Nat} {h : PH} {Q : PQ} {dd b : Nat} {lf : Int} (hd : dd = 0 ∨ (10 ≤ dd ∧ dd < 13) ∨ (100 ≤ dd ∧ dd < 130)) (hb : lfO lf b) : WP d 55 0 [some (vr 41), some (vi dd), some (vi lf)] [] h Q = Q (some (vi (if needB dd b then 1 else 0))) h := by
  rcases hb with ⟨rfl, rfl⟩ | ⟨rfl, hb⟩
  · rw [need_3 hd]
    simp only [Bool.false_eq_true, if_false]
    simp (disch := omega) only [e_55_0, e_55_1, e_55_2, e_55_5, e_55_6, e_55_9, e_55_10, e_55_11, e_55_12, e_55_14, e_55_17, e_55_18, e_55_20, e_55_21, e_55_22, e_55_25, e_55_26, e_55_29, e_55_30, e_55_33, e_55_34, e_55_36, e_55_37, e_55_39, e_55_40, e_55_41, e_55_44, e_55_45, e_55_48, e_55_49, iup_s, iup_n, hp_up1, hp_upn, ne_eq, not_false_eq_true, sh_0, sh_1, sh_2, sh_3, sh_4, sh_5, sh_8, sh_15, sh_16, sh_24, Int.reducePow, Int.cast_ofNat_Int, w_of, wl_of, ltT, ltF, leT, leF, eqT, eqF, okF_0, okF_s, gF_0, gF_s, consC_o, sF_0, sF_s, clsO_o, inA_i, ldA_i, stA_i, inJ_l, ldJ_l, stJ_l, inR_r, ldR_r, stR_r, tgR_r, lenA_i, lenA_l, lenA_r, lenA_ex, nl_i, nl_o, nl_l, nl_n, wd_n, wd_i, wd_l, wd_o, fit_i, fit_l, fit_o, K_v, K_n, true_and, and_true, Nat.reduceAdd, Nat.reduceLeDiff, Nat.reduceEqDiff, Nat.reduceMul, Nat.reduceLT, reduceIte, true_or, or_true, cmp_lt, cmp_gt, cmp_eq, wb_0, b_01, cmp_lt', cmp_gt', cmp_eq', b_0, b_1, wb_1, Int.reduceSub, Int.reduceToNat, List.getD_cons_succ, List.getD_cons_zero, Int.reduceLE, Int.reduceLT, Int.reduceEq, Int.reduceNeg, Int.reduceAdd, Int.reduceMul, and_self, em_b, ne_eq, not_false_eq_true, not_true_eq_false]
    try rfl
  · unfold needB
    by_cases h0 : dd = 0
    · rw [if_pos h0]
      subst h0
      simp only [Bool.false_eq_true, if_false]
      simp (disch := omega) only [e_55_0, e_55_1, e_55_2, e_55_5, e_55_6, e_55_9, e_55_10, e_55_11, e_55_12, e_55_14, e_55_17, e_55_18, e_55_20, e_55_21, e_55_22, e_55_25, e_55_26, e_55_29, e_55_30, e_55_33, e_55_34, e_55_36, e_55_37, e_55_39, e_55_40, e_55_41, e_55_44, e_55_45, e_55_48, e_55_49, nc0, iup_s, iup_n, hp_up1, hp_upn, ne_eq, not_false_eq_true, sh_0, sh_1, sh_2, sh_3, sh_4, sh_5, sh_8, sh_15, sh_16, sh_24, Int.reducePow, Int.cast_ofNat_Int, w_of, wl_of, ltT, ltF, leT, leF, eqT, eqF, okF_0, okF_s, gF_0, gF_s, consC_o, sF_0, sF_s, clsO_o, inA_i, ldA_i, stA_i, inJ_l, ldJ_l, stJ_l, inR_r, ldR_r, stR_r, tgR_r, lenA_i, lenA_l, lenA_r, lenA_ex, nl_i, nl_o, nl_l, nl_n, wd_n, wd_i, wd_l, wd_o, fit_i, fit_l, fit_o, K_v, K_n, true_and, and_true, Nat.reduceAdd, Nat.reduceLeDiff, Nat.reduceEqDiff, Nat.reduceMul, Nat.reduceLT, reduceIte, true_or, or_true, cmp_lt, cmp_gt, cmp_eq, wb_0, b_01, cmp_lt', cmp_gt', cmp_eq', b_0, b_1, wb_1, Int.reduceSub, Int.reduceToNat, List.getD_cons_succ, List.getD_cons_zero, Int.reduceLE, Int.reduceLT, Int.reduceEq, Int.reduceNeg, Int.reduceAdd, Int.reduceMul, and_self, em_b, ne_eq, not_false_eq_true, not_true_eq_false]
      try rfl
    · rw [if_neg h0]
      by_cases h1 : dd < 100
      · rw [if_pos h1]
        by_cases h2 : dd - 10 = b
        · rw [decide_eq_true h2]
          have h2' : (dd : Int) - 10 = (b : Int) := by omega
          simp only [if_true]
          simp (disch := omega) only [e_55_0, e_55_1, e_55_2, e_55_5, e_55_6, e_55_9, e_55_10, e_55_11, e_55_12, e_55_14, e_55_17, e_55_18, e_55_20, e_55_21, e_55_22, e_55_25, e_55_26, e_55_29, e_55_30, e_55_33, e_55_34, e_55_36, e_55_37, e_55_39, e_55_40, e_55_41, e_55_44, e_55_45, e_55_48, e_55_49, h2', iup_s, iup_n, hp_up1, hp_upn, ne_eq, not_false_eq_true, sh_0, sh_1, sh_2, sh_3, sh_4, sh_5, sh_8, sh_15, sh_16, sh_24, Int.reducePow, Int.cast_ofNat_Int, w_of, wl_of, ltT, ltF, leT, leF, eqT, eqF, okF_0, okF_s, gF_0, gF_s, consC_o, sF_0, sF_s, clsO_o, inA_i, ldA_i, stA_i, inJ_l, ldJ_l, stJ_l, inR_r, ldR_r, stR_r, tgR_r, lenA_i, lenA_l, lenA_r, lenA_ex, nl_i, nl_o, nl_l, nl_n, wd_n, wd_i, wd_l, wd_o, fit_i, fit_l, fit_o, K_v, K_n, true_and, and_true, Nat.reduceAdd, Nat.reduceLeDiff, Nat.reduceEqDiff, Nat.reduceMul, Nat.reduceLT, reduceIte, true_or, or_true, cmp_lt, cmp_gt, cmp_eq, wb_0, b_01, cmp_lt', cmp_gt', cmp_eq', b_0, b_1, wb_1, Int.reduceSub, Int.reduceToNat, List.getD_cons_succ, List.getD_cons_zero, Int.reduceLE, Int.reduceLT, Int.reduceEq, Int.reduceNeg, Int.reduceAdd, Int.reduceMul, and_self, em_b, ne_eq, not_false_eq_true, not_true_eq_false]
          try rfl
        · rw [decide_eq_false h2]
          have h2' : ¬ (dd : Int) - 10 = (b : Int) := by omega
          simp only [Bool.false_eq_true, if_false]
          simp (disch := omega) only [e_55_0, e_55_1, e_55_2, e_55_5, e_55_6, e_55_9, e_55_10, e_55_11, e_55_12, e_55_14, e_55_17, e_55_18, e_55_20, e_55_21, e_55_22, e_55_25, e_55_26, e_55_29, e_55_30, e_55_33, e_55_34, e_55_36, e_55_37, e_55_39, e_55_40, e_55_41, e_55_44, e_55_45, e_55_48, e_55_49, h2', iup_s, iup_n, hp_up1, hp_upn, ne_eq, not_false_eq_true, sh_0, sh_1, sh_2, sh_3, sh_4, sh_5, sh_8, sh_15, sh_16, sh_24, Int.reducePow, Int.cast_ofNat_Int, w_of, wl_of, ltT, ltF, leT, leF, eqT, eqF, okF_0, okF_s, gF_0, gF_s, consC_o, sF_0, sF_s, clsO_o, inA_i, ldA_i, stA_i, inJ_l, ldJ_l, stJ_l, inR_r, ldR_r, stR_r, tgR_r, lenA_i, lenA_l, lenA_r, lenA_ex, nl_i, nl_o, nl_l, nl_n, wd_n, wd_i, wd_l, wd_o, fit_i, fit_l, fit_o, K_v, K_n, true_and, and_true, Nat.reduceAdd, Nat.reduceLeDiff, Nat.reduceEqDiff, Nat.reduceMul, Nat.reduceLT, reduceIte, true_or, or_true, cmp_lt, cmp_gt, cmp_eq, wb_0, b_01, cmp_lt', cmp_gt', cmp_eq', b_0, b_1, wb_1, Int.reduceSub, Int.reduceToNat, List.getD_cons_succ, List.getD_cons_zero, Int.reduceLE, Int.reduceLT, Int.reduceEq, Int.reduceNeg, Int.reduceAdd, Int.reduceMul, and_self, em_b, ne_eq, not_false_eq_true, not_true_eq_false]
          try rfl
      · rw [if_neg h1]
        have td : ((dd : Int) - 100).tdiv 10 = ((dd : Int) - 100) / 10 := Int.tdiv_eq_ediv_of_nonneg (by omega)
        by_cases h2 : (dd - 100) / 10 = b
        · rw [decide_eq_true h2]
          have h2' : ((dd : Int) - 100) / 10 = (b : Int) := by omega
          simp only [if_true]
          simp (disch := omega) only [e_55_0, e_55_1, e_55_2, e_55_5, e_55_6, e_55_9, e_55_10, e_55_11, e_55_12, e_55_14, e_55_17, e_55_18, e_55_20, e_55_21, e_55_22, e_55_25, e_55_26, e_55_29, e_55_30, e_55_33, e_55_34, e_55_36, e_55_37, e_55_39, e_55_40, e_55_41, e_55_44, e_55_45, e_55_48, e_55_49, td, h2', iup_s, iup_n, hp_up1, hp_upn, ne_eq, not_false_eq_true, sh_0, sh_1, sh_2, sh_3, sh_4, sh_5, sh_8, sh_15, sh_16, sh_24, Int.reducePow, Int.cast_ofNat_Int, w_of, wl_of, ltT, ltF, leT, leF, eqT, eqF, okF_0, okF_s, gF_0, gF_s, consC_o, sF_0, sF_s, clsO_o, inA_i, ldA_i, stA_i, inJ_l, ldJ_l, stJ_l, inR_r, ldR_r, stR_r, tgR_r, lenA_i, lenA_l, lenA_r, lenA_ex, nl_i, nl_o, nl_l, nl_n, wd_n, wd_i, wd_l, wd_o, fit_i, fit_l, fit_o, K_v, K_n, true_and, and_true, Nat.reduceAdd, Nat.reduceLeDiff, Nat.reduceEqDiff, Nat.reduceMul, Nat.reduceLT, reduceIte, true_or, or_true, cmp_lt, cmp_gt, cmp_eq, wb_0, b_01, cmp_lt', cmp_gt', cmp_eq', b_0, b_1, wb_1, Int.reduceSub, Int.reduceToNat, List.getD_cons_succ, List.getD_cons_zero, Int.reduceLE, Int.reduceLT, Int.reduceEq, Int.reduceNeg, Int.reduceAdd, Int.reduceMul, and_self, em_b, ne_eq, not_false_eq_true, not_true_eq_false]
          try rfl
        · rw [decide_eq_false h2]
          have h2' : ¬ ((dd : Int) - 100) / 10 = (b : Int) := by omega
          simp only [Bool.false_eq_true, if_false]
          simp (disch := omega) only [e_55_0, e_55_1, e_55_2, e_55_5, e_55_6, e_55_9, e_55_10, e_55_11, e_55_12, e_55_14, e_55_17, e_55_18, e_55_20, e_55_21, e_55_22, e_55_25, e_55_26, e_55_29, e_55_30, e_55_33, e_55_34, e_55_36, e_55_37, e_55_39, e_55_40, e_55_41, e_55_44, e_55_45, e_55_48, e_55_49, td, h2', iup_s, iup_n, hp_up1, hp_upn, ne_eq, not_false_eq_true, sh_0, sh_1, sh_2, sh_3, sh_4, sh_5, sh_8, sh_15, sh_16, sh_24, Int.reducePow, Int.cast_ofNat_Int, w_of, wl_of, ltT, ltF, leT, leF, eqT, eqF, okF_0, okF_s, gF_0, gF_s, consC_o, sF_0, sF_s, clsO_o, inA_i, ldA_i, stA_i, inJ_l, ldJ_l, stJ_l, inR_r, ldR_r, stR_r, tgR_r, lenA_i, lenA_l, lenA_r, lenA_ex, nl_i, nl_o, nl_l, nl_n, wd_n, wd_i, wd_l, wd_o, fit_i, fit_l, fit_o, K_v, K_n, true_and, and_true, Nat.reduceAdd, Nat.reduceLeDiff, Nat.reduceEqDiff, Nat.reduceMul, Nat.reduceLT, reduceIte, true_or, or_true, cmp_lt, cmp_gt, cmp_eq, wb_0, b_01, cmp_lt', cmp_gt', cmp_eq', b_0, b_1, wb_1, Int.reduceSub, Int.reduceToNat, List.getD_cons_succ, List.getD_cons_zero, Int.reduceLE, Int.reduceLT, Int.reduceEq, Int.reduceNeg, Int.reduceAdd, Int.reduceMul, and_self, em_b, ne_eq, not_false_eq_true, not_true_eq_false]
          try rfl
def mxK : Int := 2147483647
/-- what is known: of the stands on the path nothing yet -/
def knI (c : KC) (sky b : Nat) (kn : Int → Int) (P : List ST) : Prop := ∀ s, okS c s → (kn (encC c s) = 0 ∧ ¬ s ∈ P) ∨ (kn (encC c s) = -1 ∧ s ∈ P) ∨ (kn (encC c s) = 2147483647 ∧ endl c sky b s ∧ ¬ s ∈ P) ∨ ∃ v : Nat, kn (encC c s) = ((v + 1 : Nat) : Int) ∧ valS c sky b s v ∧ ¬ s ∈ P
theorem kn_rng {c : KC} {sky b : Nat} {kn : Int → Int} {P : List ST} {s : ST} (hK : okK c) (hI : knI c sky b kn P) (hs : okS c s) : -1 ≤ kn (encC c s) ∧ (kn (encC c s) = 2147483647 ∨ kn (encC c s) ≤ 24000) := by
  rcases hI s hs with ⟨h, -⟩ | ⟨h, -⟩ | ⟨h, -⟩ | ⟨v, h, h2, -⟩
  · omega
  · omega
  · omega
  · have := valS_lt hK hs h2
    have := szC_le hK
    omega
def gdX (c : KC) (b : Nat) (x : Nat × ST) : Prop := downB c x.2 = false ∧ needB x.1 b = false
/-- the first j hours are looked through -/
def lkI (c : KC) (b : Nat) (kn : Int → Int) (L : List (Nat × ST)) (j most : Nat) (un : Int) : Prop :=
  (∀ (k : Nat) x, k < j → L[k]? = some x → gdX c b x → kn (encC c x.2) ≠ -1 ∧ kn (encC c x.2) ≠ 2147483647 ∧ kn (encC c x.2) ≤ most) ∧ (most = 0 ∨ ∃ (k : Nat) (x : Nat × ST), k < j ∧ L[k]? = some x ∧ gdX c b x ∧ kn (encC c x.2) = (most : Int)) ∧
  ((un = -1 ∧ ∀ (k : Nat) x, k < j → L[k]? = some x → gdX c b x → kn (encC c x.2) ≠ 0) ∨ ∃ (k : Nat) (x : Nat × ST), k < j ∧ L[k]? = some x ∧ gdX c b x ∧ kn (encC c x.2) = 0 ∧ un = (encC c x.2 : Int))
/-- what it answers -/
def lkR (c : KC) (b : Nat) (kn : Int → Int) (L : List (Nat × ST)) (v un : Int) : Prop := (v = 2147483647 ∧ ∃ x, x ∈ L ∧ gdX c b x ∧ (kn (encC c x.2) = -1 ∨ kn (encC c x.2) = 2147483647)) ∨ ∃ most : Nat, v = (most : Int) + 1 ∧ most ≤ 24000 ∧ lkI c b kn L L.length most un
theorem lk_0 {c : KC} {b : Nat} {kn : Int → Int} {L : List (Nat × ST)} : lkI c b kn L 0 0 (-1) := ⟨fun k x h => by omega, Or.inl rfl, Or.inl ⟨rfl, fun k x h => by omega⟩⟩
theorem lk_skip {c : KC} {b : Nat} {kn : Int → Int} {L : List (Nat × ST)} {j most : Nat} {un : Int} {x : Nat × ST} (h : lkI c b kn L j most un) (hx : L[j]? = some x) (hg : ¬ gdX c b x) : lkI c b kn L (j + 1) most un := by
  obtain ⟨h1, h2, h3⟩ := h
  refine ⟨fun k y hk hy gy => ?_, ?_, ?_⟩
  · by_cases z : k = j
    · rw [z, hx] at hy; cases hy; exact absurd gy hg
    · exact h1 k y (by omega) hy gy
  · rcases h2 with z | ⟨k, y, z1, z2⟩
    · exact Or.inl z
    · exact Or.inr ⟨k, y, by omega, z2⟩
  · rcases h3 with ⟨z1, z2⟩ | ⟨k, y, z1, z2⟩
    · refine Or.inl ⟨z1, fun k y hk hy gy => ?_⟩
      by_cases z : k = j
      · rw [z, hx] at hy; cases hy; exact absurd gy hg
      · exact z2 k y (by omega) hy gy
    · exact Or.inr ⟨k, y, by omega, z2⟩
theorem lk_step {c : KC} {b : Nat} {kn : Int → Int} {L : List (Nat × ST)} {j most v : Nat} {un : Int} {x : Nat × ST} (h : lkI c b kn L j most un) (hx : L[j]? = some x) (hg : gdX c b x) (hv : kn (encC c x.2) = (v : Int)) (h24 : v ≤ 24000) : lkI c b kn L (j + 1) (if most < v then v else most) (if v = 0 then (encC c x.2 : Int) else un) := by
  obtain ⟨h1, h2, h3⟩ := h
  refine ⟨fun k y hk hy gy => ?_, ?_, ?_⟩
  · by_cases z : k = j
    · rw [z, hx] at hy; cases hy
      refine ⟨by omega, by omega, ?_⟩
      split <;> omega
    · obtain ⟨a, b', c'⟩ := h1 k y (by omega) hy gy
      refine ⟨a, b', ?_⟩
      split <;> omega
  · by_cases z : most < v
    · rw [if_pos z]
      exact Or.inr ⟨j, x, by omega, hx, hg, hv⟩
    · rw [if_neg z]
      rcases h2 with z | ⟨k, y, z1, z2⟩
      · exact Or.inl z
      · exact Or.inr ⟨k, y, by omega, z2⟩
  · by_cases w : v = 0
    · rw [if_pos w]
      exact Or.inr ⟨j, x, by omega, hx, hg, by omega, rfl⟩
    · rw [if_neg w]
      rcases h3 with ⟨z1, z2⟩ | ⟨k, y, z1, z2⟩
      · refine Or.inl ⟨z1, fun k y hk hy gy => ?_⟩
        by_cases z : k = j
        · rw [z, hx] at hy; cases hy; omega
        · exact z2 k y (by omega) hy gy
      · exact Or.inr ⟨k, y, by omega, z2⟩
