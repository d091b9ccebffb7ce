/-! CHANCES: lots; the reference's chance, mean -/
noncomputable def hrT (c : KC) (sky : Nat) (s : ST) (m : Nat) : ST := toM c sky s (if whyM c sky s m = 0 then m else 0)
def sumP (f : Nat → Int) : Nat → Int
  | 0 => 0
  | p + 1 => sumP f p + f p
noncomputable def lotF (c : KC) (sky : Nat) (F : ST → Int) : List Nat → ST → Int
  | [], s => F s
  | m :: r, s => if downB c s then F s * 10 ^ (r.length + 1) else if downB c (hrT c sky s m) then F (hrT c sky s m) * 10 ^ (r.length + 1) else sumP (fun p => lotF c sky F r (weakS (hrT c sky s m) p)) (kN c) + (10 - (kN c : Int)) * lotF c sky F r (hrT c sky s m)
def upF (c : KC) (s : ST) : Int := if downB c s then 0 else 1
def stF (c : KC) (s : ST) : Int := (sumF (kN c) s.2.2 : Int)
theorem hrT_ok {c : KC} {sky : Nat} {s : ST} {m : Nat} (hs : okS c s) (hm : isMv c m = true) : okS c (hrT c sky s m) := by
  unfold hrT
  refine toM_ok hs ?_
  split
  · exact hm
  · exact isMv_0
theorem r_wholeOf {d n : Nat} {h : PH} {Q : PQ} (hn : n ≤ 6) : WP d 281 0 [some (vi n), none, none, none] [] h Q = Q (some (vl (10 ^ n))) h := by
  have lp : ∀ r k : Nat, k + r = n → WP d 281 4 [some (vi n), some (vl (10 ^ k)), none, some (vi k)] [] h Q = Q (some (vl (10 ^ n))) h := by
    intro r
    induction r with
    | zero =>
      intro k hk
      have : k = n := by omega
      subst this
      rw [e_281_4]
      simp (disch := omega) only [e_281_5, e_281_6, e_281_21, e_281_22, sh_0, sh_1, sh_2, sh_3, sh_4, sh_5, sh_8, sh_15, sh_16, sh_24, Int.reducePow, Int.cast_ofNat_Int, w_of, wl_of, ltT, ltF, leT, leF, eqT, eqF, okF_0, okF_s, gF_0, gF_s, consC_o, sF_0, sF_s, clsO_o, inA_i, ldA_i, stA_i, inJ_l, ldJ_l, stJ_l, inR_r, ldR_r, stR_r, tgR_r, lenA_i, lenA_l, lenA_r, lenA_ex, nl_i, nl_o, nl_l, nl_n, wd_n, wd_i, wd_l, wd_o, fit_i, fit_l, fit_o, K_v, K_n, true_and, and_true, Nat.reduceAdd, Nat.reduceLeDiff, Nat.reduceEqDiff, Nat.reduceMul, Nat.reduceLT, reduceIte, true_or, or_true, cmp_lt, cmp_gt, cmp_eq, wb_0, b_01, cmp_lt', cmp_gt', cmp_eq', b_0, b_1, wb_1, Int.reduceSub, Int.reduceToNat, List.getD_cons_succ, List.getD_cons_zero, Int.reduceLE, Int.reduceLT, Int.reduceEq, Int.reduceNeg, Int.reduceAdd, Int.reduceMul, and_self, em_b, ne_eq, not_false_eq_true, not_true_eq_false]
    | succ r ih =>
      intro k hk
      rw [← ih (k + 1) (by omega), Int.pow_succ]
      rw [e_281_4]
      simp (disch := omega) only [e_281_5, e_281_6, e_281_9, e_281_10, e_281_13, e_281_14, e_281_15, e_281_18, sh_0, sh_1, sh_2, sh_3, sh_4, sh_5, sh_8, sh_15, sh_16, sh_24, Int.reducePow, Int.cast_ofNat_Int, w_of, wl_of, ltT, ltF, leT, leF, eqT, eqF, okF_0, okF_s, gF_0, gF_s, consC_o, sF_0, sF_s, clsO_o, inA_i, ldA_i, stA_i, inJ_l, ldJ_l, stJ_l, inR_r, ldR_r, stR_r, tgR_r, lenA_i, lenA_l, lenA_r, lenA_ex, nl_i, nl_o, nl_l, nl_n, wd_n, wd_i, wd_l, wd_o, fit_i, fit_l, fit_o, K_v, K_n, true_and, and_true, Nat.reduceAdd, Nat.reduceLeDiff, Nat.reduceEqDiff, Nat.reduceMul, Nat.reduceLT, reduceIte, true_or, or_true, cmp_lt, cmp_gt, cmp_eq, wb_0, b_01, cmp_lt', cmp_gt', cmp_eq', b_0, b_1, wb_1, Int.reduceSub, Int.reduceToNat, List.getD_cons_succ, List.getD_cons_zero, Int.reduceLE, Int.reduceLT, Int.reduceEq, Int.reduceNeg, Int.reduceAdd, Int.reduceMul, and_self, em_b, ne_eq, not_false_eq_true, not_true_eq_false]
      try rfl
  have lp0 := lp n 0 (by omega)
  rw [nc0, show (10 : Int) ^ 0 = 1 from rfl] at lp0
  rw [← lp0]
  simp (disch := omega) only [e_281_0, e_281_1, e_281_2, e_281_3, sh_0, sh_1, sh_2, sh_3, sh_4, sh_5, sh_8, sh_15, sh_16, sh_24, Int.reducePow, Int.cast_ofNat_Int, w_of, wl_of, ltT, ltF, leT, leF, eqT, eqF, okF_0, okF_s, gF_0, gF_s, consC_o, sF_0, sF_s, clsO_o, inA_i, ldA_i, stA_i, inJ_l, ldJ_l, stJ_l, inR_r, ldR_r, stR_r, tgR_r, lenA_i, lenA_l, lenA_r, lenA_ex, nl_i, nl_o, nl_l, nl_n, wd_n, wd_i, wd_l, wd_o, fit_i, fit_l, fit_o, K_v, K_n, true_and, and_true, Nat.reduceAdd, Nat.reduceLeDiff, Nat.reduceEqDiff, Nat.reduceMul, Nat.reduceLT, reduceIte, true_or, or_true, cmp_lt, cmp_gt, cmp_eq, wb_0, b_01, cmp_lt', cmp_gt', cmp_eq', b_0, b_1, wb_1, Int.reduceSub, Int.reduceToNat, List.getD_cons_succ, List.getD_cons_zero, Int.reduceLE, Int.reduceLT, Int.reduceEq, Int.reduceNeg, Int.reduceAdd, Int.reduceMul, and_self, em_b, ne_eq, not_false_eq_true, not_true_eq_false]
theorem gcd_small {b r : Nat} (hr : 0 < r) (hb : r < b) : b % r < b - b / 2 := by
  have h1 := Nat.mod_lt b hr
  by_cases q : r ≤ b / 2
  · omega
  · have : b % r = b - r := by
      rw [Nat.mod_eq_sub_mod (by omega), Nat.mod_eq_of_lt (by omega)]
    omega
theorem r_common {h : PH} : ∀ (k a b : Nat), b < 2 ^ k → a < 4611686018427387904 → b < 4611686018427387904 → ∀ d Q, WP (d + 2 * k + 1) 283 0 [some (vl a), none, some (vl b), none] [] h Q = Q (some (vl (Nat.gcd a b))) h := by
  intro k
  induction k with
  | zero =>
    intro a b hb ha hb2 d Q
    have hb0 : b = 0 := by simp at hb; omega
    subst hb0
    rw [Nat.gcd_zero_right]
    simp (disch := omega) only [e_283_0, e_283_1, e_283_2, e_283_3, e_283_6, e_283_7, e_283_10, e_283_11, e_283_12, e_283_13, e_283_14, e_283_17, nc0, sh_0, sh_1, sh_2, sh_3, sh_4, sh_5, sh_8, sh_15, sh_16, sh_24, Int.reducePow, Int.cast_ofNat_Int, w_of, wl_of, ltT, ltF, leT, leF, eqT, eqF, okF_0, okF_s, gF_0, gF_s, consC_o, sF_0, sF_s, clsO_o, inA_i, ldA_i, stA_i, inJ_l, ldJ_l, stJ_l, inR_r, ldR_r, stR_r, tgR_r, lenA_i, lenA_l, lenA_r, lenA_ex, nl_i, nl_o, nl_l, nl_n, wd_n, wd_i, wd_l, wd_o, fit_i, fit_l, fit_o, K_v, K_n, true_and, and_true, Nat.reduceAdd, Nat.reduceLeDiff, Nat.reduceEqDiff, Nat.reduceMul, Nat.reduceLT, reduceIte, true_or, or_true, cmp_lt, cmp_gt, cmp_eq, wb_0, b_01, cmp_lt', cmp_gt', cmp_eq', b_0, b_1, wb_1, Int.reduceSub, Int.reduceToNat, List.getD_cons_succ, List.getD_cons_zero, Int.reduceLE, Int.reduceLT, Int.reduceEq, Int.reduceNeg, Int.reduceAdd, Int.reduceMul, and_self, em_b, ne_eq, not_false_eq_true, not_true_eq_false]
  | succ k ih =>
    intro a b hb ha hb2 d Q
    by_cases q : b = 0
    · subst q
      rw [Nat.gcd_zero_right]
      simp (disch := omega) only [e_283_0, e_283_1, e_283_2, e_283_3, e_283_6, e_283_7, e_283_10, e_283_11, e_283_12, e_283_13, e_283_14, e_283_17, nc0, sh_0, sh_1, sh_2, sh_3, sh_4, sh_5, sh_8, sh_15, sh_16, sh_24, Int.reducePow, Int.cast_ofNat_Int, w_of, wl_of, ltT, ltF, leT, leF, eqT, eqF, okF_0, okF_s, gF_0, gF_s, consC_o, sF_0, sF_s, clsO_o, inA_i, ldA_i, stA_i, inJ_l, ldJ_l, stJ_l, inR_r, ldR_r, stR_r, tgR_r, lenA_i, lenA_l, lenA_r, lenA_ex, nl_i, nl_o, nl_l, nl_n, wd_n, wd_i, wd_l, wd_o, fit_i, fit_l, fit_o, K_v, K_n, true_and, and_true, Nat.reduceAdd, Nat.reduceLeDiff, Nat.reduceEqDiff, Nat.reduceMul, Nat.reduceLT, reduceIte, true_or, or_true, cmp_lt, cmp_gt, cmp_eq, wb_0, b_01, cmp_lt', cmp_gt', cmp_eq', b_0, b_1, wb_1, Int.reduceSub, Int.reduceToNat, List.getD_cons_succ, List.getD_cons_zero, Int.reduceLE, Int.reduceLT, Int.reduceEq, Int.reduceNeg, Int.reduceAdd, Int.reduceMul, and_self, em_b, ne_eq, not_false_eq_true, not_true_eq_false]
    · have hr := Nat.mod_lt a (show 0 < b by omega)
      have e1 : (a : Int).tmod (b : Int) = ((a % b : Nat) : Int) := rfl
      have step1 : ∀ d Q, WP (d + 1) 283 0 [some (vl a), none, some (vl b), none] [] h Q = WP d 283 0 [some (vl b), none, some (vl ((a % b : Nat) : Int)), none] [] h Q := by
        intro d Q
        rw [e_283_0]
        sorry
      sorry
