/-! CHANCES: lots; the reference's chance, mean -/
noncomputable def hrT (c : KC) (sky : Nat) (s : ST) (m : Nat) : ST := toM c sky s (if whyM c sky s m = 0 then m else 0)
def sumP (f : Nat → Int) : Nat → Int
  | 0 => 0
  | p + 1 => sumP f p + f p
noncomputable def lotF (c : KC) (sky : Nat) (F : ST → Int) : List Nat → ST → Int
  | [], s => F s
  | m :: r, s => if downB c s then F s * 10 ^ (r.length + 1) else if downB c (hrT c sky s m) then F (hrT c sky s m) * 10 ^ (r.length + 1) else sumP (fun p => lotF c sky F r (weakS (hrT c sky s m) p)) (kN c) + (10 - (kN c : Int)) * lotF c sky F r (hrT c sky s m)
def upF (c : KC) (s : ST) : Int := if downB c s then 0 else 1
def stF (c : KC) (s : ST) : Int := (sumF (kN c) s.2.2 : Int)
theorem hrT_ok {c : KC} {sky : Nat} {s : ST} {m : Nat} (hs : okS c s) (hm : isMv c m = true) : okS c (hrT c sky s m) := by
  unfold hrT
  refine toM_ok hs ?_
  split
  · exact hm
  · exact isMv_0
theorem r_wholeOf {d n : Nat} {h : PH} {Q : PQ} (hn : n ≤ 6) : WP d 281 0 [some (vi n), none, none, none] [] h Q = Q (some (vl (10 ^ n))) h := by
  have lp : ∀ r k : Nat, k + r = n → WP d 281 4 [some (vi n), some (vl (10 ^ k)), none, some (vi k)] [] h Q = Q (some (vl (10 ^ n))) h := by
    intro r
    induction r with
    | zero =>
      intro k hk
      have : k = n := by omega
      subst this
      rw [e_281_4]
      simp (disch := omega) only [e_281_5, e_281_6, e_281_21, e_281_22, sh_0, sh_1, sh_2, sh_3, sh_4, sh_5, sh_8, sh_15, sh_16, sh_24, Int.reducePow, Int.cast_ofNat_Int, w_of, wl_of, ltT, ltF, leT, leF, eqT, eqF, okF_0, okF_s, gF_0, gF_s, consC_o, sF_0, sF_s, clsO_o, inA_i, ldA_i, stA_i, inJ_l, ldJ_l, stJ_l, inR_r, ldR_r, stR_r, tgR_r, lenA_i, lenA_l, lenA_r, lenA_ex, nl_i, nl_o, nl_l, nl_n, wd_n, wd_i, wd_l, wd_o, fit_i, fit_l, fit_o, K_v, K_n, true_and, and_true, Nat.reduceAdd, Nat.reduceLeDiff, Nat.reduceEqDiff, Nat.reduceMul, Nat.reduceLT, reduceIte, true_or, or_true, cmp_lt, cmp_gt, cmp_eq, wb_0, b_01, cmp_lt', cmp_gt', cmp_eq', b_0, b_1, wb_1, Int.reduceSub, Int.reduceToNat, List.getD_cons_succ, List.getD_cons_zero, Int.reduceLE, Int.reduceLT, Int.reduceEq, Int.reduceNeg, Int.reduceAdd, Int.reduceMul, and_self, em_b, ne_eq, not_false_eq_true, not_true_eq_false]
    | succ r ih =>
      intro k hk
      rw [← ih (k + 1) (by omega), Int.pow_succ]
      rw [e_281_4]
      simp (disch := omega) only [e_281_5, e_281_6, e_281_9, e_281_10, e_281_13, e_281_14, e_281_15, e_281_18, sh_0, sh_1, sh_2, sh_3, sh_4, sh_5, sh_8, sh_15, sh_16, sh_24, Int.reducePow, Int.cast_ofNat_Int, w_of, wl_of, ltT, ltF, leT, leF, eqT, eqF, okF_0, okF_s, gF_0, gF_s, consC_o, sF_0, sF_s, clsO_o, inA_i, ldA_i, stA_i, inJ_l, ldJ_l, stJ_l, inR_r, ldR_r, stR_r, tgR_r, lenA_i, lenA_l, lenA_r, lenA_ex, nl_i, nl_o, nl_l, nl_n, wd_n, wd_i, wd_l, wd_o, fit_i, fit_l, fit_o, K_v, K_n, true_and, and_true, Nat.reduceAdd, Nat.reduceLeDiff, Nat.reduceEqDiff, Nat.reduceMul, Nat.reduceLT, reduceIte, true_or, or_true, cmp_lt, cmp_gt, cmp_eq, wb_0, b_01, cmp_lt', cmp_gt', cmp_eq', b_0, b_1, wb_1, Int.reduceSub, Int.reduceToNat, List.getD_cons_succ, List.getD_cons_zero, Int.reduceLE, Int.reduceLT, Int.reduceEq, Int.reduceNeg, Int.reduceAdd, Int.reduceMul, and_self, em_b, ne_eq, not_false_eq_true, not_true_eq_false]
      try rfl
  have lp0 := lp n 0 (by omega)
  rw [nc0, show (10 : Int) ^ 0 = 1 from rfl] at lp0
  rw [← lp0]
  simp (disch := omega) only [e_281_0, e_281_1, e_281_2, e_281_3, sh_0, sh_1, sh_2, sh_3, sh_4, sh_5, sh_8, sh_15, sh_16, sh_24, Int.reducePow, Int.cast_ofNat_Int, w_of, wl_of, ltT, ltF, leT, leF, eqT, eqF, okF_0, okF_s, gF_0, gF_s, consC_o, sF_0, sF_s, clsO_o, inA_i, ldA_i, stA_i, inJ_l, ldJ_l, stJ_l, inR_r, ldR_r, stR_r, tgR_r, lenA_i, lenA_l, lenA_r, lenA_ex, nl_i, nl_o, nl_l, nl_n, wd_n, wd_i, wd_l, wd_o, fit_i, fit_l, fit_o, K_v, K_n, true_and, and_true, Nat.reduceAdd, Nat.reduceLeDiff, Nat.reduceEqDiff, Nat.reduceMul, Nat.reduceLT, reduceIte, true_or, or_true, cmp_lt, cmp_gt, cmp_eq, wb_0, b_01, cmp_lt', cmp_gt', cmp_eq', b_0, b_1, wb_1, Int.reduceSub, Int.reduceToNat, List.getD_cons_succ, List.getD_cons_zero, Int.reduceLE, Int.reduceLT, Int.reduceEq, Int.reduceNeg, Int.reduceAdd, Int.reduceMul, and_self, em_b, ne_eq, not_false_eq_true, not_true_eq_false]
theorem gcd_small {b r : Nat} (hr : 0 < r) (hb : r < b) : b % r < b - b / 2 := by
  have h1 := Nat.mod_lt b hr
  by_cases q : r ≤ b / 2
  · omega
  · have : b % r = b - r := by
      rw [Nat.mod_eq_sub_mod (by omega), Nat.mod_eq_of_lt (by omega)]
    omega
theorem gcd_st (a b : Nat) : Nat.gcd a b = Nat.gcd b (a % b) := by rw [Nat.gcd_comm a b, Nat.gcd_rec b a, Nat.gcd_comm]
theorem r_common {h : PH} : ∀ (k a b : Nat), b < 2 ^ k → a < 4611686018427387904 → b < 4611686018427387904 → ∀ d Q, WP (d + 2 * k + 1) 283 0 [some (vl a), none, some (vl b), none] [] h Q = Q (some (vl (Nat.gcd a b))) h := by
  intro k
  induction k with
  | zero =>
    intro a b hb ha hb2 d Q
    have hb0 : b = 0 := by simp at hb; omega
    subst hb0
    rw [Nat.gcd_zero_right]
    simp (disch := omega) only [e_283_0, e_283_1, e_283_2, e_283_3, e_283_6, e_283_7, e_283_10, e_283_11, e_283_12, e_283_13, e_283_14, e_283_17, nc0, sh_0, sh_1, sh_2, sh_3, sh_4, sh_5, sh_8, sh_15, sh_16, sh_24, Int.reducePow, Int.cast_ofNat_Int, w_of, wl_of, ltT, ltF, leT, leF, eqT, eqF, okF_0, okF_s, gF_0, gF_s, consC_o, sF_0, sF_s, clsO_o, inA_i, ldA_i, stA_i, inJ_l, ldJ_l, stJ_l, inR_r, ldR_r, stR_r, tgR_r, lenA_i, lenA_l, lenA_r, lenA_ex, nl_i, nl_o, nl_l, nl_n, wd_n, wd_i, wd_l, wd_o, fit_i, fit_l, fit_o, K_v, K_n, true_and, and_true, Nat.reduceAdd, Nat.reduceLeDiff, Nat.reduceEqDiff, Nat.reduceMul, Nat.reduceLT, reduceIte, true_or, or_true, cmp_lt, cmp_gt, cmp_eq, wb_0, b_01, cmp_lt', cmp_gt', cmp_eq', b_0, b_1, wb_1, Int.reduceSub, Int.reduceToNat, List.getD_cons_succ, List.getD_cons_zero, Int.reduceLE, Int.reduceLT, Int.reduceEq, Int.reduceNeg, Int.reduceAdd, Int.reduceMul, and_self, em_b, ne_eq, not_false_eq_true, not_true_eq_false]
  | succ k ih =>
    intro a b hb ha hb2 d Q
    by_cases q : b = 0
    · subst q
      rw [Nat.gcd_zero_right]
      simp (disch := omega) only [e_283_0, e_283_1, e_283_2, e_283_3, e_283_6, e_283_7, e_283_10, e_283_11, e_283_12, e_283_13, e_283_14, e_283_17, nc0, sh_0, sh_1, sh_2, sh_3, sh_4, sh_5, sh_8, sh_15, sh_16, sh_24, Int.reducePow, Int.cast_ofNat_Int, w_of, wl_of, ltT, ltF, leT, leF, eqT, eqF, okF_0, okF_s, gF_0, gF_s, consC_o, sF_0, sF_s, clsO_o, inA_i, ldA_i, stA_i, inJ_l, ldJ_l, stJ_l, inR_r, ldR_r, stR_r, tgR_r, lenA_i, lenA_l, lenA_r, lenA_ex, nl_i, nl_o, nl_l, nl_n, wd_n, wd_i, wd_l, wd_o, fit_i, fit_l, fit_o, K_v, K_n, true_and, and_true, Nat.reduceAdd, Nat.reduceLeDiff, Nat.reduceEqDiff, Nat.reduceMul, Nat.reduceLT, reduceIte, true_or, or_true, cmp_lt, cmp_gt, cmp_eq, wb_0, b_01, cmp_lt', cmp_gt', cmp_eq', b_0, b_1, wb_1, Int.reduceSub, Int.reduceToNat, List.getD_cons_succ, List.getD_cons_zero, Int.reduceLE, Int.reduceLT, Int.reduceEq, Int.reduceNeg, Int.reduceAdd, Int.reduceMul, and_self, em_b, ne_eq, not_false_eq_true, not_true_eq_false]
    · have hr := Nat.mod_lt a (show 0 < b by omega)
      have e1 : (a : Int).tmod (b : Int) = ((a % b : Nat) : Int) := rfl
      have c1 : ∀ Q, WP (d + 2 * k + 1 + 1) 283 0 [some (vl b), none, some (vl ((a % b : Nat) : Int)), none] [] h Q = Q (some (vl (Nat.gcd b (a % b)))) h := by
        intro Q
        generalize a % b = r at hr
        by_cases q2 : r = 0
        · subst q2
          rw [Nat.gcd_zero_right]
          rw [e_283_0]
          simp (disch := omega) only [e_283_1, e_283_2, e_283_3, e_283_6, e_283_7, e_283_10, e_283_11, e_283_12, e_283_13, e_283_14, e_283_17, nc0, sh_0, sh_1, sh_2, sh_3, sh_4, sh_5, sh_8, sh_15, sh_16, sh_24, Int.reducePow, Int.cast_ofNat_Int, w_of, wl_of, ltT, ltF, leT, leF, eqT, eqF, okF_0, okF_s, gF_0, gF_s, consC_o, sF_0, sF_s, clsO_o, inA_i, ldA_i, stA_i, inJ_l, ldJ_l, stJ_l, inR_r, ldR_r, stR_r, tgR_r, lenA_i, lenA_l, lenA_r, lenA_ex, nl_i, nl_o, nl_l, nl_n, wd_n, wd_i, wd_l, wd_o, fit_i, fit_l, fit_o, K_v, K_n, true_and, and_true, Nat.reduceAdd, Nat.reduceLeDiff, Nat.reduceEqDiff, Nat.reduceMul, Nat.reduceLT, reduceIte, true_or, or_true, cmp_lt, cmp_gt, cmp_eq, wb_0, b_01, cmp_lt', cmp_gt', cmp_eq', b_0, b_1, wb_1, Int.reduceSub, Int.reduceToNat, List.getD_cons_succ, List.getD_cons_zero, Int.reduceLE, Int.reduceLT, Int.reduceEq, Int.reduceNeg, Int.reduceAdd, Int.reduceMul, and_self, em_b, ne_eq, not_false_eq_true, not_true_eq_false]
        · have hs := gcd_small (b := b) (r := r) (by omega) hr
          have e2 : (b : Int).tmod (r : Int) = ((b % r : Nat) : Int) := rfl
          have hlt : b % r < r := Nat.mod_lt _ (by omega)
          have i1 := ih r (b % r) (by rw [Nat.pow_succ] at hb; omega) (by omega) (by omega) d
          rw [gcd_st b r]
          rw [e_283_0]
          simp (disch := omega) only [e_283_1, e_283_2, e_283_3, e_283_6, e_283_7, e_283_10, e_283_11, e_283_12, e_283_13, e_283_14, e_283_17, e2, i1, sh_0, sh_1, sh_2, sh_3, sh_4, sh_5, sh_8, sh_15, sh_16, sh_24, Int.reducePow, Int.cast_ofNat_Int, w_of, wl_of, ltT, ltF, leT, leF, eqT, eqF, okF_0, okF_s, gF_0, gF_s, consC_o, sF_0, sF_s, clsO_o, inA_i, ldA_i, stA_i, inJ_l, ldJ_l, stJ_l, inR_r, ldR_r, stR_r, tgR_r, lenA_i, lenA_l, lenA_r, lenA_ex, nl_i, nl_o, nl_l, nl_n, wd_n, wd_i, wd_l, wd_o, fit_i, fit_l, fit_o, K_v, K_n, true_and, and_true, Nat.reduceAdd, Nat.reduceLeDiff, Nat.reduceEqDiff, Nat.reduceMul, Nat.reduceLT, reduceIte, true_or, or_true, cmp_lt, cmp_gt, cmp_eq, wb_0, b_01, cmp_lt', cmp_gt', cmp_eq', b_0, b_1, wb_1, Int.reduceSub, Int.reduceToNat, List.getD_cons_succ, List.getD_cons_zero, Int.reduceLE, Int.reduceLT, Int.reduceEq, Int.reduceNeg, Int.reduceAdd, Int.reduceMul, and_self, em_b, ne_eq, not_false_eq_true, not_true_eq_false]
      rw [show d + 2 * (k + 1) + 1 = d + 2 * k + 1 + 1 + 1 by omega, gcd_st a b]
      rw [e_283_0]
      simp (disch := omega) only [e_283_1, e_283_2, e_283_3, e_283_6, e_283_7, e_283_10, e_283_11, e_283_12, e_283_13, e_283_14, e_283_17, e1, c1, sh_0, sh_1, sh_2, sh_3, sh_4, sh_5, sh_8, sh_15, sh_16, sh_24, Int.reducePow, Int.cast_ofNat_Int, w_of, wl_of, ltT, ltF, leT, leF, eqT, eqF, okF_0, okF_s, gF_0, gF_s, consC_o, sF_0, sF_s, clsO_o, inA_i, ldA_i, stA_i, inJ_l, ldJ_l, stJ_l, inR_r, ldR_r, stR_r, tgR_r, lenA_i, lenA_l, lenA_r, lenA_ex, nl_i, nl_o, nl_l, nl_n, wd_n, wd_i, wd_l, wd_o, fit_i, fit_l, fit_o, K_v, K_n, true_and, and_true, Nat.reduceAdd, Nat.reduceLeDiff, Nat.reduceEqDiff, Nat.reduceMul, Nat.reduceLT, reduceIte, true_or, or_true, cmp_lt, cmp_gt, cmp_eq, wb_0, b_01, cmp_lt', cmp_gt', cmp_eq', b_0, b_1, wb_1, Int.reduceSub, Int.reduceToNat, List.getD_cons_succ, List.getD_cons_zero, Int.reduceLE, Int.reduceLT, Int.reduceEq, Int.reduceNeg, Int.reduceAdd, Int.reduceMul, and_self, em_b, ne_eq, not_false_eq_true, not_true_eq_false]
noncomputable def frV (a b : Nat) (what : Int) : Int := (if what = 0 then (a : Int) else (b : Int)) / (Nat.gcd a b : Int)
theorem r_part {h : PH} {a b : Nat} {what : Int} (ha : a < 16777216) (hb : b < 16777216) (hb0 : 0 < b) (hw : what = 0 ∨ what = 1) :
    ∀ d Q, WP (d + 50) 284 0 [some (vl a), none, some (vl b), none, some (vi what)] [] h Q = Q (some (vi (frV a b what))) h := by
  intro d Q
  have cm := fun Q => r_common (h := h) 24 a b (by omega) (by omega) (by omega) d Q
  have cm' : ∀ Q, WP (d + 49) 283 0 [some (vl a), none, some (vl b), none] [] h Q = Q (some (vl (Nat.gcd a b))) h := cm
  have hg : 0 < Nat.gcd a b := Nat.gcd_pos_of_pos_right a hb0
  have hg2 : Nat.gcd a b ≤ b := Nat.le_of_dvd hb0 (Nat.gcd_dvd_right a b)
  have ea : (a : Int).tdiv (Nat.gcd a b : Int) = (a : Int) / (Nat.gcd a b : Int) := Int.tdiv_eq_ediv_of_nonneg (by omega)
  have eb : (b : Int).tdiv (Nat.gcd a b : Int) = (b : Int) / (Nat.gcd a b : Int) := Int.tdiv_eq_ediv_of_nonneg (by omega)
  unfold frV
  rw [show d + 50 = d + 49 + 1 by omega]
  rcases hw with q | q
  · subst q
    rw [if_pos rfl]
    simp (disch := omega) only [e_284_0, e_284_2, e_284_5, e_284_6, e_284_9, e_284_10, e_284_11, e_284_12, e_284_15, e_284_16, e_284_17, cm', ea, sh_0, sh_1, sh_2, sh_3, sh_4, sh_5, sh_8, sh_15, sh_16, sh_24, Int.reducePow, Int.cast_ofNat_Int, w_of, wl_of, ltT, ltF, leT, leF, eqT, eqF, okF_0, okF_s, gF_0, gF_s, consC_o, sF_0, sF_s, clsO_o, inA_i, ldA_i, stA_i, inJ_l, ldJ_l, stJ_l, inR_r, ldR_r, stR_r, tgR_r, lenA_i, lenA_l, lenA_r, lenA_ex, nl_i, nl_o, nl_l, nl_n, wd_n, wd_i, wd_l, wd_o, fit_i, fit_l, fit_o, K_v, K_n, true_and, and_true, Nat.reduceAdd, Nat.reduceLeDiff, Nat.reduceEqDiff, Nat.reduceMul, Nat.reduceLT, reduceIte, true_or, or_true, cmp_lt, cmp_gt, cmp_eq, wb_0, b_01, cmp_lt', cmp_gt', cmp_eq', b_0, b_1, wb_1, Int.reduceSub, Int.reduceToNat, List.getD_cons_succ, List.getD_cons_zero, Int.reduceLE, Int.reduceLT, Int.reduceEq, Int.reduceNeg, Int.reduceAdd, Int.reduceMul, and_self, em_b, ne_eq, not_false_eq_true, not_true_eq_false]
  · subst q
    rw [if_neg (by omega)]
    simp (disch := omega) only [e_284_0, e_284_2, e_284_5, e_284_6, e_284_9, e_284_10, e_284_11, e_284_12, e_284_15, e_284_16, e_284_17, cm', eb, sh_0, sh_1, sh_2, sh_3, sh_4, sh_5, sh_8, sh_15, sh_16, sh_24, Int.reducePow, Int.cast_ofNat_Int, w_of, wl_of, ltT, ltF, leT, leF, eqT, eqF, okF_0, okF_s, gF_0, gF_s, consC_o, sF_0, sF_s, clsO_o, inA_i, ldA_i, stA_i, inJ_l, ldJ_l, stJ_l, inR_r, ldR_r, stR_r, tgR_r, lenA_i, lenA_l, lenA_r, lenA_ex, nl_i, nl_o, nl_l, nl_n, wd_n, wd_i, wd_l, wd_o, fit_i, fit_l, fit_o, K_v, K_n, true_and, and_true, Nat.reduceAdd, Nat.reduceLeDiff, Nat.reduceEqDiff, Nat.reduceMul, Nat.reduceLT, reduceIte, true_or, or_true, cmp_lt, cmp_gt, cmp_eq, wb_0, b_01, cmp_lt', cmp_gt', cmp_eq', b_0, b_1, wb_1, Int.reduceSub, Int.reduceToNat, List.getD_cons_succ, List.getD_cons_zero, Int.reduceLE, Int.reduceLT, Int.reduceEq, Int.reduceNeg, Int.reduceAdd, Int.reduceMul, and_self, em_b, ne_eq, not_false_eq_true, not_true_eq_false]
def lotOK (c : KC) (x : Int) : Bool := (moveD c x).isSome
def lotsC (c : KC) (s : ST) (T : TT) (t what : Int) : Int := if (0 ≤ t ∧ t ≤ 3) ∧ (0 ≤ what ∧ what ≤ 1) then (match T t.toNat with | none => -6 | some (_, l) => if 1 ≤ l.length ∧ l.length ≤ 6 then (if l.all (lotOK c) then (if downB c s then -5 else 0) else -3) else -4) else -2
theorem lotsC_0 {c : KC} {s : ST} {T : TT} {t what : Int} (h : lotsC c s T t what = 0) : ∃ (tn so : Nat) (l : List Int), t = tn ∧ tn < 4 ∧ T tn = some (so, l) ∧ 1 ≤ l.length ∧ l.length ≤ 6 ∧ (∀ x, x ∈ l → lotOK c x = true) ∧ downB c s = false ∧ (what = 0 ∨ what = 1) := by
  unfold lotsC at h
  by_cases q : (0 ≤ t ∧ t ≤ 3) ∧ (0 ≤ what ∧ what ≤ 1)
  · rw [if_pos q] at h
    cases e : T t.toNat with
    | none => rw [e] at h; dsimp only at h; exact absurd h (by decide)
    | some x =>
      obtain ⟨so, l⟩ := x
      rw [e] at h
      dsimp only at h
      by_cases q2 : 1 ≤ l.length ∧ l.length ≤ 6
      · rw [if_pos q2] at h
        by_cases q3 : l.all (lotOK c) = true
        · rw [if_pos q3] at h
          by_cases q4 : downB c s = true
          · rw [if_pos q4] at h; exact absurd h (by decide)
          · exact ⟨t.toNat, so, l, by omega, by omega, e, q2.1, q2.2, List.all_eq_true.mp q3, by simpa using q4, by omega⟩
        · rw [if_neg q3] at h; exact absurd h (by decide)
      · rw [if_neg q2] at h; exact absurd h (by decide)
  · rw [if_neg q] at h; exact absurd h (by decide)
theorem lotsC_b {c : KC} {s : ST} {T : TT} {t what : Int} : -6 ≤ lotsC c s T t what ∧ lotsC c s T t what ≤ 0 := by
  unfold lotsC
  split
  · cases T t.toNat with
    | none => dsimp only; exact ⟨by decide, by decide⟩
    | some x =>
      obtain ⟨so, l⟩ := x
      dsimp only
      split
      · split
        · split <;> exact ⟨by decide, by decide⟩
        · exact ⟨by decide, by decide⟩
      · exact ⟨by decide, by decide⟩
  · exact ⟨by decide, by decide⟩
theorem r_noChance {d : Nat} {h : PH} {i : Nat → Int} {A : Nat → Int → Int} {c : KC} {s : ST} {sky hrs : Nat} {T : TT} {t what : Int} {Q : PQ} (hq : refQ c s sky hrs A) (hT : traR T A) (h1 : -2147483648 ≤ t) (h2 : t < 2147483648) (h3 : -2147483648 ≤ what) (h4 : what < 2147483648) :
    WP (d + 3) 280 0 [some (vr 71), some (vi t), some (vi what), none, none] [] (mdH h i A) Q = Q (some (vi (lotsC c s T t what))) (mdH h i A) := by
  obtain ⟨hO, hR, hS, hs, hsky⟩ := hq
  have hK := hO.1
  have dn := fun (d : Nat) (Q : PQ) => r_downNow (d := d) (h := h) (i := i) (Q := Q) hK hR hS hs
  have w1 := fun (d : Nat) (h : PH) (Q : PQ) => r_within (d := d) (h := h) (Q := Q) (v := t) (lo := 0) (hi := 3) (by omega) (by omega) (by omega) (by omega) (by omega) (by omega)
  have w2 := fun (d : Nat) (h : PH) (Q : PQ) => r_within (d := d) (h := h) (Q := Q) (v := what) (lo := 0) (hi := 1) (by omega) (by omega) (by omega) (by omega) (by omega) (by omega)
  have nt := fun (d : Nat) (Q : PQ) => r_noTray (d := d) (h := h) (i := i) (Q := Q) hT h1 h2
  unfold lotsC
  by_cases q : 0 ≤ t ∧ t ≤ 3
  · have q' := eq_true q
    simp only [q', if_true] at w1
    by_cases qw : 0 ≤ what ∧ what ≤ 1
    · have qw' := eq_true qw
      simp only [qw', if_true] at w2
      obtain ⟨tn, rfl⟩ : ∃ tn : Nat, t = tn := ⟨t.toNat, by omega⟩
      have ht4 : tn < 4 := by omega
      simp only [q', qw', and_self, if_true, Int.toNat_natCast]
      unfold trayC at nt
      simp only [q', if_true, Int.toNat_natCast] at nt
      cases e : T tn with
      | none =>
        rw [e] at nt
        simp (disch := omega) only [e_280_0, e_280_1, e_280_2, e_280_3, e_280_6, e_280_9, e_280_12, e_280_13, e_280_14, e_280_15, e_280_16, e_280_19, e_280_22, e_280_24, e_280_25, e_280_26, e_280_27, e_280_30, e_280_31, e_280_32, e_280_35, e_280_36, w1, w2, nt, mdO_c, mdO_g0, mdO_k0, mdO_g1, mdO_k1, mdO_g2, mdO_k2, mdO_g3, mdO_k3, mdO_g4, mdO_k4, mdO_g5, mdO_k5, mdO_g6, mdO_k6, mdO_g7, mdO_k7, mdO_g8, mdO_k8, mdO_g9, mdO_k9, mdO_g10, mdO_k10, mdO_g11, mdO_k11, mdO_g12, mdO_k12, mdO_g13, mdO_k13, mdO_g14, mdO_k14, mdO_g15, mdO_k15, mdO_g16, mdO_k16, mdO_g17, mdO_k17, mdO_g18, mdO_k18, mdO_g19, mdO_k19, mdO_g20, mdO_k20, mdO_g21, mdO_k21, mdO_g22, mdO_k22, mdO_g23, mdO_k23, mdO_g24, mdO_k24, mdO_g25, mdO_k25, mdO_g26, mdO_k26, mdO_g27, mdO_k27, mdO_g28, mdO_k28, mdO_g29, mdO_k29, mdO_g30, mdO_k30, mdO_g31, mdO_k31, mdO_g32, mdO_k32, mdO_g33, mdO_k33, mdO_g34, mdO_k34, mdO_g35, mdO_k35, mdO_s0, mdO_s5, mdO_s6, mdO_s7, mdO_s8, mdO_s9, mdO_s10, mdO_s11, mdO_s12, mdO_s13, mdO_s14, mdO_s15, mdO_s19, mdO_s20, mdO_s25, mdO_s26, mdO_s31, mdO_s32, md_1, md_2, md_g71, md_g72, md_g73, md_g74, md_g75, md_g76, md_g77, md_g78, md_g79, md_g80, md_g81, md_g82, md_g83, md_g84, md_g85, md_g86, md_g87, md_g88, md_g89, md_out, md_u71, md_u72, md_u73, md_u74, md_u75, md_u76, md_u77, md_u78, md_u79, md_u80, md_u81, md_u82, md_u83, md_u84, md_u85, md_u86, md_u87, md_u88, md_u89, md_uo, iup_s, iup_n, aup_s, aup_n, ne_eq, not_false_eq_true, sh_0, sh_1, sh_2, sh_3, sh_4, sh_5, sh_8, sh_15, sh_16, sh_24, Int.reducePow, Int.cast_ofNat_Int, w_of, wl_of, ltT, ltF, leT, leF, eqT, eqF, okF_0, okF_s, gF_0, gF_s, consC_o, sF_0, sF_s, clsO_o, inA_i, ldA_i, stA_i, inJ_l, ldJ_l, stJ_l, inR_r, ldR_r, stR_r, tgR_r, lenA_i, lenA_l, lenA_r, lenA_ex, nl_i, nl_o, nl_l, nl_n, wd_n, wd_i, wd_l, wd_o, fit_i, fit_l, fit_o, K_v, K_n, true_and, and_true, Nat.reduceAdd, Nat.reduceLeDiff, Nat.reduceEqDiff, Nat.reduceMul, Nat.reduceLT, reduceIte, true_or, or_true, cmp_lt, cmp_gt, cmp_eq, wb_0, b_01, cmp_lt', cmp_gt', cmp_eq', b_0, b_1, wb_1, Int.reduceSub, Int.reduceToNat, List.getD_cons_succ, List.getD_cons_zero, Int.reduceLE, Int.reduceLT, Int.reduceEq, Int.reduceNeg, Int.reduceAdd, Int.reduceMul, and_self, em_b, ne_eq, not_false_eq_true, not_true_eq_false]
      | some x =>
        obtain ⟨so, l⟩ := x
        rw [e] at nt
        obtain ⟨e1, e2, e3, e4, e5⟩ := traR_s hT ht4 e
        dsimp only at nt ⊢
        have wi := fun (d : Nat) (h : PH) (Q : PQ) => r_within (d := d) (h := h) (Q := Q) (v := (l.length : Int)) (lo := 1) (hi := 6) (by omega) (by omega) (by omega) (by omega) (by omega) (by omega)
        by_cases q2 : 1 ≤ l.length ∧ l.length ≤ 6
        · have t2 : (1 ≤ (l.length : Int) ∧ (l.length : Int) ≤ 6) = True := eq_true (by omega)
          simp only [t2, if_true] at wi
          rw [if_pos q2]
          have lp : ∀ (r k : Nat), k + r = l.length → WP (d + 3) 280 60 [some (vr 71), some (vi (tn : Nat)), some (vi what), some (vi 0), some (vi k)] [] (mdH h i A) Q = Q (some (vi (if (l.drop k).all (lotOK c) then (if downB c s then -5 else 0) else -3))) (mdH h i A) := by
            intro r
            induction r with
            | zero =>
              intro k hk
              have hk' : k = l.length := by omega
              subst hk'
              have e6 : (l.drop l.length).all (lotOK c) = true := by rw [List.drop_length]; rfl
              rw [e6, if_pos rfl]
              by_cases h0 : downB c s = true
              · simp only [h0, if_true] at dn ⊢
                rw [e_280_60]
                simp (disch := omega) only [e_280_62, e_280_63, e_280_66, e_280_67, e_280_68, e_280_100, e_280_101, e_280_104, e_280_107, e_280_109, e_280_112, e_280_113, e3, dn, mdO_c, mdO_g0, mdO_k0, mdO_g1, mdO_k1, mdO_g2, mdO_k2, mdO_g3, mdO_k3, mdO_g4, mdO_k4, mdO_g5, mdO_k5, mdO_g6, mdO_k6, mdO_g7, mdO_k7, mdO_g8, mdO_k8, mdO_g9, mdO_k9, mdO_g10, mdO_k10, mdO_g11, mdO_k11, mdO_g12, mdO_k12, mdO_g13, mdO_k13, mdO_g14, mdO_k14, mdO_g15, mdO_k15, mdO_g16, mdO_k16, mdO_g17, mdO_k17, mdO_g18, mdO_k18, mdO_g19, mdO_k19, mdO_g20, mdO_k20, mdO_g21, mdO_k21, mdO_g22, mdO_k22, mdO_g23, mdO_k23, mdO_g24, mdO_k24, mdO_g25, mdO_k25, mdO_g26, mdO_k26, mdO_g27, mdO_k27, mdO_g28, mdO_k28, mdO_g29, mdO_k29, mdO_g30, mdO_k30, mdO_g31, mdO_k31, mdO_g32, mdO_k32, mdO_g33, mdO_k33, mdO_g34, mdO_k34, mdO_g35, mdO_k35, mdO_s0, mdO_s5, mdO_s6, mdO_s7, mdO_s8, mdO_s9, mdO_s10, mdO_s11, mdO_s12, mdO_s13, mdO_s14, mdO_s15, mdO_s19, mdO_s20, mdO_s25, mdO_s26, mdO_s31, mdO_s32, md_1, md_2, md_g71, md_g72, md_g73, md_g74, md_g75, md_g76, md_g77, md_g78, md_g79, md_g80, md_g81, md_g82, md_g83, md_g84, md_g85, md_g86, md_g87, md_g88, md_g89, md_out, md_u71, md_u72, md_u73, md_u74, md_u75, md_u76, md_u77, md_u78, md_u79, md_u80, md_u81, md_u82, md_u83, md_u84, md_u85, md_u86, md_u87, md_u88, md_u89, md_uo, iup_s, iup_n, aup_s, aup_n, ne_eq, not_false_eq_true, sh_0, sh_1, sh_2, sh_3, sh_4, sh_5, sh_8, sh_15, sh_16, sh_24, Int.reducePow, Int.cast_ofNat_Int, w_of, wl_of, ltT, ltF, leT, leF, eqT, eqF, okF_0, okF_s, gF_0, gF_s, consC_o, sF_0, sF_s, clsO_o, inA_i, ldA_i, stA_i, inJ_l, ldJ_l, stJ_l, inR_r, ldR_r, stR_r, tgR_r, lenA_i, lenA_l, lenA_r, lenA_ex, nl_i, nl_o, nl_l, nl_n, wd_n, wd_i, wd_l, wd_o, fit_i, fit_l, fit_o, K_v, K_n, true_and, and_true, Nat.reduceAdd, Nat.reduceLeDiff, Nat.reduceEqDiff, Nat.reduceMul, Nat.reduceLT, reduceIte, true_or, or_true, cmp_lt, cmp_gt, cmp_eq, wb_0, b_01, cmp_lt', cmp_gt', cmp_eq', b_0, b_1, wb_1, Int.reduceSub, Int.reduceToNat, List.getD_cons_succ, List.getD_cons_zero, Int.reduceLE, Int.reduceLT, Int.reduceEq, Int.reduceNeg, Int.reduceAdd, Int.reduceMul, and_self, em_b, ne_eq, not_false_eq_true, not_true_eq_false]
                try rfl
              · simp only [h0, if_false, Bool.false_eq_true] at dn ⊢
                rw [e_280_60]
                simp (disch := omega) only [e_280_62, e_280_63, e_280_66, e_280_67, e_280_68, e_280_100, e_280_101, e_280_104, e_280_107, e_280_109, e_280_112, e_280_113, e3, dn, mdO_c, mdO_g0, mdO_k0, mdO_g1, mdO_k1, mdO_g2, mdO_k2, mdO_g3, mdO_k3, mdO_g4, mdO_k4, mdO_g5, mdO_k5, mdO_g6, mdO_k6, mdO_g7, mdO_k7, mdO_g8, mdO_k8, mdO_g9, mdO_k9, mdO_g10, mdO_k10, mdO_g11, mdO_k11, mdO_g12, mdO_k12, mdO_g13, mdO_k13, mdO_g14, mdO_k14, mdO_g15, mdO_k15, mdO_g16, mdO_k16, mdO_g17, mdO_k17, mdO_g18, mdO_k18, mdO_g19, mdO_k19, mdO_g20, mdO_k20, mdO_g21, mdO_k21, mdO_g22, mdO_k22, mdO_g23, mdO_k23, mdO_g24, mdO_k24, mdO_g25, mdO_k25, mdO_g26, mdO_k26, mdO_g27, mdO_k27, mdO_g28, mdO_k28, mdO_g29, mdO_k29, mdO_g30, mdO_k30, mdO_g31, mdO_k31, mdO_g32, mdO_k32, mdO_g33, mdO_k33, mdO_g34, mdO_k34, mdO_g35, mdO_k35, mdO_s0, mdO_s5, mdO_s6, mdO_s7, mdO_s8, mdO_s9, mdO_s10, mdO_s11, mdO_s12, mdO_s13, mdO_s14, mdO_s15, mdO_s19, mdO_s20, mdO_s25, mdO_s26, mdO_s31, mdO_s32, md_1, md_2, md_g71, md_g72, md_g73, md_g74, md_g75, md_g76, md_g77, md_g78, md_g79, md_g80, md_g81, md_g82, md_g83, md_g84, md_g85, md_g86, md_g87, md_g88, md_g89, md_out, md_u71, md_u72, md_u73, md_u74, md_u75, md_u76, md_u77, md_u78, md_u79, md_u80, md_u81, md_u82, md_u83, md_u84, md_u85, md_u86, md_u87, md_u88, md_u89, md_uo, iup_s, iup_n, aup_s, aup_n, ne_eq, not_false_eq_true, sh_0, sh_1, sh_2, sh_3, sh_4, sh_5, sh_8, sh_15, sh_16, sh_24, Int.reducePow, Int.cast_ofNat_Int, w_of, wl_of, ltT, ltF, leT, leF, eqT, eqF, okF_0, okF_s, gF_0, gF_s, consC_o, sF_0, sF_s, clsO_o, inA_i, ldA_i, stA_i, inJ_l, ldJ_l, stJ_l, inR_r, ldR_r, stR_r, tgR_r, lenA_i, lenA_l, lenA_r, lenA_ex, nl_i, nl_o, nl_l, nl_n, wd_n, wd_i, wd_l, wd_o, fit_i, fit_l, fit_o, K_v, K_n, true_and, and_true, Nat.reduceAdd, Nat.reduceLeDiff, Nat.reduceEqDiff, Nat.reduceMul, Nat.reduceLT, reduceIte, true_or, or_true, cmp_lt, cmp_gt, cmp_eq, wb_0, b_01, cmp_lt', cmp_gt', cmp_eq', b_0, b_1, wb_1, Int.reduceSub, Int.reduceToNat, List.getD_cons_succ, List.getD_cons_zero, Int.reduceLE, Int.reduceLT, Int.reduceEq, Int.reduceNeg, Int.reduceAdd, Int.reduceMul, and_self, em_b, ne_eq, not_false_eq_true, not_true_eq_false]
                try rfl
            | succ r ih =>
              intro k hk
              have hkl : k < l.length := by omega
              have hx : l[k]? = some l[k] := List.getElem?_eq_getElem hkl
              generalize l[k] = x at hx
              obtain ⟨e6, e7⟩ := e5 k x hx
              unfold i64 at e7
              have ee : (40 : Int) * (tn : Int) + (k : Int) = ((40 * tn + k : Nat) : Int) := by omega
              have mo := fun (d : Nat) (Q : PQ) => r_moveOf (d := d) (h := h) (i := i) (A := A) (x := x) (Q := Q) hK hR e7.1 e7.2
              rw [all_drop hx]
              unfold lotOK
              cases em : moveD c x with
              | none =>
                rw [em] at mo
                have mo' : ∀ (d : Nat) (Q : PQ), WP (d + 2) 213 0 [some (vr 71), some (vl x), none] [] (mdH h i A) Q = Q (some (vi (-1))) (mdH h i A) := mo
                simp only [Option.isSome, Bool.false_and, if_false, Bool.false_eq_true]
                rw [e_280_60]
                simp (disch := omega) only [e_280_62, e_280_63, e_280_66, e_280_67, e_280_68, e_280_71, e_280_72, e_280_73, e_280_76, e_280_78, e_280_79, e_280_80, e_280_82, e_280_83, e_280_84, e_280_87, e_280_88, e_280_91, e_280_93, e3, ee, e6, mo', mdO_c, mdO_g0, mdO_k0, mdO_g1, mdO_k1, mdO_g2, mdO_k2, mdO_g3, mdO_k3, mdO_g4, mdO_k4, mdO_g5, mdO_k5, mdO_g6, mdO_k6, mdO_g7, mdO_k7, mdO_g8, mdO_k8, mdO_g9, mdO_k9, mdO_g10, mdO_k10, mdO_g11, mdO_k11, mdO_g12, mdO_k12, mdO_g13, mdO_k13, mdO_g14, mdO_k14, mdO_g15, mdO_k15, mdO_g16, mdO_k16, mdO_g17, mdO_k17, mdO_g18, mdO_k18, mdO_g19, mdO_k19, mdO_g20, mdO_k20, mdO_g21, mdO_k21, mdO_g22, mdO_k22, mdO_g23, mdO_k23, mdO_g24, mdO_k24, mdO_g25, mdO_k25, mdO_g26, mdO_k26, mdO_g27, mdO_k27, mdO_g28, mdO_k28, mdO_g29, mdO_k29, mdO_g30, mdO_k30, mdO_g31, mdO_k31, mdO_g32, mdO_k32, mdO_g33, mdO_k33, mdO_g34, mdO_k34, mdO_g35, mdO_k35, mdO_s0, mdO_s5, mdO_s6, mdO_s7, mdO_s8, mdO_s9, mdO_s10, mdO_s11, mdO_s12, mdO_s13, mdO_s14, mdO_s15, mdO_s19, mdO_s20, mdO_s25, mdO_s26, mdO_s31, mdO_s32, md_1, md_2, md_g71, md_g72, md_g73, md_g74, md_g75, md_g76, md_g77, md_g78, md_g79, md_g80, md_g81, md_g82, md_g83, md_g84, md_g85, md_g86, md_g87, md_g88, md_g89, md_out, md_u71, md_u72, md_u73, md_u74, md_u75, md_u76, md_u77, md_u78, md_u79, md_u80, md_u81, md_u82, md_u83, md_u84, md_u85, md_u86, md_u87, md_u88, md_u89, md_uo, iup_s, iup_n, aup_s, aup_n, ne_eq, not_false_eq_true, sh_0, sh_1, sh_2, sh_3, sh_4, sh_5, sh_8, sh_15, sh_16, sh_24, Int.reducePow, Int.cast_ofNat_Int, w_of, wl_of, ltT, ltF, leT, leF, eqT, eqF, okF_0, okF_s, gF_0, gF_s, consC_o, sF_0, sF_s, clsO_o, inA_i, ldA_i, stA_i, inJ_l, ldJ_l, stJ_l, inR_r, ldR_r, stR_r, tgR_r, lenA_i, lenA_l, lenA_r, lenA_ex, nl_i, nl_o, nl_l, nl_n, wd_n, wd_i, wd_l, wd_o, fit_i, fit_l, fit_o, K_v, K_n, true_and, and_true, Nat.reduceAdd, Nat.reduceLeDiff, Nat.reduceEqDiff, Nat.reduceMul, Nat.reduceLT, reduceIte, true_or, or_true, cmp_lt, cmp_gt, cmp_eq, wb_0, b_01, cmp_lt', cmp_gt', cmp_eq', b_0, b_1, wb_1, Int.reduceSub, Int.reduceToNat, List.getD_cons_succ, List.getD_cons_zero, Int.reduceLE, Int.reduceLT, Int.reduceEq, Int.reduceNeg, Int.reduceAdd, Int.reduceMul, and_self, em_b, ne_eq, not_false_eq_true, not_true_eq_false]
                try rfl
              | some m =>
                rw [em] at mo
                have hm19 := (moveD_some hK em).2.1
                have mo' : ∀ (d : Nat) (Q : PQ), WP (d + 2) 213 0 [some (vr 71), some (vl x), none] [] (mdH h i A) Q = Q (some (vi (m : Nat))) (mdH h i A) := mo
                have ihk := ih (k + 1) (by omega)
                unfold lotOK at ihk
                simp only [Option.isSome, Bool.true_and]
                simp only [Option.isSome] at ihk
                rw [← ihk]
                rw [e_280_60]
                simp (disch := omega) only [e_280_62, e_280_63, e_280_66, e_280_67, e_280_68, e_280_71, e_280_72, e_280_73, e_280_76, e_280_78, e_280_79, e_280_80, e_280_82, e_280_83, e_280_84, e_280_87, e_280_88, e_280_91, e_280_93, e_280_94, e_280_97, e3, ee, e6, mo', mdO_c, mdO_g0, mdO_k0, mdO_g1, mdO_k1, mdO_g2, mdO_k2, mdO_g3, mdO_k3, mdO_g4, mdO_k4, mdO_g5, mdO_k5, mdO_g6, mdO_k6, mdO_g7, mdO_k7, mdO_g8, mdO_k8, mdO_g9, mdO_k9, mdO_g10, mdO_k10, mdO_g11, mdO_k11, mdO_g12, mdO_k12, mdO_g13, mdO_k13, mdO_g14, mdO_k14, mdO_g15, mdO_k15, mdO_g16, mdO_k16, mdO_g17, mdO_k17, mdO_g18, mdO_k18, mdO_g19, mdO_k19, mdO_g20, mdO_k20, mdO_g21, mdO_k21, mdO_g22, mdO_k22, mdO_g23, mdO_k23, mdO_g24, mdO_k24, mdO_g25, mdO_k25, mdO_g26, mdO_k26, mdO_g27, mdO_k27, mdO_g28, mdO_k28, mdO_g29, mdO_k29, mdO_g30, mdO_k30, mdO_g31, mdO_k31, mdO_g32, mdO_k32, mdO_g33, mdO_k33, mdO_g34, mdO_k34, mdO_g35, mdO_k35, mdO_s0, mdO_s5, mdO_s6, mdO_s7, mdO_s8, mdO_s9, mdO_s10, mdO_s11, mdO_s12, mdO_s13, mdO_s14, mdO_s15, mdO_s19, mdO_s20, mdO_s25, mdO_s26, mdO_s31, mdO_s32, md_1, md_2, md_g71, md_g72, md_g73, md_g74, md_g75, md_g76, md_g77, md_g78, md_g79, md_g80, md_g81, md_g82, md_g83, md_g84, md_g85, md_g86, md_g87, md_g88, md_g89, md_out, md_u71, md_u72, md_u73, md_u74, md_u75, md_u76, md_u77, md_u78, md_u79, md_u80, md_u81, md_u82, md_u83, md_u84, md_u85, md_u86, md_u87, md_u88, md_u89, md_uo, iup_s, iup_n, aup_s, aup_n, ne_eq, not_false_eq_true, sh_0, sh_1, sh_2, sh_3, sh_4, sh_5, sh_8, sh_15, sh_16, sh_24, Int.reducePow, Int.cast_ofNat_Int, w_of, wl_of, ltT, ltF, leT, leF, eqT, eqF, okF_0, okF_s, gF_0, gF_s, consC_o, sF_0, sF_s, clsO_o, inA_i, ldA_i, stA_i, inJ_l, ldJ_l, stJ_l, inR_r, ldR_r, stR_r, tgR_r, lenA_i, lenA_l, lenA_r, lenA_ex, nl_i, nl_o, nl_l, nl_n, wd_n, wd_i, wd_l, wd_o, fit_i, fit_l, fit_o, K_v, K_n, true_and, and_true, Nat.reduceAdd, Nat.reduceLeDiff, Nat.reduceEqDiff, Nat.reduceMul, Nat.reduceLT, reduceIte, true_or, or_true, cmp_lt, cmp_gt, cmp_eq, wb_0, b_01, cmp_lt', cmp_gt', cmp_eq', b_0, b_1, wb_1, Int.reduceSub, Int.reduceToNat, List.getD_cons_succ, List.getD_cons_zero, Int.reduceLE, Int.reduceLT, Int.reduceEq, Int.reduceNeg, Int.reduceAdd, Int.reduceMul, and_self, em_b, ne_eq, not_false_eq_true, not_true_eq_false]
                try rfl
          have lp0 := lp l.length 0 (by omega)
          rw [List.drop_zero, nc0] at lp0
          rw [← lp0]
          simp (disch := omega) only [e_280_0, e_280_1, e_280_2, e_280_3, e_280_6, e_280_9, e_280_12, e_280_13, e_280_14, e_280_15, e_280_16, e_280_19, e_280_22, e_280_24, e_280_25, e_280_26, e_280_27, e_280_30, e_280_31, e_280_32, e_280_35, e_280_36, e_280_37, e_280_38, e_280_41, e_280_42, e_280_43, e_280_44, e_280_45, e_280_48, e_280_51, e_280_54, e_280_56, e_280_57, e_280_58, w1, w2, nt, e3, wi, mdO_c, mdO_g0, mdO_k0, mdO_g1, mdO_k1, mdO_g2, mdO_k2, mdO_g3, mdO_k3, mdO_g4, mdO_k4, mdO_g5, mdO_k5, mdO_g6, mdO_k6, mdO_g7, mdO_k7, mdO_g8, mdO_k8, mdO_g9, mdO_k9, mdO_g10, mdO_k10, mdO_g11, mdO_k11, mdO_g12, mdO_k12, mdO_g13, mdO_k13, mdO_g14, mdO_k14, mdO_g15, mdO_k15, mdO_g16, mdO_k16, mdO_g17, mdO_k17, mdO_g18, mdO_k18, mdO_g19, mdO_k19, mdO_g20, mdO_k20, mdO_g21, mdO_k21, mdO_g22, mdO_k22, mdO_g23, mdO_k23, mdO_g24, mdO_k24, mdO_g25, mdO_k25, mdO_g26, mdO_k26, mdO_g27, mdO_k27, mdO_g28, mdO_k28, mdO_g29, mdO_k29, mdO_g30, mdO_k30, mdO_g31, mdO_k31, mdO_g32, mdO_k32, mdO_g33, mdO_k33, mdO_g34, mdO_k34, mdO_g35, mdO_k35, mdO_s0, mdO_s5, mdO_s6, mdO_s7, mdO_s8, mdO_s9, mdO_s10, mdO_s11, mdO_s12, mdO_s13, mdO_s14, mdO_s15, mdO_s19, mdO_s20, mdO_s25, mdO_s26, mdO_s31, mdO_s32, md_1, md_2, md_g71, md_g72, md_g73, md_g74, md_g75, md_g76, md_g77, md_g78, md_g79, md_g80, md_g81, md_g82, md_g83, md_g84, md_g85, md_g86, md_g87, md_g88, md_g89, md_out, md_u71, md_u72, md_u73, md_u74, md_u75, md_u76, md_u77, md_u78, md_u79, md_u80, md_u81, md_u82, md_u83, md_u84, md_u85, md_u86, md_u87, md_u88, md_u89, md_uo, iup_s, iup_n, aup_s, aup_n, ne_eq, not_false_eq_true, sh_0, sh_1, sh_2, sh_3, sh_4, sh_5, sh_8, sh_15, sh_16, sh_24, Int.reducePow, Int.cast_ofNat_Int, w_of, wl_of, ltT, ltF, leT, leF, eqT, eqF, okF_0, okF_s, gF_0, gF_s, consC_o, sF_0, sF_s, clsO_o, inA_i, ldA_i, stA_i, inJ_l, ldJ_l, stJ_l, inR_r, ldR_r, stR_r, tgR_r, lenA_i, lenA_l, lenA_r, lenA_ex, nl_i, nl_o, nl_l, nl_n, wd_n, wd_i, wd_l, wd_o, fit_i, fit_l, fit_o, K_v, K_n, true_and, and_true, Nat.reduceAdd, Nat.reduceLeDiff, Nat.reduceEqDiff, Nat.reduceMul, Nat.reduceLT, reduceIte, true_or, or_true, cmp_lt, cmp_gt, cmp_eq, wb_0, b_01, cmp_lt', cmp_gt', cmp_eq', b_0, b_1, wb_1, Int.reduceSub, Int.reduceToNat, List.getD_cons_succ, List.getD_cons_zero, Int.reduceLE, Int.reduceLT, Int.reduceEq, Int.reduceNeg, Int.reduceAdd, Int.reduceMul, and_self, em_b, ne_eq, not_false_eq_true, not_true_eq_false]
        · have t2 : (1 ≤ (l.length : Int) ∧ (l.length : Int) ≤ 6) = False := eq_false (by omega)
          simp only [t2, if_false] at wi
          rw [if_neg q2]
          clear q2 t2
          simp (disch := omega) only [e_280_0, e_280_1, e_280_2, e_280_3, e_280_6, e_280_9, e_280_12, e_280_13, e_280_14, e_280_15, e_280_16, e_280_19, e_280_22, e_280_24, e_280_25, e_280_26, e_280_27, e_280_30, e_280_31, e_280_32, e_280_35, e_280_36, e_280_37, e_280_38, e_280_41, e_280_42, e_280_43, e_280_44, e_280_45, e_280_48, e_280_51, e_280_54, e_280_56, w1, w2, nt, e3, wi, mdO_c, mdO_g0, mdO_k0, mdO_g1, mdO_k1, mdO_g2, mdO_k2, mdO_g3, mdO_k3, mdO_g4, mdO_k4, mdO_g5, mdO_k5, mdO_g6, mdO_k6, mdO_g7, mdO_k7, mdO_g8, mdO_k8, mdO_g9, mdO_k9, mdO_g10, mdO_k10, mdO_g11, mdO_k11, mdO_g12, mdO_k12, mdO_g13, mdO_k13, mdO_g14, mdO_k14, mdO_g15, mdO_k15, mdO_g16, mdO_k16, mdO_g17, mdO_k17, mdO_g18, mdO_k18, mdO_g19, mdO_k19, mdO_g20, mdO_k20, mdO_g21, mdO_k21, mdO_g22, mdO_k22, mdO_g23, mdO_k23, mdO_g24, mdO_k24, mdO_g25, mdO_k25, mdO_g26, mdO_k26, mdO_g27, mdO_k27, mdO_g28, mdO_k28, mdO_g29, mdO_k29, mdO_g30, mdO_k30, mdO_g31, mdO_k31, mdO_g32, mdO_k32, mdO_g33, mdO_k33, mdO_g34, mdO_k34, mdO_g35, mdO_k35, mdO_s0, mdO_s5, mdO_s6, mdO_s7, mdO_s8, mdO_s9, mdO_s10, mdO_s11, mdO_s12, mdO_s13, mdO_s14, mdO_s15, mdO_s19, mdO_s20, mdO_s25, mdO_s26, mdO_s31, mdO_s32, md_1, md_2, md_g71, md_g72, md_g73, md_g74, md_g75, md_g76, md_g77, md_g78, md_g79, md_g80, md_g81, md_g82, md_g83, md_g84, md_g85, md_g86, md_g87, md_g88, md_g89, md_out, md_u71, md_u72, md_u73, md_u74, md_u75, md_u76, md_u77, md_u78, md_u79, md_u80, md_u81, md_u82, md_u83, md_u84, md_u85, md_u86, md_u87, md_u88, md_u89, md_uo, iup_s, iup_n, aup_s, aup_n, ne_eq, not_false_eq_true, sh_0, sh_1, sh_2, sh_3, sh_4, sh_5, sh_8, sh_15, sh_16, sh_24, Int.reducePow, Int.cast_ofNat_Int, w_of, wl_of, ltT, ltF, leT, leF, eqT, eqF, okF_0, okF_s, gF_0, gF_s, consC_o, sF_0, sF_s, clsO_o, inA_i, ldA_i, stA_i, inJ_l, ldJ_l, stJ_l, inR_r, ldR_r, stR_r, tgR_r, lenA_i, lenA_l, lenA_r, lenA_ex, nl_i, nl_o, nl_l, nl_n, wd_n, wd_i, wd_l, wd_o, fit_i, fit_l, fit_o, K_v, K_n, true_and, and_true, Nat.reduceAdd, Nat.reduceLeDiff, Nat.reduceEqDiff, Nat.reduceMul, Nat.reduceLT, reduceIte, true_or, or_true, cmp_lt, cmp_gt, cmp_eq, wb_0, b_01, cmp_lt', cmp_gt', cmp_eq', b_0, b_1, wb_1, Int.reduceSub, Int.reduceToNat, List.getD_cons_succ, List.getD_cons_zero, Int.reduceLE, Int.reduceLT, Int.reduceEq, Int.reduceNeg, Int.reduceAdd, Int.reduceMul, and_self, em_b, ne_eq, not_false_eq_true, not_true_eq_false]
    · have qw' := eq_false qw
      simp only [qw', if_false] at w2
      simp only [qw', and_false, if_false]
      clear qw qw'
      simp (disch := omega) only [e_280_0, e_280_1, e_280_2, e_280_3, e_280_6, e_280_9, e_280_12, e_280_13, e_280_14, e_280_15, e_280_16, e_280_19, e_280_22, e_280_24, w1, w2, mdO_c, mdO_g0, mdO_k0, mdO_g1, mdO_k1, mdO_g2, mdO_k2, mdO_g3, mdO_k3, mdO_g4, mdO_k4, mdO_g5, mdO_k5, mdO_g6, mdO_k6, mdO_g7, mdO_k7, mdO_g8, mdO_k8, mdO_g9, mdO_k9, mdO_g10, mdO_k10, mdO_g11, mdO_k11, mdO_g12, mdO_k12, mdO_g13, mdO_k13, mdO_g14, mdO_k14, mdO_g15, mdO_k15, mdO_g16, mdO_k16, mdO_g17, mdO_k17, mdO_g18, mdO_k18, mdO_g19, mdO_k19, mdO_g20, mdO_k20, mdO_g21, mdO_k21, mdO_g22, mdO_k22, mdO_g23, mdO_k23, mdO_g24, mdO_k24, mdO_g25, mdO_k25, mdO_g26, mdO_k26, mdO_g27, mdO_k27, mdO_g28, mdO_k28, mdO_g29, mdO_k29, mdO_g30, mdO_k30, mdO_g31, mdO_k31, mdO_g32, mdO_k32, mdO_g33, mdO_k33, mdO_g34, mdO_k34, mdO_g35, mdO_k35, mdO_s0, mdO_s5, mdO_s6, mdO_s7, mdO_s8, mdO_s9, mdO_s10, mdO_s11, mdO_s12, mdO_s13, mdO_s14, mdO_s15, mdO_s19, mdO_s20, mdO_s25, mdO_s26, mdO_s31, mdO_s32, md_1, md_2, md_g71, md_g72, md_g73, md_g74, md_g75, md_g76, md_g77, md_g78, md_g79, md_g80, md_g81, md_g82, md_g83, md_g84, md_g85, md_g86, md_g87, md_g88, md_g89, md_out, md_u71, md_u72, md_u73, md_u74, md_u75, md_u76, md_u77, md_u78, md_u79, md_u80, md_u81, md_u82, md_u83, md_u84, md_u85, md_u86, md_u87, md_u88, md_u89, md_uo, iup_s, iup_n, aup_s, aup_n, ne_eq, not_false_eq_true, sh_0, sh_1, sh_2, sh_3, sh_4, sh_5, sh_8, sh_15, sh_16, sh_24, Int.reducePow, Int.cast_ofNat_Int, w_of, wl_of, ltT, ltF, leT, leF, eqT, eqF, okF_0, okF_s, gF_0, gF_s, consC_o, sF_0, sF_s, clsO_o, inA_i, ldA_i, stA_i, inJ_l, ldJ_l, stJ_l, inR_r, ldR_r, stR_r, tgR_r, lenA_i, lenA_l, lenA_r, lenA_ex, nl_i, nl_o, nl_l, nl_n, wd_n, wd_i, wd_l, wd_o, fit_i, fit_l, fit_o, K_v, K_n, true_and, and_true, Nat.reduceAdd, Nat.reduceLeDiff, Nat.reduceEqDiff, Nat.reduceMul, Nat.reduceLT, reduceIte, true_or, or_true, cmp_lt, cmp_gt, cmp_eq, wb_0, b_01, cmp_lt', cmp_gt', cmp_eq', b_0, b_1, wb_1, Int.reduceSub, Int.reduceToNat, List.getD_cons_succ, List.getD_cons_zero, Int.reduceLE, Int.reduceLT, Int.reduceEq, Int.reduceNeg, Int.reduceAdd, Int.reduceMul, and_self, em_b, ne_eq, not_false_eq_true, not_true_eq_false]
  · have q' := eq_false q
    simp only [q', if_false] at w1
    simp only [q', false_and, if_false]
    clear q q'
    simp (disch := omega) only [e_280_0, e_280_1, e_280_2, e_280_3, e_280_6, e_280_9, e_280_12, e_280_13, e_280_14, e_280_15, e_280_16, e_280_19, e_280_22, e_280_24, w1, mdO_c, mdO_g0, mdO_k0, mdO_g1, mdO_k1, mdO_g2, mdO_k2, mdO_g3, mdO_k3, mdO_g4, mdO_k4, mdO_g5, mdO_k5, mdO_g6, mdO_k6, mdO_g7, mdO_k7, mdO_g8, mdO_k8, mdO_g9, mdO_k9, mdO_g10, mdO_k10, mdO_g11, mdO_k11, mdO_g12, mdO_k12, mdO_g13, mdO_k13, mdO_g14, mdO_k14, mdO_g15, mdO_k15, mdO_g16, mdO_k16, mdO_g17, mdO_k17, mdO_g18, mdO_k18, mdO_g19, mdO_k19, mdO_g20, mdO_k20, mdO_g21, mdO_k21, mdO_g22, mdO_k22, mdO_g23, mdO_k23, mdO_g24, mdO_k24, mdO_g25, mdO_k25, mdO_g26, mdO_k26, mdO_g27, mdO_k27, mdO_g28, mdO_k28, mdO_g29, mdO_k29, mdO_g30, mdO_k30, mdO_g31, mdO_k31, mdO_g32, mdO_k32, mdO_g33, mdO_k33, mdO_g34, mdO_k34, mdO_g35, mdO_k35, mdO_s0, mdO_s5, mdO_s6, mdO_s7, mdO_s8, mdO_s9, mdO_s10, mdO_s11, mdO_s12, mdO_s13, mdO_s14, mdO_s15, mdO_s19, mdO_s20, mdO_s25, mdO_s26, mdO_s31, mdO_s32, md_1, md_2, md_g71, md_g72, md_g73, md_g74, md_g75, md_g76, md_g77, md_g78, md_g79, md_g80, md_g81, md_g82, md_g83, md_g84, md_g85, md_g86, md_g87, md_g88, md_g89, md_out, md_u71, md_u72, md_u73, md_u74, md_u75, md_u76, md_u77, md_u78, md_u79, md_u80, md_u81, md_u82, md_u83, md_u84, md_u85, md_u86, md_u87, md_u88, md_u89, md_uo, iup_s, iup_n, aup_s, aup_n, ne_eq, not_false_eq_true, sh_0, sh_1, sh_2, sh_3, sh_4, sh_5, sh_8, sh_15, sh_16, sh_24, Int.reducePow, Int.cast_ofNat_Int, w_of, wl_of, ltT, ltF, leT, leF, eqT, eqF, okF_0, okF_s, gF_0, gF_s, consC_o, sF_0, sF_s, clsO_o, inA_i, ldA_i, stA_i, inJ_l, ldJ_l, stJ_l, inR_r, ldR_r, stR_r, tgR_r, lenA_i, lenA_l, lenA_r, lenA_ex, nl_i, nl_o, nl_l, nl_n, wd_n, wd_i, wd_l, wd_o, fit_i, fit_l, fit_o, K_v, K_n, true_and, and_true, Nat.reduceAdd, Nat.reduceLeDiff, Nat.reduceEqDiff, Nat.reduceMul, Nat.reduceLT, reduceIte, true_or, or_true, cmp_lt, cmp_gt, cmp_eq, wb_0, b_01, cmp_lt', cmp_gt', cmp_eq', b_0, b_1, wb_1, Int.reduceSub, Int.reduceToNat, List.getD_cons_succ, List.getD_cons_zero, Int.reduceLE, Int.reduceLT, Int.reduceEq, Int.reduceNeg, Int.reduceAdd, Int.reduceMul, and_self, em_b, ne_eq, not_false_eq_true, not_true_eq_false]
