def bearS (c : KC) (s : ST) : Nat := if kN c = 0 then 0 else s.2.2 s.1
def whereS (c : KC) (s : ST) : Int := if kN c = 0 then -1 else (s.2.1 s.1 : Int)
theorem c_strengthsOf {d a : Nat} {h : PH} {Q : PQ} {c : KC} {s : ST} (hK : okK c) (hC : CtyAt h a c) (hs : okS c s) :
    WP d 23 0 [some (vr a), some (vi (encC c s))] [] h Q = Q (some (vi (encP 4 (kN c) s.2.2))) h := by
  obtain ⟨tf, tt, mf, mt, n, fh, fw, fa, fc, fg, fp, hA, -⟩ := hC
  have hN := hK.2.2
  simp only [e_23_0, e_23_1, e_23_2, e_23_3, e_23_6, e_23_7, e_23_8, e_23_9, e_23_10, hA, okF_0, okF_s, gF_0, gF_s, consC_o, sF_0, sF_s, clsO_o, inA_i, ldA_i, stA_i, inJ_l, ldJ_l, stJ_l, inR_r, ldR_r, stR_r, tgR_r, lenA_i, lenA_l, lenA_r, lenA_ex, nl_i, nl_o, nl_l, nl_n, wd_n, wd_i, wd_l, wd_o, fit_i, fit_l, fit_o, K_v, K_n, true_and, and_true, Nat.reduceAdd, Nat.reduceLeDiff, Nat.reduceEqDiff, Nat.reduceMul, Nat.reduceLT, reduceIte, true_or, or_true, cmp_lt, cmp_gt, cmp_eq, wb_0, b_01]
  rw [sh_nat (by omega)]
  have e : (1 : Int) * 2 ^ (2 * kN c) - 1 = ((2 ^ (2 * kN c) - 1 : Nat) : Int) := by
    have : 0 < 2 ^ (2 * kN c) := Nat.pow_pos (by decide)
    rw [castP]; omega
  rw [e, iand_mask (by omega), four_pow, ← Int.natCast_emod, encC_mod hs]
theorem c_bearing {d a : Nat} {h : PH} {Q : PQ} {c : KC} {s : ST} (hK : okK c) (hC : CtyAt h a c) (hs : okS c s) :
    WP (d + 1) 24 0 [some (vr a), some (vi (encC c s))] [] h Q = Q (some (vi (bearS c s))) h := by
  have hC' := hC
  obtain ⟨tf, tt, mf, mt, n, fh, fw, fa, fc, fg, fp, hA, -⟩ := hC
  have hN := hK.2.2
  unfold bearS
  by_cases h0 : kN c = 0
  · simp only [e_24_0, e_24_1, e_24_4, e_24_7, e_24_8, e_24_11, e_24_12, e_24_13, e_24_14, e_24_15, e_24_18, e_24_21, hA, okF_0, okF_s, gF_0, gF_s, consC_o, sF_0, sF_s, clsO_o, inA_i, ldA_i, stA_i, inJ_l, ldJ_l, stJ_l, inR_r, ldR_r, stR_r, tgR_r, lenA_i, lenA_l, lenA_r, lenA_ex, nl_i, nl_o, nl_l, nl_n, wd_n, wd_i, wd_l, wd_o, fit_i, fit_l, fit_o, K_v, K_n, true_and, and_true, Nat.reduceAdd, Nat.reduceLeDiff, Nat.reduceEqDiff, Nat.reduceMul, Nat.reduceLT, reduceIte, true_or, or_true, cmp_lt, cmp_gt, cmp_eq, wb_0, b_01]
    simp [h0, w_nat (n := 0) (by omega), w]
  · simp only [e_24_0, e_24_1, e_24_4, e_24_7, e_24_8, e_24_11, e_24_12, e_24_13, e_24_14, e_24_15, e_24_18, e_24_21, hA, c_bearerOf hK hC' hs, c_strengthOf hK hs (bear_lt hs h0), okF_0, okF_s, gF_0, gF_s, consC_o, sF_0, sF_s, clsO_o, inA_i, ldA_i, stA_i, inJ_l, ldJ_l, stJ_l, inR_r, ldR_r, stR_r, tgR_r, lenA_i, lenA_l, lenA_r, lenA_ex, nl_i, nl_o, nl_l, nl_n, wd_n, wd_i, wd_l, wd_o, fit_i, fit_l, fit_o, K_v, K_n, true_and, and_true, Nat.reduceAdd, Nat.reduceLeDiff, Nat.reduceEqDiff, Nat.reduceMul, Nat.reduceLT, reduceIte, true_or, or_true, cmp_lt, cmp_gt, cmp_eq, wb_0, b_01]
    rw [w_nat (by omega), if_neg (by omega), if_neg h0]
theorem c_where {d a : Nat} {h : PH} {Q : PQ} {c : KC} {s : ST} (hK : okK c) (hC : CtyAt h a c) (hs : okS c s) :
    WP (d + 1) 26 0 [some (vr a), some (vi (encC c s)), none] [] h Q = Q (some (vi (whereS c s))) h := by
  have hC' := hC
  obtain ⟨tf, tt, mf, mt, n, fh, fw, fa, fc, fg, fp, hA, -, -, -, -, -, hA6, -, -, -, -, hpl, -⟩ := hC
  obtain ⟨b1, b2, b3, b4, b5, b6⟩ := okS_bounds hs hK.2.2 hK.2.1 hK.1
  have hN := hK.2.2
  have hd := encC_div hs
  have hpw : kPw c ≤ 125 := b3
  have hb1 : encP (kP c) (kN c) s.2.1 < kPw c := b1
  obtain ⟨e8, d8⟩ := encP8_lt hK (fun i hi => (hs.1 i hi).1)
  unfold whereS
  simp only [e_26_0, e_26_1, e_26_4, e_26_7, e_26_8, e_26_9, e_26_10, e_26_11, e_26_14, e_26_15, e_26_16, e_26_19, e_26_20, e_26_21, e_26_24, e_26_25, e_26_26, e_26_27, e_26_30, e_26_31, e_26_32, e_26_33, e_26_34, e_26_35, e_26_36, e_26_37, e_26_39, e_26_40, hA, hA6, c_bearerOf hK hC' hs, okF_0, okF_s, gF_0, gF_s, consC_o, sF_0, sF_s, clsO_o, inA_i, ldA_i, stA_i, inJ_l, ldJ_l, stJ_l, inR_r, ldR_r, stR_r, tgR_r, lenA_i, lenA_l, lenA_r, lenA_ex, nl_i, nl_o, nl_l, nl_n, wd_n, wd_i, wd_l, wd_o, fit_i, fit_l, fit_o, K_v, K_n, true_and, and_true, Nat.reduceAdd, Nat.reduceLeDiff, Nat.reduceEqDiff, Nat.reduceMul, Nat.reduceLT, reduceIte, true_or, or_true, cmp_lt, cmp_gt, cmp_eq, wb_0, b_01]
  rw [w_nat (by omega)]
  by_cases h0 : kN c = 0
  · rw [if_pos (by omega), if_pos h0]
  · rw [if_neg (by omega), if_neg h0]
    have hb := bear_lt hs h0
    simp (disch := omega) only [shr_nat, four_pow, hd]
    have e : ((s.1 * kPw c + encP (kP c) (kN c) s.2.1 : Nat) : Int) - (s.1 : Int) * (kPw c : Int) = (encP (kP c) (kN c) s.2.1 : Int) := by
      rw [Int.natCast_add, Int.natCast_mul]; omega
    rw [e, w_nat (by omega), hpl s.2.1 (fun i hi => (hs.1 i hi).1)]
    simp (disch := omega) only [cast3, shr_nat, pow8, iand_7, castM8]
    rw [encP_digit d8 hb]
    simp only [and_iff_right (show 0 ≤ (encP (kP c) (kN c) s.2.1 : Int) ∧ (encP (kP c) (kN c) s.2.1 : Int) < (kPw c : Int) by omega)]
/-- bits of those for whom f holds -/
def bitsF (n : Nat) (f : Nat → Bool) : Nat := encP 2 n (fun i => if f i then 1 else 0)
theorem bitsF_lt {n : Nat} {f : Nat → Bool} : bitsF n f < 2 ^ n := encP_lt (fun i _ => by by_cases h : f i = true <;> simp [h])
theorem bitsF_s {n : Nat} {f : Nat → Bool} (hn : n < 30) : (if f n then ior (bitsF n f : Int) (1 * 2 ^ sh (n : Int)) else (bitsF n f : Int)) = (bitsF (n + 1) f : Int) := by
  have hl := bitsF_lt (n := n) (f := f)
  have hp : 2 ^ n < 2 ^ 30 := Nat.pow_lt_pow_of_lt (by decide) hn
  show _ = ((encP 2 n (fun i => if f i then 1 else 0) + (if f n then 1 else 0) * 2 ^ n : Nat) : Int)
  by_cases hf : f n = true
  · rw [if_pos hf, if_pos hf, sh_nat (by omega), Int.one_mul, castP, ior_nat (by omega) (by omega), Nat.or_comm]
    have := Nat.two_pow_add_eq_or_of_lt (i := n) (b := bitsF n f) hl 1
    rw [Nat.mul_one] at this
    rw [← this]
    unfold bitsF
    congr 1
    omega
  · rw [if_neg hf, if_neg hf]
    unfold bitsF
    congr 1
    omega
theorem c_kinAt_lp {d a : Nat} {h : PH} {Q : PQ} {c : KC} {s : ST} {k : Int} (hk1 : -2147483648 ≤ k) (hk2 : k < 2147483648) (hK : okK c) (hC : CtyAt h a c) (hs : okS c s) :
    ∀ r p : Nat, p + r = kN c → WP (d + 3) 27 5 [some (vr a), some (vi (encC c s)), some (vi k), some (vi (bitsF p (fun i => decide ((s.2.1 i : Int) = k)))), some (vi p)] [] h Q = Q (some (vi (bitsF (kN c) (fun i => decide ((s.2.1 i : Int) = k))))) h := by
  have hC' := hC
  obtain ⟨tf, tt, mf, mt, n, fh, fw, fa, fc, fg, fp, hA, -⟩ := hC
  have hN := hK.2.2
  have hP := hK.2.1
  intro r
  induction r with
  | zero =>
    intro p hp
    rw [e_27_5]
    simp only [e_27_7, e_27_8, e_27_11, e_27_38, e_27_39, hA, okF_0, okF_s, gF_0, gF_s, consC_o, sF_0, sF_s, clsO_o, inA_i, ldA_i, stA_i, inJ_l, ldJ_l, stJ_l, inR_r, ldR_r, stR_r, tgR_r, lenA_i, lenA_l, lenA_r, lenA_ex, nl_i, nl_o, nl_l, nl_n, wd_n, wd_i, wd_l, wd_o, fit_i, fit_l, fit_o, K_v, K_n, true_and, and_true, Nat.reduceAdd, Nat.reduceLeDiff, Nat.reduceEqDiff, Nat.reduceMul, Nat.reduceLT, reduceIte, true_or, or_true, cmp_lt, cmp_gt, cmp_eq, wb_0, b_01]
    rw [w_nat (by omega), w_nat (by omega), if_neg (by omega)]
    have : p = kN c := by omega
    subst this
    rfl
  | succ r ih =>
    intro p hp
    have hpl := (hs.1 p (by omega)).1
    rw [e_27_5]
    simp only [e_27_7, e_27_8, e_27_11, e_27_14, e_27_15, e_27_16, e_27_18, e_27_21, e_27_22, e_27_25, e_27_26, e_27_27, e_27_29, e_27_30, e_27_31, e_27_32, e_27_35, e_27_38, e_27_39, hA, c_placeOf hK hC' hs (show p < kN c by omega), okF_0, okF_s, gF_0, gF_s, consC_o, sF_0, sF_s, clsO_o, inA_i, ldA_i, stA_i, inJ_l, ldJ_l, stJ_l, inR_r, ldR_r, stR_r, tgR_r, lenA_i, lenA_l, lenA_r, lenA_ex, nl_i, nl_o, nl_l, nl_n, wd_n, wd_i, wd_l, wd_o, fit_i, fit_l, fit_o, K_v, K_n, true_and, and_true, Nat.reduceAdd, Nat.reduceLeDiff, Nat.reduceEqDiff, Nat.reduceMul, Nat.reduceLT, reduceIte, true_or, or_true, cmp_lt, cmp_gt, cmp_eq, wb_0, b_01]
    rw [w_nat (by omega), w_nat (by omega), if_pos (by omega), w_nat (by omega), w_of hk1 hk2]
    have := ih (p + 1) (by omega)
    rw [← bitsF_s (by omega)] at this
    rw [← this]
    by_cases hq : (s.2.1 p : Int) = k
    · rw [if_pos hq]
      simp only [hq, decide_true, if_true]
      rfl
    · rw [if_neg hq]
      simp only [hq, decide_false, if_false, Bool.false_eq_true]
      rfl
theorem c_kinAt {d a : Nat} {h : PH} {Q : PQ} {c : KC} {s : ST} {k : Int} (hk1 : -2147483648 ≤ k) (hk2 : k < 2147483648) (hK : okK c) (hC : CtyAt h a c) (hs : okS c s) :
    WP (d + 3) 27 0 [some (vr a), some (vi (encC c s)), some (vi k), none, none] [] h Q = Q (some (vi (bitsF (kN c) (fun i => decide ((s.2.1 i : Int) = k))))) h := by
  simp only [e_27_0, e_27_1, e_27_2, e_27_3, okF_0, okF_s, gF_0, gF_s, consC_o, sF_0, sF_s, clsO_o, inA_i, ldA_i, stA_i, inJ_l, ldJ_l, stJ_l, inR_r, ldR_r, stR_r, tgR_r, lenA_i, lenA_l, lenA_r, lenA_ex, nl_i, nl_o, nl_l, nl_n, wd_n, wd_i, wd_l, wd_o, fit_i, fit_l, fit_o, K_v, K_n, true_and, and_true, Nat.reduceAdd, Nat.reduceLeDiff, Nat.reduceEqDiff, Nat.reduceMul, Nat.reduceLT, reduceIte, true_or, or_true, cmp_lt, cmp_gt, cmp_eq, wb_0, b_01]
  exact c_kinAt_lp hk1 hk2 hK hC hs (kN c) 0 (by omega)
def sumF (n : Nat) (f : Nat → Nat) : Nat := encP 1 n f
theorem sumF_s {n : Nat} {f : Nat → Nat} : sumF (n + 1) f = sumF n f + f n := by unfold sumF; show encP 1 n f + f n * 1 ^ n = _; rw [Nat.one_pow, Nat.mul_one]
theorem c_together {d a : Nat} {h : PH} {Q : PQ} {c : KC} {s : ST} (hK : okK c) (hC : CtyAt h a c) (hs : okS c s) :
    WP (d + 1) 28 0 [some (vr a), some (vi (encC c s)), none, none] [] h Q = Q (some (vi (sumF (kN c) s.2.2))) h := by
  obtain ⟨tf, tt, mf, mt, n, fh, fw, fa, fc, fg, fp, hA, -⟩ := hC
  have hN := hK.2.2
  have lp : ∀ r p : Nat, p + r = kN c → WP (d + 1) 28 4 [some (vr a), some (vi (encC c s)), some (vi (sumF p s.2.2)), some (vi p)] [] h Q = Q (some (vi (sumF (kN c) s.2.2))) h := by
    intro r
    induction r with
    | zero =>
      intro p hp
      rw [e_28_4]
      simp only [e_28_5, e_28_6, e_28_9, e_28_27, e_28_28, hA, okF_0, okF_s, gF_0, gF_s, consC_o, sF_0, sF_s, clsO_o, inA_i, ldA_i, stA_i, inJ_l, ldJ_l, stJ_l, inR_r, ldR_r, stR_r, tgR_r, lenA_i, lenA_l, lenA_r, lenA_ex, nl_i, nl_o, nl_l, nl_n, wd_n, wd_i, wd_l, wd_o, fit_i, fit_l, fit_o, K_v, K_n, true_and, and_true, Nat.reduceAdd, Nat.reduceLeDiff, Nat.reduceEqDiff, Nat.reduceMul, Nat.reduceLT, reduceIte, true_or, or_true, cmp_lt, cmp_gt, cmp_eq, wb_0, b_01]
      rw [w_nat (by omega), w_nat (by omega), if_neg (by omega)]
      have : p = kN c := by omega
      subst this
      rfl
    | succ r ih =>
      intro p hp
      rw [e_28_4]
      simp only [e_28_5, e_28_6, e_28_9, e_28_12, e_28_13, e_28_14, e_28_15, e_28_16, e_28_19, e_28_20, e_28_21, e_28_24, e_28_27, e_28_28, hA, c_strengthOf hK hs (show p < kN c by omega), okF_0, okF_s, gF_0, gF_s, consC_o, sF_0, sF_s, clsO_o, inA_i, ldA_i, stA_i, inJ_l, ldJ_l, stJ_l, inR_r, ldR_r, stR_r, tgR_r, lenA_i, lenA_l, lenA_r, lenA_ex, nl_i, nl_o, nl_l, nl_n, wd_n, wd_i, wd_l, wd_o, fit_i, fit_l, fit_o, K_v, K_n, true_and, and_true, Nat.reduceAdd, Nat.reduceLeDiff, Nat.reduceEqDiff, Nat.reduceMul, Nat.reduceLT, reduceIte, true_or, or_true, cmp_lt, cmp_gt, cmp_eq, wb_0, b_01]
      rw [w_nat (by omega), w_nat (by omega), if_pos (by omega)]
      have := ih (p + 1) (by omega)
      rw [sumF_s] at this
      rw [← this]
      rfl
  simp only [e_28_0, e_28_1, e_28_2, e_28_3, okF_0, okF_s, gF_0, gF_s, consC_o, sF_0, sF_s, clsO_o, inA_i, ldA_i, stA_i, inJ_l, ldJ_l, stJ_l, inR_r, ldR_r, stR_r, tgR_r, lenA_i, lenA_l, lenA_r, lenA_ex, nl_i, nl_o, nl_l, nl_n, wd_n, wd_i, wd_l, wd_o, fit_i, fit_l, fit_o, K_v, K_n, true_and, and_true, Nat.reduceAdd, Nat.reduceLeDiff, Nat.reduceEqDiff, Nat.reduceMul, Nat.reduceLT, reduceIte, true_or, or_true, cmp_lt, cmp_gt, cmp_eq, wb_0, b_01]
  exact lp (kN c) 0 (by omega)
