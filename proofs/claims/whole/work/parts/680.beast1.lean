/-! THE CLASS: the Beast -/
def mxW : Int := 2147483647
def hldP (c : KC) (W : Int → Int) (y : ST) (u : Int) : Prop := 2 ≤ bearS c y ∧ u ≤ W (encC c y) ∧ ∀ p, p < kN c → u ≤ W (encC c (weakS y p))
def wOK (c : KC) (W : Int → Int) : Prop := ∀ x, okS c x → 0 ≤ W (encC c x) ∧ W (encC c x) ≤ 2147483647
theorem Be_hLp {h : PH} {ca : Nat} {c : KC} {n wA : Nat} {i : Nat → Int} {W : Int → Int} {y : ST} {u : Int} (hK : okK c) (hC : CtyAt h ca c) (hy : okS c y) (h59 : hp h 59 = beO i (vr ca) (vr wA)) (hw : hp h wA = aI 0 n W) (hn : szC c ≤ n) (hn1 : n ≤ 24000) (hW : wOK c W) (hu : 0 ≤ u ∧ u ≤ 2147483647) (h1 : 2 ≤ bearS c y) (h2 : u ≤ W (encC c y)) :
    ∀ (r p : Nat), p + r = kN c → (∀ q, q < p → u ≤ W (encC c (weakS y q))) → ∀ d Q, WP (d + 2) 6 26 [some (vr 59), some (vi (encC c y)), some (vi u), some (vi p)] [] h Q = Q (some (vi (if prB (hldP c W y u) then 1 else 0))) h := by
  have hC' := hC
  have hN := hK.2.2
  have h24 := szC_le hK
  obtain ⟨tf, tt, mf, mt, nn, fh, fw', fa, fc, fg, fp, hA, -⟩ := hC
  intro r
  induction r with
  | zero =>
    intro p hp hq d Q
    have e : p = kN c := by omega
    subst e
    rw [prB_T (show hldP c W y u from ⟨h1, h2, hq⟩), if_pos rfl]
    rw [e_6_26]
    simp (disch := omega) only [e_6_27, e_6_28, e_6_31, e_6_34, e_6_63, e_6_64, h59, hA, true_and, beO_c, beO_g0, beO_k0, beO_g1, beO_k1, beO_s1, beO_g2, beO_k2, beO_s2, beO_g3, beO_k3, beO_s3, beO_g4, beO_k4, beO_s4, dkO_c, dkO_g0, dkO_k0, dkO_s0, dkO_g1, dkO_k1, dkO_s1, dkO_g2, dkO_k2, dkO_s2, hoO_c, hoO_g0, hoO_k0, hoO_s0, hoO_g1, hoO_k1, hoO_s1, hoO_g2, hoO_k2, hoO_s2, hoO_g3, hoO_k3, hoO_g4, hoO_k4, hoO_g5, hoO_k5, hoO_g6, hoO_k6, hoO_g7, hoO_k7, hoO_g8, hoO_k8, hoO_g9, hoO_k9, hoO_s9, iup_s, iup_n, hp_up1, hp_upn, ne_eq, not_false_eq_true, sh_0, sh_1, sh_2, sh_3, sh_4, sh_5, sh_8, sh_15, sh_16, sh_24, Int.reducePow, Int.cast_ofNat_Int, w_of, wl_of, ltT, ltF, leT, leF, eqT, eqF, okF_0, okF_s, gF_0, gF_s, consC_o, sF_0, sF_s, clsO_o, inA_i, ldA_i, stA_i, inJ_l, ldJ_l, stJ_l, inR_r, ldR_r, stR_r, tgR_r, lenA_i, lenA_l, lenA_r, lenA_ex, nl_i, nl_o, nl_l, nl_n, wd_n, wd_i, wd_l, wd_o, fit_i, fit_l, fit_o, K_v, K_n, true_and, and_true, Nat.reduceAdd, Nat.reduceLeDiff, Nat.reduceEqDiff, Nat.reduceMul, Nat.reduceLT, reduceIte, true_or, or_true, cmp_lt, cmp_gt, cmp_eq, wb_0, b_01, cmp_lt', cmp_gt', cmp_eq', b_0, b_1, wb_1, Int.reduceSub, Int.reduceToNat, List.getD_cons_succ, List.getD_cons_zero, Int.reduceLE, Int.reduceLT, Int.reduceEq, Int.reduceNeg, Int.reduceAdd, Int.reduceMul, and_self, em_b, ne_eq, not_false_eq_true, not_true_eq_false]
    try rfl
  | succ r ih =>
    intro p hp hq d Q
    have hwo := weakS_ok (p := p) hy (by omega)
    have hwl := encC_lt hK hwo
    have wk := fun (d : Nat) (Q : PQ) => c_weakened (d := d) (Q := Q) (p := p) hK hC' hy (by omega)
    have wb := hW _ hwo
    have ep : (p : Int) + 1 = ((p + 1 : Nat) : Int) := by omega
    by_cases hh : u ≤ W (encC c (weakS y p))
    · rw [← ih (p + 1) (by omega) (fun q hq' => by
        by_cases z : q = p
        · rw [z]; exact hh
        · exact hq q (by omega)) d Q]
      rw [e_6_26]
      simp (disch := omega) only [e_6_27, e_6_28, e_6_31, e_6_34, e_6_37, e_6_38, e_6_41, e_6_42, e_6_45, e_6_46, e_6_47, e_6_50, e_6_51, e_6_52, e_6_55, e_6_56, e_6_57, e_6_60, h59, hw, hA, wk, ep, true_and, beO_c, beO_g0, beO_k0, beO_g1, beO_k1, beO_s1, beO_g2, beO_k2, beO_s2, beO_g3, beO_k3, beO_s3, beO_g4, beO_k4, beO_s4, dkO_c, dkO_g0, dkO_k0, dkO_s0, dkO_g1, dkO_k1, dkO_s1, dkO_g2, dkO_k2, dkO_s2, hoO_c, hoO_g0, hoO_k0, hoO_s0, hoO_g1, hoO_k1, hoO_s1, hoO_g2, hoO_k2, hoO_s2, hoO_g3, hoO_k3, hoO_g4, hoO_k4, hoO_g5, hoO_k5, hoO_g6, hoO_k6, hoO_g7, hoO_k7, hoO_g8, hoO_k8, hoO_g9, hoO_k9, hoO_s9, iup_s, iup_n, hp_up1, hp_upn, ne_eq, not_false_eq_true, sh_0, sh_1, sh_2, sh_3, sh_4, sh_5, sh_8, sh_15, sh_16, sh_24, Int.reducePow, Int.cast_ofNat_Int, w_of, wl_of, ltT, ltF, leT, leF, eqT, eqF, okF_0, okF_s, gF_0, gF_s, consC_o, sF_0, sF_s, clsO_o, inA_i, ldA_i, stA_i, inJ_l, ldJ_l, stJ_l, inR_r, ldR_r, stR_r, tgR_r, lenA_i, lenA_l, lenA_r, lenA_ex, nl_i, nl_o, nl_l, nl_n, wd_n, wd_i, wd_l, wd_o, fit_i, fit_l, fit_o, K_v, K_n, true_and, and_true, Nat.reduceAdd, Nat.reduceLeDiff, Nat.reduceEqDiff, Nat.reduceMul, Nat.reduceLT, reduceIte, true_or, or_true, cmp_lt, cmp_gt, cmp_eq, wb_0, b_01, cmp_lt', cmp_gt', cmp_eq', b_0, b_1, wb_1, Int.reduceSub, Int.reduceToNat, List.getD_cons_succ, List.getD_cons_zero, Int.reduceLE, Int.reduceLT, Int.reduceEq, Int.reduceNeg, Int.reduceAdd, Int.reduceMul, and_self, em_b, ne_eq, not_false_eq_true, not_true_eq_false]
      try rfl
    · rw [prB_F (show ¬ hldP c W y u from fun z => hh (z.2.2 p (by omega))), if_neg (by decide)]
      rw [e_6_26]
      simp (disch := omega) only [e_6_27, e_6_28, e_6_31, e_6_34, e_6_37, e_6_38, e_6_41, e_6_42, e_6_45, e_6_46, e_6_47, e_6_50, e_6_51, e_6_52, e_6_55, e_6_56, h59, hw, hA, wk, ep, true_and, beO_c, beO_g0, beO_k0, beO_g1, beO_k1, beO_s1, beO_g2, beO_k2, beO_s2, beO_g3, beO_k3, beO_s3, beO_g4, beO_k4, beO_s4, dkO_c, dkO_g0, dkO_k0, dkO_s0, dkO_g1, dkO_k1, dkO_s1, dkO_g2, dkO_k2, dkO_s2, hoO_c, hoO_g0, hoO_k0, hoO_s0, hoO_g1, hoO_k1, hoO_s1, hoO_g2, hoO_k2, hoO_s2, hoO_g3, hoO_k3, hoO_g4, hoO_k4, hoO_g5, hoO_k5, hoO_g6, hoO_k6, hoO_g7, hoO_k7, hoO_g8, hoO_k8, hoO_g9, hoO_k9, hoO_s9, iup_s, iup_n, hp_up1, hp_upn, ne_eq, not_false_eq_true, sh_0, sh_1, sh_2, sh_3, sh_4, sh_5, sh_8, sh_15, sh_16, sh_24, Int.reducePow, Int.cast_ofNat_Int, w_of, wl_of, ltT, ltF, leT, leF, eqT, eqF, okF_0, okF_s, gF_0, gF_s, consC_o, sF_0, sF_s, clsO_o, inA_i, ldA_i, stA_i, inJ_l, ldJ_l, stJ_l, inR_r, ldR_r, stR_r, tgR_r, lenA_i, lenA_l, lenA_r, lenA_ex, nl_i, nl_o, nl_l, nl_n, wd_n, wd_i, wd_l, wd_o, fit_i, fit_l, fit_o, K_v, K_n, true_and, and_true, Nat.reduceAdd, Nat.reduceLeDiff, Nat.reduceEqDiff, Nat.reduceMul, Nat.reduceLT, reduceIte, true_or, or_true, cmp_lt, cmp_gt, cmp_eq, wb_0, b_01, cmp_lt', cmp_gt', cmp_eq', b_0, b_1, wb_1, Int.reduceSub, Int.reduceToNat, List.getD_cons_succ, List.getD_cons_zero, Int.reduceLE, Int.reduceLT, Int.reduceEq, Int.reduceNeg, Int.reduceAdd, Int.reduceMul, and_self, em_b, ne_eq, not_false_eq_true, not_true_eq_false]
      try rfl
theorem Be_holds {h : PH} {ca : Nat} {c : KC} {n wA : Nat} {i : Nat → Int} {W : Int → Int} {y : ST} {u : Int} (hK : okK c) (hC : CtyAt h ca c) (hy : okS c y) (h59 : hp h 59 = beO i (vr ca) (vr wA)) (hw : hp h wA = aI 0 n W) (hn : szC c ≤ n) (hn1 : n ≤ 24000) (hW : wOK c W) (hu : 0 ≤ u ∧ u ≤ 2147483647) :
    ∀ d Q, WP (d + 2) 6 0 [some (vr 59), some (vi (encC c y)), some (vi u), none] [] h Q = Q (some (vi (if prB (hldP c W y u) then 1 else 0))) h := by
  have hC' := hC
  have hN := hK.2.2
  have h24 := szC_le hK
  have hyl := encC_lt hK hy
  have wb := hW _ hy
  have br := fun (d : Nat) (Q : PQ) => c_bearing (d := d) (Q := Q) hK hC' hy
  have bl : bearS c y < 4 := by
    unfold bearS
    split
    · omega
    · exact ((okS_R hK hy).1 y.1).2
  obtain ⟨tf, tt, mf, mt, nn, fh, fw', fa, fc, fg, fp, hA, -⟩ := hC
  intro d Q
  by_cases h1 : 2 ≤ bearS c y
  · by_cases h2 : u ≤ W (encC c y)
    · have lp := Be_hLp hK hC' hy h59 hw hn hn1 hW hu h1 h2 (kN c) 0 (by omega) (fun q hq => by omega) d Q
      rw [nc0] at lp
      rw [← lp]
      simp (disch := omega) only [e_6_0, e_6_1, e_6_4, e_6_5, e_6_8, e_6_9, e_6_12, e_6_13, e_6_16, e_6_17, e_6_18, e_6_19, e_6_22, e_6_23, e_6_24, e_6_25, h59, hw, hA, br, true_and, beO_c, beO_g0, beO_k0, beO_g1, beO_k1, beO_s1, beO_g2, beO_k2, beO_s2, beO_g3, beO_k3, beO_s3, beO_g4, beO_k4, beO_s4, dkO_c, dkO_g0, dkO_k0, dkO_s0, dkO_g1, dkO_k1, dkO_s1, dkO_g2, dkO_k2, dkO_s2, hoO_c, hoO_g0, hoO_k0, hoO_s0, hoO_g1, hoO_k1, hoO_s1, hoO_g2, hoO_k2, hoO_s2, hoO_g3, hoO_k3, hoO_g4, hoO_k4, hoO_g5, hoO_k5, hoO_g6, hoO_k6, hoO_g7, hoO_k7, hoO_g8, hoO_k8, hoO_g9, hoO_k9, hoO_s9, iup_s, iup_n, hp_up1, hp_upn, ne_eq, not_false_eq_true, sh_0, sh_1, sh_2, sh_3, sh_4, sh_5, sh_8, sh_15, sh_16, sh_24, Int.reducePow, Int.cast_ofNat_Int, w_of, wl_of, ltT, ltF, leT, leF, eqT, eqF, okF_0, okF_s, gF_0, gF_s, consC_o, sF_0, sF_s, clsO_o, inA_i, ldA_i, stA_i, inJ_l, ldJ_l, stJ_l, inR_r, ldR_r, stR_r, tgR_r, lenA_i, lenA_l, lenA_r, lenA_ex, nl_i, nl_o, nl_l, nl_n, wd_n, wd_i, wd_l, wd_o, fit_i, fit_l, fit_o, K_v, K_n, true_and, and_true, Nat.reduceAdd, Nat.reduceLeDiff, Nat.reduceEqDiff, Nat.reduceMul, Nat.reduceLT, reduceIte, true_or, or_true, cmp_lt, cmp_gt, cmp_eq, wb_0, b_01, cmp_lt', cmp_gt', cmp_eq', b_0, b_1, wb_1, Int.reduceSub, Int.reduceToNat, List.getD_cons_succ, List.getD_cons_zero, Int.reduceLE, Int.reduceLT, Int.reduceEq, Int.reduceNeg, Int.reduceAdd, Int.reduceMul, and_self, em_b, ne_eq, not_false_eq_true, not_true_eq_false]
      try rfl
    · rw [prB_F (show ¬ hldP c W y u from fun z => h2 z.2.1), if_neg (by decide)]
      simp (disch := omega) only [e_6_0, e_6_1, e_6_4, e_6_5, e_6_8, e_6_9, e_6_12, e_6_13, e_6_16, e_6_17, e_6_18, e_6_19, e_6_22, e_6_23, e_6_24, e_6_25, h59, hw, hA, br, true_and, beO_c, beO_g0, beO_k0, beO_g1, beO_k1, beO_s1, beO_g2, beO_k2, beO_s2, beO_g3, beO_k3, beO_s3, beO_g4, beO_k4, beO_s4, dkO_c, dkO_g0, dkO_k0, dkO_s0, dkO_g1, dkO_k1, dkO_s1, dkO_g2, dkO_k2, dkO_s2, hoO_c, hoO_g0, hoO_k0, hoO_s0, hoO_g1, hoO_k1, hoO_s1, hoO_g2, hoO_k2, hoO_s2, hoO_g3, hoO_k3, hoO_g4, hoO_k4, hoO_g5, hoO_k5, hoO_g6, hoO_k6, hoO_g7, hoO_k7, hoO_g8, hoO_k8, hoO_g9, hoO_k9, hoO_s9, iup_s, iup_n, hp_up1, hp_upn, ne_eq, not_false_eq_true, sh_0, sh_1, sh_2, sh_3, sh_4, sh_5, sh_8, sh_15, sh_16, sh_24, Int.reducePow, Int.cast_ofNat_Int, w_of, wl_of, ltT, ltF, leT, leF, eqT, eqF, okF_0, okF_s, gF_0, gF_s, consC_o, sF_0, sF_s, clsO_o, inA_i, ldA_i, stA_i, inJ_l, ldJ_l, stJ_l, inR_r, ldR_r, stR_r, tgR_r, lenA_i, lenA_l, lenA_r, lenA_ex, nl_i, nl_o, nl_l, nl_n, wd_n, wd_i, wd_l, wd_o, fit_i, fit_l, fit_o, K_v, K_n, true_and, and_true, Nat.reduceAdd, Nat.reduceLeDiff, Nat.reduceEqDiff, Nat.reduceMul, Nat.reduceLT, reduceIte, true_or, or_true, cmp_lt, cmp_gt, cmp_eq, wb_0, b_01, cmp_lt', cmp_gt', cmp_eq', b_0, b_1, wb_1, Int.reduceSub, Int.reduceToNat, List.getD_cons_succ, List.getD_cons_zero, Int.reduceLE, Int.reduceLT, Int.reduceEq, Int.reduceNeg, Int.reduceAdd, Int.reduceMul, and_self, em_b, ne_eq, not_false_eq_true, not_true_eq_false]
      try rfl
  · rw [prB_F (show ¬ hldP c W y u from fun z => h1 z.1), if_neg (by decide)]
    simp (disch := omega) only [e_6_0, e_6_1, e_6_4, e_6_5, e_6_8, e_6_9, e_6_12, e_6_13, e_6_16, e_6_17, e_6_18, e_6_19, e_6_22, e_6_23, e_6_24, e_6_25, h59, hw, hA, br, true_and, beO_c, beO_g0, beO_k0, beO_g1, beO_k1, beO_s1, beO_g2, beO_k2, beO_s2, beO_g3, beO_k3, beO_s3, beO_g4, beO_k4, beO_s4, dkO_c, dkO_g0, dkO_k0, dkO_s0, dkO_g1, dkO_k1, dkO_s1, dkO_g2, dkO_k2, dkO_s2, hoO_c, hoO_g0, hoO_k0, hoO_s0, hoO_g1, hoO_k1, hoO_s1, hoO_g2, hoO_k2, hoO_s2, hoO_g3, hoO_k3, hoO_g4, hoO_k4, hoO_g5, hoO_k5, hoO_g6, hoO_k6, hoO_g7, hoO_k7, hoO_g8, hoO_k8, hoO_g9, hoO_k9, hoO_s9, iup_s, iup_n, hp_up1, hp_upn, ne_eq, not_false_eq_true, sh_0, sh_1, sh_2, sh_3, sh_4, sh_5, sh_8, sh_15, sh_16, sh_24, Int.reducePow, Int.cast_ofNat_Int, w_of, wl_of, ltT, ltF, leT, leF, eqT, eqF, okF_0, okF_s, gF_0, gF_s, consC_o, sF_0, sF_s, clsO_o, inA_i, ldA_i, stA_i, inJ_l, ldJ_l, stJ_l, inR_r, ldR_r, stR_r, tgR_r, lenA_i, lenA_l, lenA_r, lenA_ex, nl_i, nl_o, nl_l, nl_n, wd_n, wd_i, wd_l, wd_o, fit_i, fit_l, fit_o, K_v, K_n, true_and, and_true, Nat.reduceAdd, Nat.reduceLeDiff, Nat.reduceEqDiff, Nat.reduceMul, Nat.reduceLT, reduceIte, true_or, or_true, cmp_lt, cmp_gt, cmp_eq, wb_0, b_01, cmp_lt', cmp_gt', cmp_eq', b_0, b_1, wb_1, Int.reduceSub, Int.reduceToNat, List.getD_cons_succ, List.getD_cons_zero, Int.reduceLE, Int.reduceLT, Int.reduceEq, Int.reduceNeg, Int.reduceAdd, Int.reduceMul, and_self, em_b, ne_eq, not_false_eq_true, not_true_eq_false]
    try rfl
theorem Be_nLp {ow : Nat → Nat} {h : PH} {ca : Nat} {c : KC} {sky n wA : Nat} {i : Nat → Int} {W : Int → Int} {x : ST} {u : Int} {L : List (Nat × ST)} (hL : nx c sky x = L) (hO : okC c) (hx : okS c x) (hC : KCty ow h ca c) (hS : spr h ca c L) (h59 : hp h 59 = beO i (vr ca) (vr wA)) (hw : hp h wA = aI 0 n W) (hn : szC c ≤ n) (hn1 : n ≤ 24000) (hW : wOK c W) (hu : 0 ≤ u ∧ u ≤ 2147483647) :
    ∀ (r j : Nat), j + r = L.length → (∀ (k : Nat) y, k < j → L[k]? = some y → ¬ hldP c W y.2 u) → ∃ w : Int, ((w = -1 ∧ ∀ (k : Nat) y, L[k]? = some y → ¬ hldP c W y.2 u) ∨ ∃ y, y ∈ L ∧ w = (encC c y.2 : Int) ∧ hldP c W y.2 u) ∧ ∀ d Q, WP (d + 3) 8 8 [some (vr 59), some (vr 27), some (vi (encC c x)), some (vi u), some (vi j)] [] h Q = Q (some (vi w)) h := by
  have hK := hO.1
  have h24 := szC_le hK
  have hlen := nx_len (sky := sky) hO hx
  rw [hL] at hlen
  obtain ⟨ii, f, g', a1, a2, a3, a4, a5⟩ := hS
  intro r
  induction r with
  | zero =>
    intro j hj hno
    have e : j = L.length := by omega
    subst e
    refine ⟨-1, Or.inl ⟨rfl, fun k y hy => hno k y (List.getElem?_eq_some_iff.mp hy).1 hy⟩, fun d Q => ?_⟩
    rw [e_8_8]
    simp (disch := omega) only [e_8_10, e_8_11, e_8_14, e_8_46, e_8_47, a1, a2, true_and, beO_c, beO_g0, beO_k0, beO_g1, beO_k1, beO_s1, beO_g2, beO_k2, beO_s2, beO_g3, beO_k3, beO_s3, beO_g4, beO_k4, beO_s4, dkO_c, dkO_g0, dkO_k0, dkO_s0, dkO_g1, dkO_k1, dkO_s1, dkO_g2, dkO_k2, dkO_s2, hoO_c, hoO_g0, hoO_k0, hoO_s0, hoO_g1, hoO_k1, hoO_s1, hoO_g2, hoO_k2, hoO_s2, hoO_g3, hoO_k3, hoO_g4, hoO_k4, hoO_g5, hoO_k5, hoO_g6, hoO_k6, hoO_g7, hoO_k7, hoO_g8, hoO_k8, hoO_g9, hoO_k9, hoO_s9, iup_s, iup_n, hp_up1, hp_upn, ne_eq, not_false_eq_true, sh_0, sh_1, sh_2, sh_3, sh_4, sh_5, sh_8, sh_15, sh_16, sh_24, Int.reducePow, Int.cast_ofNat_Int, w_of, wl_of, ltT, ltF, leT, leF, eqT, eqF, okF_0, okF_s, gF_0, gF_s, consC_o, sF_0, sF_s, clsO_o, inA_i, ldA_i, stA_i, inJ_l, ldJ_l, stJ_l, inR_r, ldR_r, stR_r, tgR_r, lenA_i, lenA_l, lenA_r, lenA_ex, nl_i, nl_o, nl_l, nl_n, wd_n, wd_i, wd_l, wd_o, fit_i, fit_l, fit_o, K_v, K_n, true_and, and_true, Nat.reduceAdd, Nat.reduceLeDiff, Nat.reduceEqDiff, Nat.reduceMul, Nat.reduceLT, reduceIte, true_or, or_true, cmp_lt, cmp_gt, cmp_eq, wb_0, b_01, cmp_lt', cmp_gt', cmp_eq', b_0, b_1, wb_1, Int.reduceSub, Int.reduceToNat, List.getD_cons_succ, List.getD_cons_zero, Int.reduceLE, Int.reduceLT, Int.reduceEq, Int.reduceNeg, Int.reduceAdd, Int.reduceMul, and_self, em_b, ne_eq, not_false_eq_true, not_true_eq_false]
    try rfl
  | succ r ih =>
    intro j hj hno
    have hy : L[j]? = some L[j] := List.getElem?_eq_getElem (by omega)
    generalize L[j] = y at hy
    obtain ⟨x1, x2⟩ := a5 j y hy
    have hym : y ∈ nx c sky x := by rw [hL]; exact List.mem_of_getElem? hy
    have hyo := nx_ok hx hym
    have hyl := encC_lt hK hyo
    have hh := fun (d : Nat) (Q : PQ) => Be_holds hK hC.1 hyo h59 hw hn hn1 hW hu d Q
    have ej : (j : Int) + 1 = ((j + 1 : Nat) : Int) := by omega
    by_cases hl : hldP c W y.2 u
    · simp only [prB_T hl, if_true] at hh
      refine ⟨(encC c y.2 : Int), Or.inr ⟨y, List.mem_of_getElem? hy, rfl, hl⟩, fun d Q => ?_⟩
      rw [e_8_8]
      simp (disch := omega) only [e_8_10, e_8_11, e_8_14, e_8_17, e_8_18, e_8_19, e_8_22, e_8_24, e_8_25, e_8_26, e_8_29, e_8_32, e_8_33, e_8_36, e_8_38, e_8_39, a1, a2, a4, x2, h59, hh, true_and, beO_c, beO_g0, beO_k0, beO_g1, beO_k1, beO_s1, beO_g2, beO_k2, beO_s2, beO_g3, beO_k3, beO_s3, beO_g4, beO_k4, beO_s4, dkO_c, dkO_g0, dkO_k0, dkO_s0, dkO_g1, dkO_k1, dkO_s1, dkO_g2, dkO_k2, dkO_s2, hoO_c, hoO_g0, hoO_k0, hoO_s0, hoO_g1, hoO_k1, hoO_s1, hoO_g2, hoO_k2, hoO_s2, hoO_g3, hoO_k3, hoO_g4, hoO_k4, hoO_g5, hoO_k5, hoO_g6, hoO_k6, hoO_g7, hoO_k7, hoO_g8, hoO_k8, hoO_g9, hoO_k9, hoO_s9, iup_s, iup_n, hp_up1, hp_upn, ne_eq, not_false_eq_true, sh_0, sh_1, sh_2, sh_3, sh_4, sh_5, sh_8, sh_15, sh_16, sh_24, Int.reducePow, Int.cast_ofNat_Int, w_of, wl_of, ltT, ltF, leT, leF, eqT, eqF, okF_0, okF_s, gF_0, gF_s, consC_o, sF_0, sF_s, clsO_o, inA_i, ldA_i, stA_i, inJ_l, ldJ_l, stJ_l, inR_r, ldR_r, stR_r, tgR_r, lenA_i, lenA_l, lenA_r, lenA_ex, nl_i, nl_o, nl_l, nl_n, wd_n, wd_i, wd_l, wd_o, fit_i, fit_l, fit_o, K_v, K_n, true_and, and_true, Nat.reduceAdd, Nat.reduceLeDiff, Nat.reduceEqDiff, Nat.reduceMul, Nat.reduceLT, reduceIte, true_or, or_true, cmp_lt, cmp_gt, cmp_eq, wb_0, b_01, cmp_lt', cmp_gt', cmp_eq', b_0, b_1, wb_1, Int.reduceSub, Int.reduceToNat, List.getD_cons_succ, List.getD_cons_zero, Int.reduceLE, Int.reduceLT, Int.reduceEq, Int.reduceNeg, Int.reduceAdd, Int.reduceMul, and_self, em_b, ne_eq, not_false_eq_true, not_true_eq_false]
      try rfl
    · simp only [prB_F hl, if_false, Bool.false_eq_true] at hh
      obtain ⟨w, w1, w2⟩ := ih (j + 1) (by omega) (fun k z hk hz => by
        by_cases e : k = j
        · rw [e, hy] at hz
          have ez : y = z := Option.some.inj hz
          rw [← ez]; exact hl
        · exact hno k z (by omega) hz)
      refine ⟨w, w1, fun d Q => ?_⟩
      rw [← w2 d Q]
      rw [e_8_8]
      simp (disch := omega) only [e_8_10, e_8_11, e_8_14, e_8_17, e_8_18, e_8_19, e_8_22, e_8_24, e_8_25, e_8_26, e_8_29, e_8_32, e_8_33, e_8_36, e_8_38, e_8_39, e_8_40, e_8_43, a1, a2, a4, x2, h59, hh, ej, true_and, beO_c, beO_g0, beO_k0, beO_g1, beO_k1, beO_s1, beO_g2, beO_k2, beO_s2, beO_g3, beO_k3, beO_s3, beO_g4, beO_k4, beO_s4, dkO_c, dkO_g0, dkO_k0, dkO_s0, dkO_g1, dkO_k1, dkO_s1, dkO_g2, dkO_k2, dkO_s2, hoO_c, hoO_g0, hoO_k0, hoO_s0, hoO_g1, hoO_k1, hoO_s1, hoO_g2, hoO_k2, hoO_s2, hoO_g3, hoO_k3, hoO_g4, hoO_k4, hoO_g5, hoO_k5, hoO_g6, hoO_k6, hoO_g7, hoO_k7, hoO_g8, hoO_k8, hoO_g9, hoO_k9, hoO_s9, iup_s, iup_n, hp_up1, hp_upn, ne_eq, not_false_eq_true, sh_0, sh_1, sh_2, sh_3, sh_4, sh_5, sh_8, sh_15, sh_16, sh_24, Int.reducePow, Int.cast_ofNat_Int, w_of, wl_of, ltT, ltF, leT, leF, eqT, eqF, okF_0, okF_s, gF_0, gF_s, consC_o, sF_0, sF_s, clsO_o, inA_i, ldA_i, stA_i, inJ_l, ldJ_l, stJ_l, inR_r, ldR_r, stR_r, tgR_r, lenA_i, lenA_l, lenA_r, lenA_ex, nl_i, nl_o, nl_l, nl_n, wd_n, wd_i, wd_l, wd_o, fit_i, fit_l, fit_o, K_v, K_n, true_and, and_true, Nat.reduceAdd, Nat.reduceLeDiff, Nat.reduceEqDiff, Nat.reduceMul, Nat.reduceLT, reduceIte, true_or, or_true, cmp_lt, cmp_gt, cmp_eq, wb_0, b_01, cmp_lt', cmp_gt', cmp_eq', b_0, b_1, wb_1, Int.reduceSub, Int.reduceToNat, List.getD_cons_succ, List.getD_cons_zero, Int.reduceLE, Int.reduceLT, Int.reduceEq, Int.reduceNeg, Int.reduceAdd, Int.reduceMul, and_self, em_b, ne_eq, not_false_eq_true, not_true_eq_false]
      try rfl
theorem Be_new {ow : Nat → Nat} {h : PH} {ca : Nat} {c : KC} {sky e n wA : Nat} {i : Nat → Int} {W : Int → Int} {x : ST} {u : Int} (hF : owF ow h) (hH : HoP ow h ca c sky e) (hx : okS c x) (h59 : hp h 59 = beO i (vr ca) (vr wA)) (hw : hp h wA = aI 0 n W) (ow6 : ow wA = 6) (hn : szC c ≤ n) (hn1 : n ≤ 24000) (hW : wOK c W) (hu : 0 ≤ u ∧ u ≤ 2147483647) :
    ∃ (h' : PH) (w : Int), chg ow [1] h h' ∧ HoP ow h' ca c sky e ∧ ((w = -1 ∧ ∀ y, y ∈ nx c sky x → ¬ hldP c W y.2 u) ∨ ∃ y, y ∈ nx c sky x ∧ w = (encC c y.2 : Int) ∧ hldP c W y.2 u) ∧ ∀ d Q, WP (d + 9) 8 0 [some (vr 59), some (vr 27), some (vi (encC c x)), some (vi u), none] [] h Q = Q (some (vi w)) h' := by
  obtain ⟨iy, h27⟩ : ∃ i, hp h 27 = hoO i (vr ca) := by obtain ⟨i, A, a1, _⟩ := hH; exact ⟨i, a1⟩
  obtain ⟨g, g1, g2, g3, g4⟩ := H_spread hF hH hx
  obtain ⟨hKC⟩ : Nonempty (KCty ow g ca c) := by obtain ⟨_, _, _, _, _, _, _, _, _, _, a9⟩ := g2; exact ⟨a9⟩
  have t59 : ow 59 = 6 := hF.2 59 (by omega)
  have e59 : hp g 59 = beO i (vr ca) (vr wA) := by rw [chg_at g1 t59 (by decide)]; exact h59
  have ew : hp g wA = aI 0 n W := by rw [chg_at g1 ow6 (by decide)]; exact hw
  obtain ⟨w, w1, w2⟩ := Be_nLp rfl hKC.2.1 hx hKC g3 e59 ew hn hn1 hW hu (nx c sky x).length 0 (by omega) (fun k y hk => by omega)
  refine ⟨g, w, g1, g2, ?_, fun d Q => ?_⟩
  · rcases w1 with ⟨z1, z2⟩ | ⟨y, z1, z2⟩
    · refine Or.inl ⟨z1, fun y hy => ?_⟩
      obtain ⟨k, hk⟩ := List.getElem?_of_mem hy
      exact z2 k y hk
    · exact Or.inr ⟨y, z1, z2⟩
  · have w2' := w2 (d + 6) Q
    rw [nc0] at w2'
    have g4' := fun (Q : PQ) => g4 d Q
    rw [← w2']
    simp (disch := omega) only [e_8_0, e_8_1, e_8_2, e_8_5, e_8_6, h27, g4', true_and, beO_c, beO_g0, beO_k0, beO_g1, beO_k1, beO_s1, beO_g2, beO_k2, beO_s2, beO_g3, beO_k3, beO_s3, beO_g4, beO_k4, beO_s4, dkO_c, dkO_g0, dkO_k0, dkO_s0, dkO_g1, dkO_k1, dkO_s1, dkO_g2, dkO_k2, dkO_s2, hoO_c, hoO_g0, hoO_k0, hoO_s0, hoO_g1, hoO_k1, hoO_s1, hoO_g2, hoO_k2, hoO_s2, hoO_g3, hoO_k3, hoO_g4, hoO_k4, hoO_g5, hoO_k5, hoO_g6, hoO_k6, hoO_g7, hoO_k7, hoO_g8, hoO_k8, hoO_g9, hoO_k9, hoO_s9, iup_s, iup_n, hp_up1, hp_upn, ne_eq, not_false_eq_true, sh_0, sh_1, sh_2, sh_3, sh_4, sh_5, sh_8, sh_15, sh_16, sh_24, Int.reducePow, Int.cast_ofNat_Int, w_of, wl_of, ltT, ltF, leT, leF, eqT, eqF, okF_0, okF_s, gF_0, gF_s, consC_o, sF_0, sF_s, clsO_o, inA_i, ldA_i, stA_i, inJ_l, ldJ_l, stJ_l, inR_r, ldR_r, stR_r, tgR_r, lenA_i, lenA_l, lenA_r, lenA_ex, nl_i, nl_o, nl_l, nl_n, wd_n, wd_i, wd_l, wd_o, fit_i, fit_l, fit_o, K_v, K_n, true_and, and_true, Nat.reduceAdd, Nat.reduceLeDiff, Nat.reduceEqDiff, Nat.reduceMul, Nat.reduceLT, reduceIte, true_or, or_true, cmp_lt, cmp_gt, cmp_eq, wb_0, b_01, cmp_lt', cmp_gt', cmp_eq', b_0, b_1, wb_1, Int.reduceSub, Int.reduceToNat, List.getD_cons_succ, List.getD_cons_zero, Int.reduceLE, Int.reduceLT, Int.reduceEq, Int.reduceNeg, Int.reduceAdd, Int.reduceMul, and_self, em_b, ne_eq, not_false_eq_true, not_true_eq_false]
    try rfl
