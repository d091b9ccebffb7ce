/-! THE REFERENCE: laysSeen, seen, seenBy -/
theorem r_seenK {h : PH} {c : KC} {sky t lev so : Nat} {s : ST} {L : List ST} {i : Nat → Int} {T : TT} {l : List Int} {l2 : Int} (hO : okC c) (ht : t < 4) (e : T t = some (so, l)) (hlev : lev < l.length) (hl8 : l.length ≤ 8) :
    ∀ (r k : Nat) (A : Nat → Int → Int) (o5 o6 o7 o8 : Option PV), k + r = L.length → ctyR (A 72) c → traR T A → laidR c sky 3 false s L i A → (∀ v, lev < v → v ≤ l.length → onOK c sky l L (A 85) v) → (∀ (j : Nat) x, j < k → L[j]? = some x → A 85 ((24000 * lev + j : Nat) : Int) = cmF c sky l (l.length - lev) lev x) →
    ∃ (f : Int → Int) (l5 l6 l7 l8 : Option PV), (∀ v, lev ≤ v → v ≤ l.length → onOK c sky l L f v) ∧ ∀ d Q, WP (d + 4) 268 53 [some (vr 71), some (vi t), some (vi l2), some (vi lev), some (vi k), o5, o6, o7, o8] [] (mdH h i A) Q = WP (d + 4) 268 154 [some (vr 71), some (vi t), some (vi l2), some (vi lev), some (vi L.length), l5, l6, l7, l8] [] (mdH h i (aup A 85 f)) Q := by
  have hK := hO.1
  intro r
  induction r with
  | zero =>
    intro k A o5 o6 o7 o8 hk hR hT hL hon hdone
    have hk' : k = L.length := by omega
    subst hk'
    have h25 := hL.1.1
    have hlen := stkR_len hK hL.1
    refine ⟨A 85, o5, o6, o7, o8, fun v h1 h2 => ?_, fun d Q => ?_⟩
    · by_cases q : v = lev
      · subst q; exact fun j x hx => hdone j x (List.getElem?_eq_some_iff.mp hx).1 hx
      · exact hon v (by omega) h2
    · rw [aup_id]
      rw [e_268_53]
      simp (disch := omega) only [e_268_55, e_268_56, e_268_59, h25, mdO_c, mdO_g0, mdO_k0, mdO_g1, mdO_k1, mdO_g2, mdO_k2, mdO_g3, mdO_k3, mdO_g4, mdO_k4, mdO_g5, mdO_k5, mdO_g6, mdO_k6, mdO_g7, mdO_k7, mdO_g8, mdO_k8, mdO_g9, mdO_k9, mdO_g10, mdO_k10, mdO_g11, mdO_k11, mdO_g12, mdO_k12, mdO_g13, mdO_k13, mdO_g14, mdO_k14, mdO_g15, mdO_k15, mdO_g16, mdO_k16, mdO_g17, mdO_k17, mdO_g18, mdO_k18, mdO_g19, mdO_k19, mdO_g20, mdO_k20, mdO_g21, mdO_k21, mdO_g22, mdO_k22, mdO_g23, mdO_k23, mdO_g24, mdO_k24, mdO_g25, mdO_k25, mdO_g26, mdO_k26, mdO_g27, mdO_k27, mdO_g28, mdO_k28, mdO_g29, mdO_k29, mdO_g30, mdO_k30, mdO_g31, mdO_k31, mdO_g32, mdO_k32, mdO_g33, mdO_k33, mdO_g34, mdO_k34, mdO_g35, mdO_k35, mdO_s0, mdO_s5, mdO_s6, mdO_s7, mdO_s8, mdO_s9, mdO_s10, mdO_s11, mdO_s12, mdO_s13, mdO_s14, mdO_s15, mdO_s19, mdO_s20, mdO_s25, mdO_s26, mdO_s31, mdO_s32, md_1, md_2, md_g71, md_g72, md_g73, md_g74, md_g75, md_g76, md_g77, md_g78, md_g79, md_g80, md_g81, md_g82, md_g83, md_g84, md_g85, md_g86, md_g87, md_g88, md_g89, md_out, md_u71, md_u72, md_u73, md_u74, md_u75, md_u76, md_u77, md_u78, md_u79, md_u80, md_u81, md_u82, md_u83, md_u84, md_u85, md_u86, md_u87, md_u88, md_u89, md_uo, iup_s, iup_n, aup_s, aup_n, ne_eq, not_false_eq_true, sh_0, sh_1, sh_2, sh_3, sh_4, sh_5, sh_8, sh_15, sh_16, sh_24, Int.reducePow, Int.cast_ofNat_Int, w_of, wl_of, ltT, ltF, leT, leF, eqT, eqF, okF_0, okF_s, gF_0, gF_s, consC_o, sF_0, sF_s, clsO_o, inA_i, ldA_i, stA_i, inJ_l, ldJ_l, stJ_l, inR_r, ldR_r, stR_r, tgR_r, lenA_i, lenA_l, lenA_r, lenA_ex, nl_i, nl_o, nl_l, nl_n, wd_n, wd_i, wd_l, wd_o, fit_i, fit_l, fit_o, K_v, K_n, true_and, and_true, Nat.reduceAdd, Nat.reduceLeDiff, Nat.reduceEqDiff, Nat.reduceMul, Nat.reduceLT, reduceIte, true_or, or_true, cmp_lt, cmp_gt, cmp_eq, wb_0, b_01, cmp_lt', cmp_gt', cmp_eq', b_0, b_1, wb_1, Int.reduceSub, Int.reduceToNat, List.getD_cons_succ, List.getD_cons_zero, Int.reduceLE, Int.reduceLT, Int.reduceEq, Int.reduceNeg, Int.reduceAdd, Int.reduceMul, and_self, em_b, ne_eq, not_false_eq_true, not_true_eq_false]
  | succ r ih =>
    intro k A o5 o6 o7 o8 hk hR hT hL hon hdone
    have hkl : k < L.length := by omega
    have h25 := hL.1.1
    have hlen := stkR_len hK hL.1
    have hx : L[k]? = some L[k] := List.getElem?_eq_getElem hkl
    generalize L[k] = x at hx
    obtain ⟨l8, g⟩ := r_seenM (h := h) (l2 := l2) hO hR hT ht e hlev hl8 hL (hon (lev + 1) (by omega) (by omega)) hx 19 0 o8 (by omega)
    have ecm : stW c sky 3 (fun y => if fitB c l lev y then cmF c sky l (l.length - (lev + 1)) (lev + 1) y else 0) x 19 = cmF c sky l (l.length - lev) lev x := by
      rw [show l.length - lev = (l.length - (lev + 1)) + 1 by omega]; rfl
    have e0 : stW c sky 3 (fun y => if fitB c l lev y then cmF c sky l (l.length - (lev + 1)) (lev + 1) y else 0) x 0 = 0 := rfl
    rw [ecm, e0, nc0] at g
    have e2 : (24000 : Int) * (lev : Int) + (k : Int) = ((24000 * lev + k : Nat) : Int) := by omega
    obtain ⟨f, m5, m6, m7, m8, g1, g2⟩ := ih (k + 1) (aup A 85 (fset (A 85) ((24000 * lev + k : Nat) : Int) (cmF c sky l (l.length - lev) lev x))) (some (vl (cmF c sky l (l.length - lev) lev x))) none (some (vi 19)) l8 (by omega) (ctyR_x hR (aup_n (by omega))) (traR_x hT (aup_n (by omega)) (aup_n (by omega)) (aup_n (by omega))) (laidR_x hL rfl (aup_n (by omega)) (aup_n (by omega)) (aup_n (by omega))) (fun v h1 h2 => by
      rw [aup_s]
      intro j y hy
      have hjl := (List.getElem?_eq_some_iff.mp hy).1
      rw [fs_ne (by omega)]
      exact hon v h1 h2 j y hy) (fun j y hj hy => by
      rw [aup_s]
      by_cases w : j = k
      · subst w; rw [hx] at hy; cases hy; rw [fs_same]
      · rw [fs_ne (by omega)]; exact hdone j y (by omega) hy)
    refine ⟨f, m5, m6, m7, m8, g1, fun d Q => ?_⟩
    have g2' := g2 d Q
    rw [aup_aup] at g2'
    rw [← g2']
    have g' := g d Q
    rw [e_268_53]
    simp (disch := omega) only [e_268_55, e_268_56, e_268_59, e_268_62, e_268_63, e_268_65, e_268_66, h25, mdO_c, mdO_g0, mdO_k0, mdO_g1, mdO_k1, mdO_g2, mdO_k2, mdO_g3, mdO_k3, mdO_g4, mdO_k4, mdO_g5, mdO_k5, mdO_g6, mdO_k6, mdO_g7, mdO_k7, mdO_g8, mdO_k8, mdO_g9, mdO_k9, mdO_g10, mdO_k10, mdO_g11, mdO_k11, mdO_g12, mdO_k12, mdO_g13, mdO_k13, mdO_g14, mdO_k14, mdO_g15, mdO_k15, mdO_g16, mdO_k16, mdO_g17, mdO_k17, mdO_g18, mdO_k18, mdO_g19, mdO_k19, mdO_g20, mdO_k20, mdO_g21, mdO_k21, mdO_g22, mdO_k22, mdO_g23, mdO_k23, mdO_g24, mdO_k24, mdO_g25, mdO_k25, mdO_g26, mdO_k26, mdO_g27, mdO_k27, mdO_g28, mdO_k28, mdO_g29, mdO_k29, mdO_g30, mdO_k30, mdO_g31, mdO_k31, mdO_g32, mdO_k32, mdO_g33, mdO_k33, mdO_g34, mdO_k34, mdO_g35, mdO_k35, mdO_s0, mdO_s5, mdO_s6, mdO_s7, mdO_s8, mdO_s9, mdO_s10, mdO_s11, mdO_s12, mdO_s13, mdO_s14, mdO_s15, mdO_s19, mdO_s20, mdO_s25, mdO_s26, mdO_s31, mdO_s32, md_1, md_2, md_g71, md_g72, md_g73, md_g74, md_g75, md_g76, md_g77, md_g78, md_g79, md_g80, md_g81, md_g82, md_g83, md_g84, md_g85, md_g86, md_g87, md_g88, md_g89, md_out, md_u71, md_u72, md_u73, md_u74, md_u75, md_u76, md_u77, md_u78, md_u79, md_u80, md_u81, md_u82, md_u83, md_u84, md_u85, md_u86, md_u87, md_u88, md_u89, md_uo, iup_s, iup_n, aup_s, aup_n, ne_eq, not_false_eq_true, sh_0, sh_1, sh_2, sh_3, sh_4, sh_5, sh_8, sh_15, sh_16, sh_24, Int.reducePow, Int.cast_ofNat_Int, w_of, wl_of, ltT, ltF, leT, leF, eqT, eqF, okF_0, okF_s, gF_0, gF_s, consC_o, sF_0, sF_s, clsO_o, inA_i, ldA_i, stA_i, inJ_l, ldJ_l, stJ_l, inR_r, ldR_r, stR_r, tgR_r, lenA_i, lenA_l, lenA_r, lenA_ex, nl_i, nl_o, nl_l, nl_n, wd_n, wd_i, wd_l, wd_o, fit_i, fit_l, fit_o, K_v, K_n, true_and, and_true, Nat.reduceAdd, Nat.reduceLeDiff, Nat.reduceEqDiff, Nat.reduceMul, Nat.reduceLT, reduceIte, true_or, or_true, cmp_lt, cmp_gt, cmp_eq, wb_0, b_01, cmp_lt', cmp_gt', cmp_eq', b_0, b_1, wb_1, Int.reduceSub, Int.reduceToNat, List.getD_cons_succ, List.getD_cons_zero, Int.reduceLE, Int.reduceLT, Int.reduceEq, Int.reduceNeg, Int.reduceAdd, Int.reduceMul, and_self, em_b, ne_eq, not_false_eq_true, not_true_eq_false]
    refine Eq.trans g' ?_
    simp (disch := omega) only [e_268_133, e_268_134, e_268_137, e_268_140, e_268_141, e_268_142, e_268_144, e_268_145, e_268_147, e_268_148, e_268_151, e2, mdO_c, mdO_g0, mdO_k0, mdO_g1, mdO_k1, mdO_g2, mdO_k2, mdO_g3, mdO_k3, mdO_g4, mdO_k4, mdO_g5, mdO_k5, mdO_g6, mdO_k6, mdO_g7, mdO_k7, mdO_g8, mdO_k8, mdO_g9, mdO_k9, mdO_g10, mdO_k10, mdO_g11, mdO_k11, mdO_g12, mdO_k12, mdO_g13, mdO_k13, mdO_g14, mdO_k14, mdO_g15, mdO_k15, mdO_g16, mdO_k16, mdO_g17, mdO_k17, mdO_g18, mdO_k18, mdO_g19, mdO_k19, mdO_g20, mdO_k20, mdO_g21, mdO_k21, mdO_g22, mdO_k22, mdO_g23, mdO_k23, mdO_g24, mdO_k24, mdO_g25, mdO_k25, mdO_g26, mdO_k26, mdO_g27, mdO_k27, mdO_g28, mdO_k28, mdO_g29, mdO_k29, mdO_g30, mdO_k30, mdO_g31, mdO_k31, mdO_g32, mdO_k32, mdO_g33, mdO_k33, mdO_g34, mdO_k34, mdO_g35, mdO_k35, mdO_s0, mdO_s5, mdO_s6, mdO_s7, mdO_s8, mdO_s9, mdO_s10, mdO_s11, mdO_s12, mdO_s13, mdO_s14, mdO_s15, mdO_s19, mdO_s20, mdO_s25, mdO_s26, mdO_s31, mdO_s32, md_1, md_2, md_g71, md_g72, md_g73, md_g74, md_g75, md_g76, md_g77, md_g78, md_g79, md_g80, md_g81, md_g82, md_g83, md_g84, md_g85, md_g86, md_g87, md_g88, md_g89, md_out, md_u71, md_u72, md_u73, md_u74, md_u75, md_u76, md_u77, md_u78, md_u79, md_u80, md_u81, md_u82, md_u83, md_u84, md_u85, md_u86, md_u87, md_u88, md_u89, md_uo, iup_s, iup_n, aup_s, aup_n, ne_eq, not_false_eq_true, sh_0, sh_1, sh_2, sh_3, sh_4, sh_5, sh_8, sh_15, sh_16, sh_24, Int.reducePow, Int.cast_ofNat_Int, w_of, wl_of, ltT, ltF, leT, leF, eqT, eqF, okF_0, okF_s, gF_0, gF_s, consC_o, sF_0, sF_s, clsO_o, inA_i, ldA_i, stA_i, inJ_l, ldJ_l, stJ_l, inR_r, ldR_r, stR_r, tgR_r, lenA_i, lenA_l, lenA_r, lenA_ex, nl_i, nl_o, nl_l, nl_n, wd_n, wd_i, wd_l, wd_o, fit_i, fit_l, fit_o, K_v, K_n, true_and, and_true, Nat.reduceAdd, Nat.reduceLeDiff, Nat.reduceEqDiff, Nat.reduceMul, Nat.reduceLT, reduceIte, true_or, or_true, cmp_lt, cmp_gt, cmp_eq, wb_0, b_01, cmp_lt', cmp_gt', cmp_eq', b_0, b_1, wb_1, Int.reduceSub, Int.reduceToNat, List.getD_cons_succ, List.getD_cons_zero, Int.reduceLE, Int.reduceLT, Int.reduceEq, Int.reduceNeg, Int.reduceAdd, Int.reduceMul, and_self, em_b, ne_eq, not_false_eq_true, not_true_eq_false]
    try rfl
theorem r_seenL {h : PH} {c : KC} {sky t so : Nat} {s : ST} {L : List ST} {i : Nat → Int} {T : TT} {l : List Int} {l2 : Int} (hO : okC c) (ht : t < 4) (e : T t = some (so, l)) (hl8 : l.length ≤ 8) :
    ∀ (lev : Nat) (A : Nat → Int → Int) (o4 o5 o6 o7 o8 : Option PV), lev ≤ l.length → ctyR (A 72) c → traR T A → laidR c sky 3 false s L i A → (∀ v, lev ≤ v → v ≤ l.length → onOK c sky l L (A 85) v) →
    ∃ f : Int → Int, (∀ v, v ≤ l.length → onOK c sky l L f v) ∧ ∀ d Q, WP (d + 4) 268 46 [some (vr 71), some (vi t), some (vi l2), some (vi ((lev : Int) - 1)), o4, o5, o6, o7, o8] [] (mdH h i A) Q = Q (some (vl (f 0))) (mdH h i (aup A 85 f)) := by
  intro lev
  induction lev with
  | zero =>
    intro A o4 o5 o6 o7 o8 hlev hR hT hL hon
    refine ⟨A 85, fun v hv => hon v (by omega) hv, fun d Q => ?_⟩
    rw [aup_id, show ((0 : Nat) : Int) - 1 = -1 from rfl]
    rw [e_268_46]
    simp (disch := omega) only [e_268_47, e_268_160, e_268_161, e_268_164, e_268_165, e_268_166, mdO_c, mdO_g0, mdO_k0, mdO_g1, mdO_k1, mdO_g2, mdO_k2, mdO_g3, mdO_k3, mdO_g4, mdO_k4, mdO_g5, mdO_k5, mdO_g6, mdO_k6, mdO_g7, mdO_k7, mdO_g8, mdO_k8, mdO_g9, mdO_k9, mdO_g10, mdO_k10, mdO_g11, mdO_k11, mdO_g12, mdO_k12, mdO_g13, mdO_k13, mdO_g14, mdO_k14, mdO_g15, mdO_k15, mdO_g16, mdO_k16, mdO_g17, mdO_k17, mdO_g18, mdO_k18, mdO_g19, mdO_k19, mdO_g20, mdO_k20, mdO_g21, mdO_k21, mdO_g22, mdO_k22, mdO_g23, mdO_k23, mdO_g24, mdO_k24, mdO_g25, mdO_k25, mdO_g26, mdO_k26, mdO_g27, mdO_k27, mdO_g28, mdO_k28, mdO_g29, mdO_k29, mdO_g30, mdO_k30, mdO_g31, mdO_k31, mdO_g32, mdO_k32, mdO_g33, mdO_k33, mdO_g34, mdO_k34, mdO_g35, mdO_k35, mdO_s0, mdO_s5, mdO_s6, mdO_s7, mdO_s8, mdO_s9, mdO_s10, mdO_s11, mdO_s12, mdO_s13, mdO_s14, mdO_s15, mdO_s19, mdO_s20, mdO_s25, mdO_s26, mdO_s31, mdO_s32, md_1, md_2, md_g71, md_g72, md_g73, md_g74, md_g75, md_g76, md_g77, md_g78, md_g79, md_g80, md_g81, md_g82, md_g83, md_g84, md_g85, md_g86, md_g87, md_g88, md_g89, md_out, md_u71, md_u72, md_u73, md_u74, md_u75, md_u76, md_u77, md_u78, md_u79, md_u80, md_u81, md_u82, md_u83, md_u84, md_u85, md_u86, md_u87, md_u88, md_u89, md_uo, iup_s, iup_n, aup_s, aup_n, ne_eq, not_false_eq_true, sh_0, sh_1, sh_2, sh_3, sh_4, sh_5, sh_8, sh_15, sh_16, sh_24, Int.reducePow, Int.cast_ofNat_Int, w_of, wl_of, ltT, ltF, leT, leF, eqT, eqF, okF_0, okF_s, gF_0, gF_s, consC_o, sF_0, sF_s, clsO_o, inA_i, ldA_i, stA_i, inJ_l, ldJ_l, stJ_l, inR_r, ldR_r, stR_r, tgR_r, lenA_i, lenA_l, lenA_r, lenA_ex, nl_i, nl_o, nl_l, nl_n, wd_n, wd_i, wd_l, wd_o, fit_i, fit_l, fit_o, K_v, K_n, true_and, and_true, Nat.reduceAdd, Nat.reduceLeDiff, Nat.reduceEqDiff, Nat.reduceMul, Nat.reduceLT, reduceIte, true_or, or_true, cmp_lt, cmp_gt, cmp_eq, wb_0, b_01, cmp_lt', cmp_gt', cmp_eq', b_0, b_1, wb_1, Int.reduceSub, Int.reduceToNat, List.getD_cons_succ, List.getD_cons_zero, Int.reduceLE, Int.reduceLT, Int.reduceEq, Int.reduceNeg, Int.reduceAdd, Int.reduceMul, and_self, em_b, ne_eq, not_false_eq_true, not_true_eq_false]
  | succ lev ih =>
    intro A o4 o5 o6 o7 o8 hlev hR hT hL hon
    obtain ⟨f1, l5, l6, l7, l8, k1, k2⟩ := r_seenK (h := h) (sky := sky) (s := s) (L := L) (i := i) (l2 := l2) hO ht e (show lev < l.length by omega) hl8 L.length 0 A o5 o6 o7 o8 (by omega) hR hT hL (fun v h1 h2 => hon v (by omega) h2) (fun j x hj => absurd hj (by omega))
    obtain ⟨f, g1, g2⟩ := ih (aup A 85 f1) (some (vi L.length)) l5 l6 l7 l8 (by omega) (ctyR_x hR (aup_n (by omega))) (traR_x hT (aup_n (by omega)) (aup_n (by omega)) (aup_n (by omega))) (laidR_x hL rfl (aup_n (by omega)) (aup_n (by omega)) (aup_n (by omega))) (by rw [aup_s]; exact k1)
    refine ⟨f, g1, fun d Q => ?_⟩
    have g2' := g2 d Q
    rw [aup_aup] at g2'
    have k2' := k2 d Q
    rw [nc0] at k2'
    have e1 : ((lev + 1 : Nat) : Int) - 1 = (lev : Int) := by omega
    have e2 : (lev : Int) + -1 = (lev : Int) - 1 := by omega
    rw [← g2', e1]
    rw [e_268_46]
    simp (disch := omega) only [e_268_47, e_268_50, e_268_51, mdO_c, mdO_g0, mdO_k0, mdO_g1, mdO_k1, mdO_g2, mdO_k2, mdO_g3, mdO_k3, mdO_g4, mdO_k4, mdO_g5, mdO_k5, mdO_g6, mdO_k6, mdO_g7, mdO_k7, mdO_g8, mdO_k8, mdO_g9, mdO_k9, mdO_g10, mdO_k10, mdO_g11, mdO_k11, mdO_g12, mdO_k12, mdO_g13, mdO_k13, mdO_g14, mdO_k14, mdO_g15, mdO_k15, mdO_g16, mdO_k16, mdO_g17, mdO_k17, mdO_g18, mdO_k18, mdO_g19, mdO_k19, mdO_g20, mdO_k20, mdO_g21, mdO_k21, mdO_g22, mdO_k22, mdO_g23, mdO_k23, mdO_g24, mdO_k24, mdO_g25, mdO_k25, mdO_g26, mdO_k26, mdO_g27, mdO_k27, mdO_g28, mdO_k28, mdO_g29, mdO_k29, mdO_g30, mdO_k30, mdO_g31, mdO_k31, mdO_g32, mdO_k32, mdO_g33, mdO_k33, mdO_g34, mdO_k34, mdO_g35, mdO_k35, mdO_s0, mdO_s5, mdO_s6, mdO_s7, mdO_s8, mdO_s9, mdO_s10, mdO_s11, mdO_s12, mdO_s13, mdO_s14, mdO_s15, mdO_s19, mdO_s20, mdO_s25, mdO_s26, mdO_s31, mdO_s32, md_1, md_2, md_g71, md_g72, md_g73, md_g74, md_g75, md_g76, md_g77, md_g78, md_g79, md_g80, md_g81, md_g82, md_g83, md_g84, md_g85, md_g86, md_g87, md_g88, md_g89, md_out, md_u71, md_u72, md_u73, md_u74, md_u75, md_u76, md_u77, md_u78, md_u79, md_u80, md_u81, md_u82, md_u83, md_u84, md_u85, md_u86, md_u87, md_u88, md_u89, md_uo, iup_s, iup_n, aup_s, aup_n, ne_eq, not_false_eq_true, sh_0, sh_1, sh_2, sh_3, sh_4, sh_5, sh_8, sh_15, sh_16, sh_24, Int.reducePow, Int.cast_ofNat_Int, w_of, wl_of, ltT, ltF, leT, leF, eqT, eqF, okF_0, okF_s, gF_0, gF_s, consC_o, sF_0, sF_s, clsO_o, inA_i, ldA_i, stA_i, inJ_l, ldJ_l, stJ_l, inR_r, ldR_r, stR_r, tgR_r, lenA_i, lenA_l, lenA_r, lenA_ex, nl_i, nl_o, nl_l, nl_n, wd_n, wd_i, wd_l, wd_o, fit_i, fit_l, fit_o, K_v, K_n, true_and, and_true, Nat.reduceAdd, Nat.reduceLeDiff, Nat.reduceEqDiff, Nat.reduceMul, Nat.reduceLT, reduceIte, true_or, or_true, cmp_lt, cmp_gt, cmp_eq, wb_0, b_01, cmp_lt', cmp_gt', cmp_eq', b_0, b_1, wb_1, Int.reduceSub, Int.reduceToNat, List.getD_cons_succ, List.getD_cons_zero, Int.reduceLE, Int.reduceLT, Int.reduceEq, Int.reduceNeg, Int.reduceAdd, Int.reduceMul, and_self, em_b, ne_eq, not_false_eq_true, not_true_eq_false]
    refine Eq.trans k2' ?_
    simp (disch := omega) only [e_268_154, e_268_157, e2, mdO_c, mdO_g0, mdO_k0, mdO_g1, mdO_k1, mdO_g2, mdO_k2, mdO_g3, mdO_k3, mdO_g4, mdO_k4, mdO_g5, mdO_k5, mdO_g6, mdO_k6, mdO_g7, mdO_k7, mdO_g8, mdO_k8, mdO_g9, mdO_k9, mdO_g10, mdO_k10, mdO_g11, mdO_k11, mdO_g12, mdO_k12, mdO_g13, mdO_k13, mdO_g14, mdO_k14, mdO_g15, mdO_k15, mdO_g16, mdO_k16, mdO_g17, mdO_k17, mdO_g18, mdO_k18, mdO_g19, mdO_k19, mdO_g20, mdO_k20, mdO_g21, mdO_k21, mdO_g22, mdO_k22, mdO_g23, mdO_k23, mdO_g24, mdO_k24, mdO_g25, mdO_k25, mdO_g26, mdO_k26, mdO_g27, mdO_k27, mdO_g28, mdO_k28, mdO_g29, mdO_k29, mdO_g30, mdO_k30, mdO_g31, mdO_k31, mdO_g32, mdO_k32, mdO_g33, mdO_k33, mdO_g34, mdO_k34, mdO_g35, mdO_k35, mdO_s0, mdO_s5, mdO_s6, mdO_s7, mdO_s8, mdO_s9, mdO_s10, mdO_s11, mdO_s12, mdO_s13, mdO_s14, mdO_s15, mdO_s19, mdO_s20, mdO_s25, mdO_s26, mdO_s31, mdO_s32, md_1, md_2, md_g71, md_g72, md_g73, md_g74, md_g75, md_g76, md_g77, md_g78, md_g79, md_g80, md_g81, md_g82, md_g83, md_g84, md_g85, md_g86, md_g87, md_g88, md_g89, md_out, md_u71, md_u72, md_u73, md_u74, md_u75, md_u76, md_u77, md_u78, md_u79, md_u80, md_u81, md_u82, md_u83, md_u84, md_u85, md_u86, md_u87, md_u88, md_u89, md_uo, iup_s, iup_n, aup_s, aup_n, ne_eq, not_false_eq_true, sh_0, sh_1, sh_2, sh_3, sh_4, sh_5, sh_8, sh_15, sh_16, sh_24, Int.reducePow, Int.cast_ofNat_Int, w_of, wl_of, ltT, ltF, leT, leF, eqT, eqF, okF_0, okF_s, gF_0, gF_s, consC_o, sF_0, sF_s, clsO_o, inA_i, ldA_i, stA_i, inJ_l, ldJ_l, stJ_l, inR_r, ldR_r, stR_r, tgR_r, lenA_i, lenA_l, lenA_r, lenA_ex, nl_i, nl_o, nl_l, nl_n, wd_n, wd_i, wd_l, wd_o, fit_i, fit_l, fit_o, K_v, K_n, true_and, and_true, Nat.reduceAdd, Nat.reduceLeDiff, Nat.reduceEqDiff, Nat.reduceMul, Nat.reduceLT, reduceIte, true_or, or_true, cmp_lt, cmp_gt, cmp_eq, wb_0, b_01, cmp_lt', cmp_gt', cmp_eq', b_0, b_1, wb_1, Int.reduceSub, Int.reduceToNat, List.getD_cons_succ, List.getD_cons_zero, Int.reduceLE, Int.reduceLT, Int.reduceEq, Int.reduceNeg, Int.reduceAdd, Int.reduceMul, and_self, em_b, ne_eq, not_false_eq_true, not_true_eq_false]
theorem r_laysSeen {h : PH} {c : KC} {s : ST} {sky hrs t so : Nat} {i : Nat → Int} {A : Nat → Int → Int} {T : TT} {l : List Int} (hq : refQ c s sky hrs A) (hT : traR T A) (ht : t < 4) (e : T t = some (so, l)) (hl8 : l.length ≤ 8) :
    ∃ (L : List ST) (j : Nat → Int) (B : Nat → Int → Int), laidR c sky 3 false s L j B ∧ (∀ v, v ≤ l.length → onOK c sky l L (B 85) v) ∧ frI [25] i j ∧ frA [76, 77, 79, 80, 82, 85] A B ∧ ∀ d Q, WP (d + 7) 268 0 [some (vr 71), some (vi t), none, none, none, none, none, none, none] [] (mdH h i A) Q = Q (some (vl (cmF c sky l l.length 0 s))) (mdH h j B) := by
  obtain ⟨hO, hR, hS, hs, hsky⟩ := hq
  have hK := hO.1
  obtain ⟨L, i1, B1, hL, F1, F2, g1⟩ := r_lays (h := h) (b := 3) (bt := false) (i := i) hO hsky (by omega) hR hS hs
  simp only [nc3, if_false, Bool.false_eq_true] at g1
  have hlen := stkR_len hK hL.1
  have h25 := hL.1.1
  have hT1 : traR T B1 := traR_x hT (F2 87 (by decide)) (F2 88 (by decide)) (F2 89 (by decide))
  obtain ⟨e1, e2, e3, e4, e5⟩ := traR_s hT1 ht e
  have fill : ∀ (r k : Nat) (A : Nat → Int → Int), k + r = L.length → (∀ j : Nat, j < k → A 85 ((24000 * l.length + j : Nat) : Int) = 1) → ∃ f : Int → Int, (∀ j : Nat, j < L.length → f ((24000 * l.length + j : Nat) : Int) = 1) ∧ ∀ d Q l4 l5 l6 l7 l8, WP d 268 15 [some (vr 71), some (vi t), some (vi l.length), some (vi k), l4, l5, l6, l7, l8] [] (mdH h i1 A) Q = WP d 268 42 [some (vr 71), some (vi t), some (vi l.length), some (vi L.length), l4, l5, l6, l7, l8] [] (mdH h i1 (aup A 85 f)) Q := by
    intro r
    induction r with
    | zero =>
      intro k A hk hA
      have hk' : k = L.length := by omega
      subst hk'
      refine ⟨A 85, hA, fun d Q l4 l5 l6 l7 l8 => ?_⟩
      rw [e_268_15]
      simp (disch := omega) only [e_268_16, e_268_17, e_268_20, h25, aup_id, mdO_c, mdO_g0, mdO_k0, mdO_g1, mdO_k1, mdO_g2, mdO_k2, mdO_g3, mdO_k3, mdO_g4, mdO_k4, mdO_g5, mdO_k5, mdO_g6, mdO_k6, mdO_g7, mdO_k7, mdO_g8, mdO_k8, mdO_g9, mdO_k9, mdO_g10, mdO_k10, mdO_g11, mdO_k11, mdO_g12, mdO_k12, mdO_g13, mdO_k13, mdO_g14, mdO_k14, mdO_g15, mdO_k15, mdO_g16, mdO_k16, mdO_g17, mdO_k17, mdO_g18, mdO_k18, mdO_g19, mdO_k19, mdO_g20, mdO_k20, mdO_g21, mdO_k21, mdO_g22, mdO_k22, mdO_g23, mdO_k23, mdO_g24, mdO_k24, mdO_g25, mdO_k25, mdO_g26, mdO_k26, mdO_g27, mdO_k27, mdO_g28, mdO_k28, mdO_g29, mdO_k29, mdO_g30, mdO_k30, mdO_g31, mdO_k31, mdO_g32, mdO_k32, mdO_g33, mdO_k33, mdO_g34, mdO_k34, mdO_g35, mdO_k35, mdO_s0, mdO_s5, mdO_s6, mdO_s7, mdO_s8, mdO_s9, mdO_s10, mdO_s11, mdO_s12, mdO_s13, mdO_s14, mdO_s15, mdO_s19, mdO_s20, mdO_s25, mdO_s26, mdO_s31, mdO_s32, md_1, md_2, md_g71, md_g72, md_g73, md_g74, md_g75, md_g76, md_g77, md_g78, md_g79, md_g80, md_g81, md_g82, md_g83, md_g84, md_g85, md_g86, md_g87, md_g88, md_g89, md_out, md_u71, md_u72, md_u73, md_u74, md_u75, md_u76, md_u77, md_u78, md_u79, md_u80, md_u81, md_u82, md_u83, md_u84, md_u85, md_u86, md_u87, md_u88, md_u89, md_uo, iup_s, iup_n, aup_s, aup_n, ne_eq, not_false_eq_true, sh_0, sh_1, sh_2, sh_3, sh_4, sh_5, sh_8, sh_15, sh_16, sh_24, Int.reducePow, Int.cast_ofNat_Int, w_of, wl_of, ltT, ltF, leT, leF, eqT, eqF, okF_0, okF_s, gF_0, gF_s, consC_o, sF_0, sF_s, clsO_o, inA_i, ldA_i, stA_i, inJ_l, ldJ_l, stJ_l, inR_r, ldR_r, stR_r, tgR_r, lenA_i, lenA_l, lenA_r, lenA_ex, nl_i, nl_o, nl_l, nl_n, wd_n, wd_i, wd_l, wd_o, fit_i, fit_l, fit_o, K_v, K_n, true_and, and_true, Nat.reduceAdd, Nat.reduceLeDiff, Nat.reduceEqDiff, Nat.reduceMul, Nat.reduceLT, reduceIte, true_or, or_true, cmp_lt, cmp_gt, cmp_eq, wb_0, b_01, cmp_lt', cmp_gt', cmp_eq', b_0, b_1, wb_1, Int.reduceSub, Int.reduceToNat, List.getD_cons_succ, List.getD_cons_zero, Int.reduceLE, Int.reduceLT, Int.reduceEq, Int.reduceNeg, Int.reduceAdd, Int.reduceMul, and_self, em_b, ne_eq, not_false_eq_true, not_true_eq_false]
    | succ r ih =>
      intro k A hk hA
      have ee : (24000 : Int) * (l.length : Int) + (k : Int) = ((24000 * l.length + k : Nat) : Int) := by omega
      obtain ⟨f, k1, k2⟩ := ih (k + 1) (aup A 85 (fset (A 85) ((24000 * l.length + k : Nat) : Int) 1)) (by omega) (fun j hj => by
        rw [aup_s]
        by_cases w : j = k
        · rw [w, fs_same]
        · rw [fs_ne (by omega)]; exact hA j (by omega))
      refine ⟨f, k1, fun d Q l4 l5 l6 l7 l8 => ?_⟩
      have k2' := k2 d Q l4 l5 l6 l7 l8
      rw [aup_aup] at k2'
      rw [← k2']
      rw [e_268_15]
      simp (disch := omega) only [e_268_16, e_268_17, e_268_20, e_268_23, e_268_24, e_268_27, e_268_30, e_268_31, e_268_32, e_268_33, e_268_34, e_268_35, e_268_36, e_268_39, h25, ee, mdO_c, mdO_g0, mdO_k0, mdO_g1, mdO_k1, mdO_g2, mdO_k2, mdO_g3, mdO_k3, mdO_g4, mdO_k4, mdO_g5, mdO_k5, mdO_g6, mdO_k6, mdO_g7, mdO_k7, mdO_g8, mdO_k8, mdO_g9, mdO_k9, mdO_g10, mdO_k10, mdO_g11, mdO_k11, mdO_g12, mdO_k12, mdO_g13, mdO_k13, mdO_g14, mdO_k14, mdO_g15, mdO_k15, mdO_g16, mdO_k16, mdO_g17, mdO_k17, mdO_g18, mdO_k18, mdO_g19, mdO_k19, mdO_g20, mdO_k20, mdO_g21, mdO_k21, mdO_g22, mdO_k22, mdO_g23, mdO_k23, mdO_g24, mdO_k24, mdO_g25, mdO_k25, mdO_g26, mdO_k26, mdO_g27, mdO_k27, mdO_g28, mdO_k28, mdO_g29, mdO_k29, mdO_g30, mdO_k30, mdO_g31, mdO_k31, mdO_g32, mdO_k32, mdO_g33, mdO_k33, mdO_g34, mdO_k34, mdO_g35, mdO_k35, mdO_s0, mdO_s5, mdO_s6, mdO_s7, mdO_s8, mdO_s9, mdO_s10, mdO_s11, mdO_s12, mdO_s13, mdO_s14, mdO_s15, mdO_s19, mdO_s20, mdO_s25, mdO_s26, mdO_s31, mdO_s32, md_1, md_2, md_g71, md_g72, md_g73, md_g74, md_g75, md_g76, md_g77, md_g78, md_g79, md_g80, md_g81, md_g82, md_g83, md_g84, md_g85, md_g86, md_g87, md_g88, md_g89, md_out, md_u71, md_u72, md_u73, md_u74, md_u75, md_u76, md_u77, md_u78, md_u79, md_u80, md_u81, md_u82, md_u83, md_u84, md_u85, md_u86, md_u87, md_u88, md_u89, md_uo, iup_s, iup_n, aup_s, aup_n, ne_eq, not_false_eq_true, sh_0, sh_1, sh_2, sh_3, sh_4, sh_5, sh_8, sh_15, sh_16, sh_24, Int.reducePow, Int.cast_ofNat_Int, w_of, wl_of, ltT, ltF, leT, leF, eqT, eqF, okF_0, okF_s, gF_0, gF_s, consC_o, sF_0, sF_s, clsO_o, inA_i, ldA_i, stA_i, inJ_l, ldJ_l, stJ_l, inR_r, ldR_r, stR_r, tgR_r, lenA_i, lenA_l, lenA_r, lenA_ex, nl_i, nl_o, nl_l, nl_n, wd_n, wd_i, wd_l, wd_o, fit_i, fit_l, fit_o, K_v, K_n, true_and, and_true, Nat.reduceAdd, Nat.reduceLeDiff, Nat.reduceEqDiff, Nat.reduceMul, Nat.reduceLT, reduceIte, true_or, or_true, cmp_lt, cmp_gt, cmp_eq, wb_0, b_01, cmp_lt', cmp_gt', cmp_eq', b_0, b_1, wb_1, Int.reduceSub, Int.reduceToNat, List.getD_cons_succ, List.getD_cons_zero, Int.reduceLE, Int.reduceLT, Int.reduceEq, Int.reduceNeg, Int.reduceAdd, Int.reduceMul, and_self, em_b, ne_eq, not_false_eq_true, not_true_eq_false]
      try rfl
  obtain ⟨f, k1, k2⟩ := fill L.length 0 B1 (by omega) (fun j hj => absurd hj (by omega))
  obtain ⟨f2, m1, m2⟩ := r_seenL (h := h) (sky := sky) (s := s) (L := L) (i := i1) (l2 := (l.length : Int)) hO ht e hl8 l.length (aup B1 85 f) none none none none none (Nat.le_refl _) (ctyR_x hR (by rw [aup_n (by omega), F2 72 (by decide)])) (traR_x hT1 (aup_n (by omega)) (aup_n (by omega)) (aup_n (by omega))) (laidR_x hL rfl (aup_n (by omega)) (aup_n (by omega)) (aup_n (by omega))) (fun v h1 h2 => by
    have : v = l.length := by omega
    subst this
    rw [aup_s]
    intro j x hx
    rw [k1 j (List.getElem?_eq_some_iff.mp hx).1, Nat.sub_self]; rfl)
  refine ⟨L, i1, aup B1 85 f2, laidR_x hL rfl (aup_n (by omega)) (aup_n (by omega)) (aup_n (by omega)), by rw [aup_s]; exact m1, F1, frA_t (frA_w F2 (by decide)) (frA_u (by decide)), fun d Q => ?_⟩
  have ef : f2 0 = cmF c sky l l.length 0 s := m1 0 (by omega) 0 s hL.2.1
  have m2' := m2 (d + 3) Q
  rw [aup_aup, ef] at m2'
  rw [← m2']
  have k2' := k2 (d + 7) Q none none none none none
  rw [nc0] at k2'
  simp (disch := omega) only [e_268_0, e_268_1, e_268_2, e_268_3, e_268_6, e_268_7, e_268_10, e_268_11, e_268_12, e_268_13, e_268_14, g1, e3, mdO_c, mdO_g0, mdO_k0, mdO_g1, mdO_k1, mdO_g2, mdO_k2, mdO_g3, mdO_k3, mdO_g4, mdO_k4, mdO_g5, mdO_k5, mdO_g6, mdO_k6, mdO_g7, mdO_k7, mdO_g8, mdO_k8, mdO_g9, mdO_k9, mdO_g10, mdO_k10, mdO_g11, mdO_k11, mdO_g12, mdO_k12, mdO_g13, mdO_k13, mdO_g14, mdO_k14, mdO_g15, mdO_k15, mdO_g16, mdO_k16, mdO_g17, mdO_k17, mdO_g18, mdO_k18, mdO_g19, mdO_k19, mdO_g20, mdO_k20, mdO_g21, mdO_k21, mdO_g22, mdO_k22, mdO_g23, mdO_k23, mdO_g24, mdO_k24, mdO_g25, mdO_k25, mdO_g26, mdO_k26, mdO_g27, mdO_k27, mdO_g28, mdO_k28, mdO_g29, mdO_k29, mdO_g30, mdO_k30, mdO_g31, mdO_k31, mdO_g32, mdO_k32, mdO_g33, mdO_k33, mdO_g34, mdO_k34, mdO_g35, mdO_k35, mdO_s0, mdO_s5, mdO_s6, mdO_s7, mdO_s8, mdO_s9, mdO_s10, mdO_s11, mdO_s12, mdO_s13, mdO_s14, mdO_s15, mdO_s19, mdO_s20, mdO_s25, mdO_s26, mdO_s31, mdO_s32, md_1, md_2, md_g71, md_g72, md_g73, md_g74, md_g75, md_g76, md_g77, md_g78, md_g79, md_g80, md_g81, md_g82, md_g83, md_g84, md_g85, md_g86, md_g87, md_g88, md_g89, md_out, md_u71, md_u72, md_u73, md_u74, md_u75, md_u76, md_u77, md_u78, md_u79, md_u80, md_u81, md_u82, md_u83, md_u84, md_u85, md_u86, md_u87, md_u88, md_u89, md_uo, iup_s, iup_n, aup_s, aup_n, ne_eq, not_false_eq_true, sh_0, sh_1, sh_2, sh_3, sh_4, sh_5, sh_8, sh_15, sh_16, sh_24, Int.reducePow, Int.cast_ofNat_Int, w_of, wl_of, ltT, ltF, leT, leF, eqT, eqF, okF_0, okF_s, gF_0, gF_s, consC_o, sF_0, sF_s, clsO_o, inA_i, ldA_i, stA_i, inJ_l, ldJ_l, stJ_l, inR_r, ldR_r, stR_r, tgR_r, lenA_i, lenA_l, lenA_r, lenA_ex, nl_i, nl_o, nl_l, nl_n, wd_n, wd_i, wd_l, wd_o, fit_i, fit_l, fit_o, K_v, K_n, true_and, and_true, Nat.reduceAdd, Nat.reduceLeDiff, Nat.reduceEqDiff, Nat.reduceMul, Nat.reduceLT, reduceIte, true_or, or_true, cmp_lt, cmp_gt, cmp_eq, wb_0, b_01, cmp_lt', cmp_gt', cmp_eq', b_0, b_1, wb_1, Int.reduceSub, Int.reduceToNat, List.getD_cons_succ, List.getD_cons_zero, Int.reduceLE, Int.reduceLT, Int.reduceEq, Int.reduceNeg, Int.reduceAdd, Int.reduceMul, and_self, em_b, ne_eq, not_false_eq_true, not_true_eq_false]
  refine Eq.trans k2' ?_
  simp (disch := omega) only [e_268_42, e_268_43, e_268_44, e_268_45, mdO_c, mdO_g0, mdO_k0, mdO_g1, mdO_k1, mdO_g2, mdO_k2, mdO_g3, mdO_k3, mdO_g4, mdO_k4, mdO_g5, mdO_k5, mdO_g6, mdO_k6, mdO_g7, mdO_k7, mdO_g8, mdO_k8, mdO_g9, mdO_k9, mdO_g10, mdO_k10, mdO_g11, mdO_k11, mdO_g12, mdO_k12, mdO_g13, mdO_k13, mdO_g14, mdO_k14, mdO_g15, mdO_k15, mdO_g16, mdO_k16, mdO_g17, mdO_k17, mdO_g18, mdO_k18, mdO_g19, mdO_k19, mdO_g20, mdO_k20, mdO_g21, mdO_k21, mdO_g22, mdO_k22, mdO_g23, mdO_k23, mdO_g24, mdO_k24, mdO_g25, mdO_k25, mdO_g26, mdO_k26, mdO_g27, mdO_k27, mdO_g28, mdO_k28, mdO_g29, mdO_k29, mdO_g30, mdO_k30, mdO_g31, mdO_k31, mdO_g32, mdO_k32, mdO_g33, mdO_k33, mdO_g34, mdO_k34, mdO_g35, mdO_k35, mdO_s0, mdO_s5, mdO_s6, mdO_s7, mdO_s8, mdO_s9, mdO_s10, mdO_s11, mdO_s12, mdO_s13, mdO_s14, mdO_s15, mdO_s19, mdO_s20, mdO_s25, mdO_s26, mdO_s31, mdO_s32, md_1, md_2, md_g71, md_g72, md_g73, md_g74, md_g75, md_g76, md_g77, md_g78, md_g79, md_g80, md_g81, md_g82, md_g83, md_g84, md_g85, md_g86, md_g87, md_g88, md_g89, md_out, md_u71, md_u72, md_u73, md_u74, md_u75, md_u76, md_u77, md_u78, md_u79, md_u80, md_u81, md_u82, md_u83, md_u84, md_u85, md_u86, md_u87, md_u88, md_u89, md_uo, iup_s, iup_n, aup_s, aup_n, ne_eq, not_false_eq_true, sh_0, sh_1, sh_2, sh_3, sh_4, sh_5, sh_8, sh_15, sh_16, sh_24, Int.reducePow, Int.cast_ofNat_Int, w_of, wl_of, ltT, ltF, leT, leF, eqT, eqF, okF_0, okF_s, gF_0, gF_s, consC_o, sF_0, sF_s, clsO_o, inA_i, ldA_i, stA_i, inJ_l, ldJ_l, stJ_l, inR_r, ldR_r, stR_r, tgR_r, lenA_i, lenA_l, lenA_r, lenA_ex, nl_i, nl_o, nl_l, nl_n, wd_n, wd_i, wd_l, wd_o, fit_i, fit_l, fit_o, K_v, K_n, true_and, and_true, Nat.reduceAdd, Nat.reduceLeDiff, Nat.reduceEqDiff, Nat.reduceMul, Nat.reduceLT, reduceIte, true_or, or_true, cmp_lt, cmp_gt, cmp_eq, wb_0, b_01, cmp_lt', cmp_gt', cmp_eq', b_0, b_1, wb_1, Int.reduceSub, Int.reduceToNat, List.getD_cons_succ, List.getD_cons_zero, Int.reduceLE, Int.reduceLT, Int.reduceEq, Int.reduceNeg, Int.reduceAdd, Int.reduceMul, and_self, em_b, ne_eq, not_false_eq_true, not_true_eq_false]
theorem seenC_0 {c : KC} {T : TT} {t : Int} (h : seenC c T t = 0) : ∃ (tn so : Nat) (l : List Int), t = tn ∧ tn < 4 ∧ T tn = some (so, l) ∧ 1 ≤ l.length ∧ l.length ≤ 8 ∧ ∀ x, x ∈ l → sawOK c x = true := by
  unfold seenC at h
  by_cases q : 0 ≤ t ∧ t ≤ 3
  · rw [if_pos q] at h
    cases e : T t.toNat with
    | none => rw [e] at h; dsimp only at h; exact absurd h (by decide)
    | some x =>
      obtain ⟨so, l⟩ := x
      rw [e] at h
      dsimp only at h
      by_cases q2 : 1 ≤ l.length ∧ l.length ≤ 8
      · rw [if_pos q2] at h
        by_cases q3 : l.all (sawOK c) = true
        · exact ⟨t.toNat, so, l, by omega, by omega, e, q2.1, q2.2, List.all_eq_true.mp q3⟩
        · rw [if_neg q3] at h; exact absurd h (by decide)
      · rw [if_neg q2] at h; exact absurd h (by decide)
  · rw [if_neg q] at h; exact absurd h (by decide)
theorem seenC_b {c : KC} {T : TT} {t : Int} : -6 ≤ seenC c T t ∧ seenC c T t ≤ 0 := by
  unfold seenC
  split
  · cases T t.toNat with
    | none => dsimp only; exact ⟨by decide, by decide⟩
    | some x =>
      obtain ⟨so, l⟩ := x
      dsimp only
      split
      · split <;> exact ⟨by decide, by decide⟩
      · exact ⟨by decide, by decide⟩
  · exact ⟨by decide, by decide⟩
def ansE (c : KC) (sky : Nat) (s : ST) (T : TT) (t v : Int) : Prop := (seenC c T t ≠ 0 ∧ v = seenC c T t) ∨ (seenC c T t = 0 ∧ ∀ so l, T t.toNat = some (so, l) → v = cmF c sky l l.length 0 s)
theorem ansE_uniq {c : KC} {sky : Nat} {s : ST} {T : TT} {t u v : Int} (h : ansE c sky s T t u) (g : ansE c sky s T t v) : u = v := by
  rcases h with ⟨h1, h2⟩ | ⟨h1, h2⟩ <;> rcases g with ⟨g1, g2⟩ | ⟨g1, g2⟩
  · rw [h2, g2]
  · exact absurd g1 h1
  · exact absurd h1 g1
  · obtain ⟨tn, so, l, rfl, e1, e2, -⟩ := seenC_0 h1
    rw [h2 so l e2, g2 so l e2]
theorem R_seen {h : PH} {c : KC} {s : ST} {sky hrs : Nat} {i : Nat → Int} {A : Nat → Int → Int} {T : TT} {t : Int} (hq : refQ c s sky hrs A) (hT : traR T A) (h1 : -2147483648 ≤ t) (h2 : t < 2147483648) :
    ∃ v j B, ansE c sky s T t v ∧ qR i A j B ∧ ∀ d Q, WP (d + 9) 269 0 [some (vr 71), some (vi t), none] [] (mdH h i A) Q = Q (some (vl v)) (mdH h j B) := by
  have hq' := hq
  obtain ⟨hO, hR, hS, hs, hsky⟩ := hq
  have ns := fun (d : Nat) (i : Nat → Int) (Q : PQ) => r_noSeen (d := d) (h := h) (i := i) (Q := Q) hO.1 hR hT h1 h2
  have hb := seenC_b (c := c) (T := T) (t := t)
  by_cases q : seenC c T t = 0
  · obtain ⟨tn, so, l, rfl, e1, e2, e3, e4, -⟩ := seenC_0 q
    obtain ⟨L, j, B, hL, hon, f1, f2, g⟩ := r_laysSeen (h := h) (i := iup i 0 0) hq' hT e1 e2 e4
    refine ⟨cmF c sky l l.length 0 s, j, B, Or.inr ⟨q, fun so' l' e' => by rw [Int.toNat_natCast, e2] at e'; cases e'; rfl⟩, qR_of (frI_t (frI_u (ks := [0, 25]) (by decide)) (frI_w f1 (by decide))) f2 (by decide) (by decide), fun d Q => ?_⟩
    rw [q] at ns
    simp (disch := omega) only [e_269_0, e_269_1, e_269_2, e_269_5, e_269_6, e_269_7, e_269_10, e_269_11, e_269_12, e_269_15, e_269_16, e_269_17, e_269_20, e_269_21, e_269_22, e_269_25, ns, g, mdO_c, mdO_g0, mdO_k0, mdO_g1, mdO_k1, mdO_g2, mdO_k2, mdO_g3, mdO_k3, mdO_g4, mdO_k4, mdO_g5, mdO_k5, mdO_g6, mdO_k6, mdO_g7, mdO_k7, mdO_g8, mdO_k8, mdO_g9, mdO_k9, mdO_g10, mdO_k10, mdO_g11, mdO_k11, mdO_g12, mdO_k12, mdO_g13, mdO_k13, mdO_g14, mdO_k14, mdO_g15, mdO_k15, mdO_g16, mdO_k16, mdO_g17, mdO_k17, mdO_g18, mdO_k18, mdO_g19, mdO_k19, mdO_g20, mdO_k20, mdO_g21, mdO_k21, mdO_g22, mdO_k22, mdO_g23, mdO_k23, mdO_g24, mdO_k24, mdO_g25, mdO_k25, mdO_g26, mdO_k26, mdO_g27, mdO_k27, mdO_g28, mdO_k28, mdO_g29, mdO_k29, mdO_g30, mdO_k30, mdO_g31, mdO_k31, mdO_g32, mdO_k32, mdO_g33, mdO_k33, mdO_g34, mdO_k34, mdO_g35, mdO_k35, mdO_s0, mdO_s5, mdO_s6, mdO_s7, mdO_s8, mdO_s9, mdO_s10, mdO_s11, mdO_s12, mdO_s13, mdO_s14, mdO_s15, mdO_s19, mdO_s20, mdO_s25, mdO_s26, mdO_s31, mdO_s32, md_1, md_2, md_g71, md_g72, md_g73, md_g74, md_g75, md_g76, md_g77, md_g78, md_g79, md_g80, md_g81, md_g82, md_g83, md_g84, md_g85, md_g86, md_g87, md_g88, md_g89, md_out, md_u71, md_u72, md_u73, md_u74, md_u75, md_u76, md_u77, md_u78, md_u79, md_u80, md_u81, md_u82, md_u83, md_u84, md_u85, md_u86, md_u87, md_u88, md_u89, md_uo, iup_s, iup_n, aup_s, aup_n, ne_eq, not_false_eq_true, sh_0, sh_1, sh_2, sh_3, sh_4, sh_5, sh_8, sh_15, sh_16, sh_24, Int.reducePow, Int.cast_ofNat_Int, w_of, wl_of, ltT, ltF, leT, leF, eqT, eqF, okF_0, okF_s, gF_0, gF_s, consC_o, sF_0, sF_s, clsO_o, inA_i, ldA_i, stA_i, inJ_l, ldJ_l, stJ_l, inR_r, ldR_r, stR_r, tgR_r, lenA_i, lenA_l, lenA_r, lenA_ex, nl_i, nl_o, nl_l, nl_n, wd_n, wd_i, wd_l, wd_o, fit_i, fit_l, fit_o, K_v, K_n, true_and, and_true, Nat.reduceAdd, Nat.reduceLeDiff, Nat.reduceEqDiff, Nat.reduceMul, Nat.reduceLT, reduceIte, true_or, or_true, cmp_lt, cmp_gt, cmp_eq, wb_0, b_01, cmp_lt', cmp_gt', cmp_eq', b_0, b_1, wb_1, Int.reduceSub, Int.reduceToNat, List.getD_cons_succ, List.getD_cons_zero, Int.reduceLE, Int.reduceLT, Int.reduceEq, Int.reduceNeg, Int.reduceAdd, Int.reduceMul, and_self, em_b, ne_eq, not_false_eq_true, not_true_eq_false]
  · refine ⟨seenC c T t, iup i 0 0, A, Or.inl ⟨q, rfl⟩, qR_of (frI_u (ks := [0]) (by decide)) (frA_r (ks := [])) (by decide) (by decide), fun d Q => ?_⟩
    simp (disch := omega) only [e_269_0, e_269_1, e_269_2, e_269_5, e_269_6, e_269_7, e_269_10, e_269_11, e_269_12, e_269_15, e_269_16, e_269_17, e_269_20, e_269_21, e_269_22, e_269_25, ns, mdO_c, mdO_g0, mdO_k0, mdO_g1, mdO_k1, mdO_g2, mdO_k2, mdO_g3, mdO_k3, mdO_g4, mdO_k4, mdO_g5, mdO_k5, mdO_g6, mdO_k6, mdO_g7, mdO_k7, mdO_g8, mdO_k8, mdO_g9, mdO_k9, mdO_g10, mdO_k10, mdO_g11, mdO_k11, mdO_g12, mdO_k12, mdO_g13, mdO_k13, mdO_g14, mdO_k14, mdO_g15, mdO_k15, mdO_g16, mdO_k16, mdO_g17, mdO_k17, mdO_g18, mdO_k18, mdO_g19, mdO_k19, mdO_g20, mdO_k20, mdO_g21, mdO_k21, mdO_g22, mdO_k22, mdO_g23, mdO_k23, mdO_g24, mdO_k24, mdO_g25, mdO_k25, mdO_g26, mdO_k26, mdO_g27, mdO_k27, mdO_g28, mdO_k28, mdO_g29, mdO_k29, mdO_g30, mdO_k30, mdO_g31, mdO_k31, mdO_g32, mdO_k32, mdO_g33, mdO_k33, mdO_g34, mdO_k34, mdO_g35, mdO_k35, mdO_s0, mdO_s5, mdO_s6, mdO_s7, mdO_s8, mdO_s9, mdO_s10, mdO_s11, mdO_s12, mdO_s13, mdO_s14, mdO_s15, mdO_s19, mdO_s20, mdO_s25, mdO_s26, mdO_s31, mdO_s32, md_1, md_2, md_g71, md_g72, md_g73, md_g74, md_g75, md_g76, md_g77, md_g78, md_g79, md_g80, md_g81, md_g82, md_g83, md_g84, md_g85, md_g86, md_g87, md_g88, md_g89, md_out, md_u71, md_u72, md_u73, md_u74, md_u75, md_u76, md_u77, md_u78, md_u79, md_u80, md_u81, md_u82, md_u83, md_u84, md_u85, md_u86, md_u87, md_u88, md_u89, md_uo, iup_s, iup_n, aup_s, aup_n, ne_eq, not_false_eq_true, sh_0, sh_1, sh_2, sh_3, sh_4, sh_5, sh_8, sh_15, sh_16, sh_24, Int.reducePow, Int.cast_ofNat_Int, w_of, wl_of, ltT, ltF, leT, leF, eqT, eqF, okF_0, okF_s, gF_0, gF_s, consC_o, sF_0, sF_s, clsO_o, inA_i, ldA_i, stA_i, inJ_l, ldJ_l, stJ_l, inR_r, ldR_r, stR_r, tgR_r, lenA_i, lenA_l, lenA_r, lenA_ex, nl_i, nl_o, nl_l, nl_n, wd_n, wd_i, wd_l, wd_o, fit_i, fit_l, fit_o, K_v, K_n, true_and, and_true, Nat.reduceAdd, Nat.reduceLeDiff, Nat.reduceEqDiff, Nat.reduceMul, Nat.reduceLT, reduceIte, true_or, or_true, cmp_lt, cmp_gt, cmp_eq, wb_0, b_01, cmp_lt', cmp_gt', cmp_eq', b_0, b_1, wb_1, Int.reduceSub, Int.reduceToNat, List.getD_cons_succ, List.getD_cons_zero, Int.reduceLE, Int.reduceLT, Int.reduceEq, Int.reduceNeg, Int.reduceAdd, Int.reduceMul, and_self, em_b, ne_eq, not_false_eq_true, not_true_eq_false]
/-- the first row that goes on to its end -/
def okSB (c : KC) (sky : Nat) (l : List Int) (r lev : Nat) (x : ST) (m : Nat) : Prop := canM c sky x m = true ∧ fitB c l lev (toM c sky x m) = true ∧ 0 < cmF c sky l r (lev + 1) (toM c sky x m)
def fstS (c : KC) (sky : Nat) (l : List Int) (r lev : Nat) (x : ST) (m : Nat) : Prop := m < 19 ∧ okSB c sky l r lev x m ∧ ∀ m', m' < m → ¬ okSB c sky l r lev x m'
def sbA (c : KC) (sky : Nat) (l : List Int) : Nat → Nat → ST → Nat → Int → Prop
  | 0, _, _, _, v => v = -1
  | r + 1, lev, x, 0, v => ∃ m, fstS c sky l r lev x m ∧ v = deedM m
  | r + 1, lev, x, i + 1, v => ∃ m, fstS c sky l r lev x m ∧ sbA c sky l r (lev + 1) (toM c sky x m) i v
theorem stW_pos {c : KC} {sky : Nat} {W : ST → Int} {x : ST} (hW : ∀ y, 0 ≤ W y) : ∀ {M : Nat}, 0 < stW c sky 3 W x M ↔ ∃ m, m < M ∧ alwM c sky 3 x m = true ∧ 0 < W (toM c sky x m)
  | 0 => ⟨fun h => absurd h (by show ¬ (0 : Int) < 0; omega), fun ⟨m, h, _⟩ => absurd h (by omega)⟩
  | M + 1 => by
    have e : stW c sky 3 W x (M + 1) = stW c sky 3 W x M + (if alwM c sky 3 x M then W (toM c sky x M) else 0) := rfl
    have h0 := stW_nn (c := c) (sky := sky) (b := 3) (x := x) hW (m := M)
    have h1 := hW (toM c sky x M)
    have ih := stW_pos (c := c) (sky := sky) (x := x) hW (M := M)
    rw [e]
    constructor
    · intro h
      by_cases q : 0 < stW c sky 3 W x M
      · obtain ⟨m, m1, m2⟩ := ih.mp q
        exact ⟨m, by omega, m2⟩
      · by_cases q2 : alwM c sky 3 x M = true
        · rw [if_pos q2] at h; exact ⟨M, by omega, q2, by omega⟩
        · rw [if_neg q2] at h; omega
    · rintro ⟨m, m1, m2, m3⟩
      by_cases q : m = M
      · subst q; rw [if_pos m2]; omega
      · have := ih.mpr ⟨m, by omega, m2, m3⟩
        split <;> omega
theorem cmF_pos {c : KC} {sky : Nat} {l : List Int} {r lev : Nat} {x : ST} (hK : okK c) : 0 < cmF c sky l (r + 1) lev x ↔ ∃ m, m < 19 ∧ okSB c sky l r lev x m := by
  rw [cmF_s, stW_pos (fun y => by show (0 : Int) ≤ (if fitB c l lev y then cmF c sky l r (lev + 1) y else 0); have := (cmF_b (c := c) (sky := sky) (l := l) (r := r) (lev := lev + 1) y).1; split <;> omega)]
  constructor
  · rintro ⟨m, h1, h2, h3⟩
    by_cases q : fitB c l lev (toM c sky x m) = true
    · rw [if_pos q] at h3; exact ⟨m, h1, by rw [← alwM_3 hK]; exact h2, q, h3⟩
    · rw [if_neg q] at h3; omega
  · rintro ⟨m, h1, h2, h3, h4⟩
    refine ⟨m, h1, by rw [alwM_3 hK]; exact h2, ?_⟩
    rw [if_pos h3]; exact h4
theorem fstS_ex {c : KC} {sky : Nat} {l : List Int} {r lev : Nat} {x : ST} (hK : okK c) (h : 0 < cmF c sky l (r + 1) lev x) : ∃ m, fstS c sky l r lev x m := by
  obtain ⟨n, h1, h2⟩ := (cmF_pos hK).mp h
  obtain ⟨m, g1, g2, g3⟩ := fst_ex (P := okSB c sky l r lev x) h2
  exact ⟨m, by omega, g2, g3⟩
theorem fstS_uniq {c : KC} {sky : Nat} {l : List Int} {r lev : Nat} {x : ST} {m k : Nat} (h : fstS c sky l r lev x m) (g : fstS c sky l r lev x k) : m = k := by
  by_cases q : m < k
  · exact absurd h.2.1 (g.2.2 m q)
  · by_cases q' : k < m
    · exact absurd g.2.1 (h.2.2 k q')
    · omega
theorem sbA_uniq {c : KC} {sky : Nat} {l : List Int} {u v : Int} : ∀ {r lev : Nat} {x : ST} {i : Nat}, sbA c sky l r lev x i u → sbA c sky l r lev x i v → u = v
  | 0, _, _, _, h, g => by rw [show u = -1 from h, show v = -1 from g]
  | r + 1, lev, x, 0, ⟨m, h1, h2⟩, ⟨k, g1, g2⟩ => by rw [h2, g2, fstS_uniq h1 g1]
  | r + 1, lev, x, i + 1, ⟨m, h1, h2⟩, ⟨k, g1, g2⟩ => by
    rw [fstS_uniq h1 g1] at h2
    exact sbA_uniq h2 g2
