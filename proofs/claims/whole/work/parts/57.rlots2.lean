/-! THE REFERENCE: goesLots, chance, mean -/
def mvs (c : KC) (l : List Int) : List Nat := l.map (fun x => (moveD c x).getD 0)
theorem lot_down {c : KC} {sky : Nat} {F : ST → Int} {s : ST} (hd : downB c s = true) : ∀ {ms : List Nat}, lotF c sky F ms s = F s * 10 ^ ms.length
  | [] => by show F s = F s * 1; omega
  | m :: r => by
    show (if downB c s then F s * 10 ^ (r.length + 1) else _) = _
    rw [if_pos hd]; rfl
theorem r_lotP {h : PH} {c : KC} {t k n : Nat} {y : ST} {lk : Int} {U V : ST → Int} {l2 l7 sky : Int} (hO : okC c) (hy : okS c y) (hk : k < 100) (T : TT)
    (ih : ∀ (x : ST) (iI : Nat → Int) (A : Nat → Int → Int), okS c x → ctyR (A 72) c → traR T A → A 72 29 = sky → ∃ j B, sameR A B ∧ frI [31, 32] iI j ∧ j 31 = iI 31 + lk * U x ∧ j 32 = iI 32 + lk * V x ∧ ∀ d Q, WP (d + n) 282 0 [some (vr 71), some (vi t), some (vi (encR x)), some (vi ((k : Int) + 1)), some (vl lk), none, none, none, none, none] [] (mdH h iI A) Q = Q none (mdH h j B)) :
    ∀ (q p : Nat) (iI : Nat → Int) (A : Nat → Int → Int), p + q = kN c → ctyR (A 72) c → traR T A → A 72 29 = sky → ∃ j B, sameR A B ∧ frI [31, 32] iI j ∧ j 31 = iI 31 + lk * (sumP (fun p => U (weakS y p)) (kN c) - sumP (fun p => U (weakS y p)) p) ∧ j 32 = iI 32 + lk * (sumP (fun p => V (weakS y p)) (kN c) - sumP (fun p => V (weakS y p)) p) ∧ ∀ d Q n6, WP (d + n + 1 + 1) 282 159 [some (vr 71), some (vi t), some (vi l2), some (vi k), some (vl lk), none, some (vi n6), some (vi l7), some (vi (encR y)), some (vi p)] [] (mdH h iI A) Q = WP (d + n + 1 + 1) 282 194 [some (vr 71), some (vi t), some (vi l2), some (vi k), some (vl lk), none, some (vi n6), some (vi l7), some (vi (encR y)), some (vi (kN c))] [] (mdH h j B) Q := by
  have hK := hO.1
  have hN := hK.2.2
  intro q
  induction q with
  | zero =>
    intro p iI A hp hR hT h29
    have hp' : p = kN c := by omega
    subst hp'
    have hn := hR.2.2.1
    refine ⟨iI, A, sameR_r, frI_r, by rw [Int.sub_self]; omega, by rw [Int.sub_self]; omega, fun d Q n6 => ?_⟩
    rw [e_282_159]
    simp (disch := omega) only [e_282_161, e_282_162, e_282_165, e_282_166, e_282_167, hn, mdO_c, mdO_g0, mdO_k0, mdO_g1, mdO_k1, mdO_g2, mdO_k2, mdO_g3, mdO_k3, mdO_g4, mdO_k4, mdO_g5, mdO_k5, mdO_g6, mdO_k6, mdO_g7, mdO_k7, mdO_g8, mdO_k8, mdO_g9, mdO_k9, mdO_g10, mdO_k10, mdO_g11, mdO_k11, mdO_g12, mdO_k12, mdO_g13, mdO_k13, mdO_g14, mdO_k14, mdO_g15, mdO_k15, mdO_g16, mdO_k16, mdO_g17, mdO_k17, mdO_g18, mdO_k18, mdO_g19, mdO_k19, mdO_g20, mdO_k20, mdO_g21, mdO_k21, mdO_g22, mdO_k22, mdO_g23, mdO_k23, mdO_g24, mdO_k24, mdO_g25, mdO_k25, mdO_g26, mdO_k26, mdO_g27, mdO_k27, mdO_g28, mdO_k28, mdO_g29, mdO_k29, mdO_g30, mdO_k30, mdO_g31, mdO_k31, mdO_g32, mdO_k32, mdO_g33, mdO_k33, mdO_g34, mdO_k34, mdO_g35, mdO_k35, mdO_s0, mdO_s5, mdO_s6, mdO_s7, mdO_s8, mdO_s9, mdO_s10, mdO_s11, mdO_s12, mdO_s13, mdO_s14, mdO_s15, mdO_s19, mdO_s20, mdO_s25, mdO_s26, mdO_s31, mdO_s32, md_1, md_2, md_g71, md_g72, md_g73, md_g74, md_g75, md_g76, md_g77, md_g78, md_g79, md_g80, md_g81, md_g82, md_g83, md_g84, md_g85, md_g86, md_g87, md_g88, md_g89, md_out, md_u71, md_u72, md_u73, md_u74, md_u75, md_u76, md_u77, md_u78, md_u79, md_u80, md_u81, md_u82, md_u83, md_u84, md_u85, md_u86, md_u87, md_u88, md_u89, md_uo, iup_s, iup_n, aup_s, aup_n, ne_eq, not_false_eq_true, sh_0, sh_1, sh_2, sh_3, sh_4, sh_5, sh_8, sh_15, sh_16, sh_24, Int.reducePow, Int.cast_ofNat_Int, w_of, wl_of, ltT, ltF, leT, leF, eqT, eqF, okF_0, okF_s, gF_0, gF_s, consC_o, sF_0, sF_s, clsO_o, inA_i, ldA_i, stA_i, inJ_l, ldJ_l, stJ_l, inR_r, ldR_r, stR_r, tgR_r, lenA_i, lenA_l, lenA_r, lenA_ex, nl_i, nl_o, nl_l, nl_n, wd_n, wd_i, wd_l, wd_o, fit_i, fit_l, fit_o, K_v, K_n, true_and, and_true, Nat.reduceAdd, Nat.reduceLeDiff, Nat.reduceEqDiff, Nat.reduceMul, Nat.reduceLT, reduceIte, true_or, or_true, cmp_lt, cmp_gt, cmp_eq, wb_0, b_01, cmp_lt', cmp_gt', cmp_eq', b_0, b_1, wb_1, Int.reduceSub, Int.reduceToNat, List.getD_cons_succ, List.getD_cons_zero, Int.reduceLE, Int.reduceLT, Int.reduceEq, Int.reduceNeg, Int.reduceAdd, Int.reduceMul, and_self, em_b, ne_eq, not_false_eq_true, not_true_eq_false]
  | succ q ihq =>
    intro p iI A hp hR hT h29
    have hpn : p < kN c := by omega
    have hn := hR.2.2.1
    obtain ⟨j1, B1, s1, f1, a1, b1, g1⟩ := ih (weakS y p) iI A (weakS_ok hy hpn) hR hT h29
    obtain ⟨j2, B2, s2, f2, a2, b2, g2⟩ := ihq (p + 1) j1 B1 (by omega) (ctyR_x hR (s1 72 (by omega) (by omega))) (traR_x hT (s1 87 (by omega) (by omega)) (s1 88 (by omega) (by omega)) (s1 89 (by omega) (by omega))) (by rw [s1 72 (by omega) (by omega)]; exact h29)
    have e1 : sumP (fun p => U (weakS y p)) (p + 1) = sumP (fun p => U (weakS y p)) p + U (weakS y p) := rfl
    have e2 : sumP (fun p => V (weakS y p)) (p + 1) = sumP (fun p => V (weakS y p)) p + V (weakS y p) := rfl
    refine ⟨j2, B2, sameR_t s1 s2, frI_t f1 f2, ?_, ?_, fun d Q n6 => ?_⟩
    · rw [a2, a1, e1, Int.mul_sub, Int.mul_sub, Int.mul_add]; omega
    · rw [b2, b1, e2, Int.mul_sub, Int.mul_sub, Int.mul_add]; omega
    · rw [← g2 d Q n6]
      have wk := fun (d : Nat) (Q : PQ) => r_weaker (d := d) (h := h) (i := iI) (A := A) (Q := Q) hK hR hy (show p < 4 by omega)
      have g1' := fun (Q : PQ) => g1 (d + 1) Q
      rw [show d + 1 + n = d + n + 1 by omega] at g1'
      rw [e_282_159]
      simp (disch := omega) only [e_282_161, e_282_162, e_282_165, e_282_166, e_282_167, e_282_170, e_282_171, e_282_172, e_282_173, e_282_175, e_282_177, e_282_180, e_282_181, e_282_182, e_282_183, e_282_185, e_282_188, e_282_191, hn, wk, g1', mdO_c, mdO_g0, mdO_k0, mdO_g1, mdO_k1, mdO_g2, mdO_k2, mdO_g3, mdO_k3, mdO_g4, mdO_k4, mdO_g5, mdO_k5, mdO_g6, mdO_k6, mdO_g7, mdO_k7, mdO_g8, mdO_k8, mdO_g9, mdO_k9, mdO_g10, mdO_k10, mdO_g11, mdO_k11, mdO_g12, mdO_k12, mdO_g13, mdO_k13, mdO_g14, mdO_k14, mdO_g15, mdO_k15, mdO_g16, mdO_k16, mdO_g17, mdO_k17, mdO_g18, mdO_k18, mdO_g19, mdO_k19, mdO_g20, mdO_k20, mdO_g21, mdO_k21, mdO_g22, mdO_k22, mdO_g23, mdO_k23, mdO_g24, mdO_k24, mdO_g25, mdO_k25, mdO_g26, mdO_k26, mdO_g27, mdO_k27, mdO_g28, mdO_k28, mdO_g29, mdO_k29, mdO_g30, mdO_k30, mdO_g31, mdO_k31, mdO_g32, mdO_k32, mdO_g33, mdO_k33, mdO_g34, mdO_k34, mdO_g35, mdO_k35, mdO_s0, mdO_s5, mdO_s6, mdO_s7, mdO_s8, mdO_s9, mdO_s10, mdO_s11, mdO_s12, mdO_s13, mdO_s14, mdO_s15, mdO_s19, mdO_s20, mdO_s25, mdO_s26, mdO_s31, mdO_s32, md_1, md_2, md_g71, md_g72, md_g73, md_g74, md_g75, md_g76, md_g77, md_g78, md_g79, md_g80, md_g81, md_g82, md_g83, md_g84, md_g85, md_g86, md_g87, md_g88, md_g89, md_out, md_u71, md_u72, md_u73, md_u74, md_u75, md_u76, md_u77, md_u78, md_u79, md_u80, md_u81, md_u82, md_u83, md_u84, md_u85, md_u86, md_u87, md_u88, md_u89, md_uo, iup_s, iup_n, aup_s, aup_n, ne_eq, not_false_eq_true, sh_0, sh_1, sh_2, sh_3, sh_4, sh_5, sh_8, sh_15, sh_16, sh_24, Int.reducePow, Int.cast_ofNat_Int, w_of, wl_of, ltT, ltF, leT, leF, eqT, eqF, okF_0, okF_s, gF_0, gF_s, consC_o, sF_0, sF_s, clsO_o, inA_i, ldA_i, stA_i, inJ_l, ldJ_l, stJ_l, inR_r, ldR_r, stR_r, tgR_r, lenA_i, lenA_l, lenA_r, lenA_ex, nl_i, nl_o, nl_l, nl_n, wd_n, wd_i, wd_l, wd_o, fit_i, fit_l, fit_o, K_v, K_n, true_and, and_true, Nat.reduceAdd, Nat.reduceLeDiff, Nat.reduceEqDiff, Nat.reduceMul, Nat.reduceLT, reduceIte, true_or, or_true, cmp_lt, cmp_gt, cmp_eq, wb_0, b_01, cmp_lt', cmp_gt', cmp_eq', b_0, b_1, wb_1, Int.reduceSub, Int.reduceToNat, List.getD_cons_succ, List.getD_cons_zero, Int.reduceLE, Int.reduceLT, Int.reduceEq, Int.reduceNeg, Int.reduceAdd, Int.reduceMul, and_self, em_b, ne_eq, not_false_eq_true, not_true_eq_false]
      try rfl
theorem r_goesLots {h : PH} {c : KC} {sky t so : Nat} {T : TT} {l : List Int} (hO : okC c) (hsky : sky < 10) (ht : t < 4) (e : T t = some (so, l)) (hl6 : l.length ≤ 6) (hall : ∀ x, x ∈ l → lotOK c x = true) :
    ∀ (r k : Nat) (x : ST) (lk : Int) (iI : Nat → Int) (A : Nat → Int → Int), k + r = l.length → okS c x → ctyR (A 72) c → traR T A → A 72 29 = sky →
    ∃ j B, sameR A B ∧ frI [31, 32] iI j ∧ j 31 = iI 31 + lk * lotF c sky (upF c) ((mvs c l).drop k) x ∧ j 32 = iI 32 + lk * lotF c sky (stF c) ((mvs c l).drop k) x ∧ ∀ d Q, WP (d + (2 * r + 6)) 282 0 [some (vr 71), some (vi t), some (vi (encR x)), some (vi k), some (vl lk), none, none, none, none, none] [] (mdH h iI A) Q = Q none (mdH h j B) := by
  have hK := hO.1
  have hN := hK.2.2
  have hml : (mvs c l).length = l.length := by unfold mvs; rw [List.length_map]
  have fin : ∀ (r k : Nat) (x : ST) (lk : Int) (iI : Nat → Int) (A : Nat → Int → Int), k + r = l.length → okS c x → ctyR (A 72) c → traR T A → (k = l.length ∨ downB c x = true) → ∃ j B, sameR A B ∧ frI [31, 32] iI j ∧ j 31 = iI 31 + lk * (upF c x * 10 ^ r) ∧ j 32 = iI 32 + lk * (stF c x * 10 ^ r) ∧ ∀ d Q, WP (d + (2 * r + 6)) 282 0 [some (vr 71), some (vi t), some (vi (encR x)), some (vi k), some (vl lk), none, none, none, none, none] [] (mdH h iI A) Q = Q none (mdH h j B) := by
    intro r k x lk iI A hk hx hR hT hend
    obtain ⟨e1, e2, e3, e4, e5⟩ := traR_s hT ht e
    have sm := fun (d : Nat) (i : Nat → Int) (Q : PQ) => r_sumIn (d := d) (h := h) (i := i) (A := A) (Q := Q) hK hR hx
    have dn := fun (d : Nat) (i : Nat → Int) (Q : PQ) => r_isDown (d := d) (h := h) (i := i) (A := A) (Q := Q) hK hR hx
    have wh := fun (d : Nat) (h : PH) (Q : PQ) => r_wholeOf (d := d) (n := r) (h := h) (Q := Q) (by omega)
    have er : (l.length : Int) - (k : Int) = (r : Int) := by omega
    have hsl : sumF (kN c) x.2.2 < 100 := by
      have : ∀ n, n ≤ 3 → sumF n x.2.2 ≤ 3 * n := by
        intro n
        induction n with
        | zero => intro _; exact Nat.le_refl _
        | succ n ihn =>
          intro hn
          have := ihn (by omega)
          have h4 := ((okS_R hK hx).1 n).2
          rw [sumF_s]; omega
      have := this (kN c) hN
      omega
    have est : lk * 10 ^ r * (sumF (kN c) x.2.2 : Int) = lk * (stF c x * 10 ^ r) := by unfold stF; rw [Int.mul_assoc, Int.mul_comm (10 ^ r)]
    by_cases hd : downB c x = true
    · have eup : upF c x = 0 := by unfold upF; rw [if_pos hd]
      refine ⟨iup (iup iI 32 (iI 32 + lk * (stF c x * 10 ^ r))) 31 (iI 31 + 0), A, sameR_r, frI_t (frI_u (by decide)) (frI_u (by decide)), by rw [iup_s, eup, Int.zero_mul, Int.mul_zero], by rw [iup_n (by omega), iup_s], fun d Q => ?_⟩
      simp only [hd, if_true] at dn
      rw [show d + (2 * r + 6) = d + 2 * r + 5 + 1 by omega]
      by_cases hkl : k = l.length
      · simp (disch := omega) only [e_282_0, e_282_1, e_282_4, e_282_5, e_282_6, e_282_8, e_282_9, e_282_11, e_282_14, e_282_15, e_282_16, e_282_19, e_282_22, e_282_24, e_282_26, e_282_27, e_282_28, e_282_31, e_282_32, e_282_34, e_282_35i, e_282_35a, e_282_36, e_282_39, e_282_41, e_282_42, e_282_43, e_282_46, e_282_47, e_282_48, e_282_49, e_282_52, e_282_53i, e_282_53a, e_282_54, e_282_57, e_282_58, e_282_59, e_282_62, e_282_65, e_282_66, e_282_69, e_282_71, e_282_72, e_282_75, e3, wh, sm, dn, er, est, mdO_c, mdO_g0, mdO_k0, mdO_g1, mdO_k1, mdO_g2, mdO_k2, mdO_g3, mdO_k3, mdO_g4, mdO_k4, mdO_g5, mdO_k5, mdO_g6, mdO_k6, mdO_g7, mdO_k7, mdO_g8, mdO_k8, mdO_g9, mdO_k9, mdO_g10, mdO_k10, mdO_g11, mdO_k11, mdO_g12, mdO_k12, mdO_g13, mdO_k13, mdO_g14, mdO_k14, mdO_g15, mdO_k15, mdO_g16, mdO_k16, mdO_g17, mdO_k17, mdO_g18, mdO_k18, mdO_g19, mdO_k19, mdO_g20, mdO_k20, mdO_g21, mdO_k21, mdO_g22, mdO_k22, mdO_g23, mdO_k23, mdO_g24, mdO_k24, mdO_g25, mdO_k25, mdO_g26, mdO_k26, mdO_g27, mdO_k27, mdO_g28, mdO_k28, mdO_g29, mdO_k29, mdO_g30, mdO_k30, mdO_g31, mdO_k31, mdO_g32, mdO_k32, mdO_g33, mdO_k33, mdO_g34, mdO_k34, mdO_g35, mdO_k35, mdO_s0, mdO_s5, mdO_s6, mdO_s7, mdO_s8, mdO_s9, mdO_s10, mdO_s11, mdO_s12, mdO_s13, mdO_s14, mdO_s15, mdO_s19, mdO_s20, mdO_s25, mdO_s26, mdO_s31, mdO_s32, md_1, md_2, md_g71, md_g72, md_g73, md_g74, md_g75, md_g76, md_g77, md_g78, md_g79, md_g80, md_g81, md_g82, md_g83, md_g84, md_g85, md_g86, md_g87, md_g88, md_g89, md_out, md_u71, md_u72, md_u73, md_u74, md_u75, md_u76, md_u77, md_u78, md_u79, md_u80, md_u81, md_u82, md_u83, md_u84, md_u85, md_u86, md_u87, md_u88, md_u89, md_uo, iup_s, iup_n, aup_s, aup_n, ne_eq, not_false_eq_true, sh_0, sh_1, sh_2, sh_3, sh_4, sh_5, sh_8, sh_15, sh_16, sh_24, Int.reducePow, Int.cast_ofNat_Int, w_of, wl_of, ltT, ltF, leT, leF, eqT, eqF, okF_0, okF_s, gF_0, gF_s, consC_o, sF_0, sF_s, clsO_o, inA_i, ldA_i, stA_i, inJ_l, ldJ_l, stJ_l, inR_r, ldR_r, stR_r, tgR_r, lenA_i, lenA_l, lenA_r, lenA_ex, nl_i, nl_o, nl_l, nl_n, wd_n, wd_i, wd_l, wd_o, fit_i, fit_l, fit_o, K_v, K_n, true_and, and_true, Nat.reduceAdd, Nat.reduceLeDiff, Nat.reduceEqDiff, Nat.reduceMul, Nat.reduceLT, reduceIte, true_or, or_true, cmp_lt, cmp_gt, cmp_eq, wb_0, b_01, cmp_lt', cmp_gt', cmp_eq', b_0, b_1, wb_1, Int.reduceSub, Int.reduceToNat, List.getD_cons_succ, List.getD_cons_zero, Int.reduceLE, Int.reduceLT, Int.reduceEq, Int.reduceNeg, Int.reduceAdd, Int.reduceMul, and_self, em_b, ne_eq, not_false_eq_true, not_true_eq_false]
      · simp (disch := omega) only [e_282_0, e_282_1, e_282_4, e_282_5, e_282_6, e_282_8, e_282_9, e_282_11, e_282_14, e_282_15, e_282_16, e_282_19, e_282_22, e_282_24, e_282_26, e_282_27, e_282_28, e_282_31, e_282_32, e_282_34, e_282_35i, e_282_35a, e_282_36, e_282_39, e_282_41, e_282_42, e_282_43, e_282_46, e_282_47, e_282_48, e_282_49, e_282_52, e_282_53i, e_282_53a, e_282_54, e_282_57, e_282_58, e_282_59, e_282_62, e_282_65, e_282_66, e_282_69, e_282_71, e_282_72, e_282_75, e3, wh, sm, dn, er, est, mdO_c, mdO_g0, mdO_k0, mdO_g1, mdO_k1, mdO_g2, mdO_k2, mdO_g3, mdO_k3, mdO_g4, mdO_k4, mdO_g5, mdO_k5, mdO_g6, mdO_k6, mdO_g7, mdO_k7, mdO_g8, mdO_k8, mdO_g9, mdO_k9, mdO_g10, mdO_k10, mdO_g11, mdO_k11, mdO_g12, mdO_k12, mdO_g13, mdO_k13, mdO_g14, mdO_k14, mdO_g15, mdO_k15, mdO_g16, mdO_k16, mdO_g17, mdO_k17, mdO_g18, mdO_k18, mdO_g19, mdO_k19, mdO_g20, mdO_k20, mdO_g21, mdO_k21, mdO_g22, mdO_k22, mdO_g23, mdO_k23, mdO_g24, mdO_k24, mdO_g25, mdO_k25, mdO_g26, mdO_k26, mdO_g27, mdO_k27, mdO_g28, mdO_k28, mdO_g29, mdO_k29, mdO_g30, mdO_k30, mdO_g31, mdO_k31, mdO_g32, mdO_k32, mdO_g33, mdO_k33, mdO_g34, mdO_k34, mdO_g35, mdO_k35, mdO_s0, mdO_s5, mdO_s6, mdO_s7, mdO_s8, mdO_s9, mdO_s10, mdO_s11, mdO_s12, mdO_s13, mdO_s14, mdO_s15, mdO_s19, mdO_s20, mdO_s25, mdO_s26, mdO_s31, mdO_s32, md_1, md_2, md_g71, md_g72, md_g73, md_g74, md_g75, md_g76, md_g77, md_g78, md_g79, md_g80, md_g81, md_g82, md_g83, md_g84, md_g85, md_g86, md_g87, md_g88, md_g89, md_out, md_u71, md_u72, md_u73, md_u74, md_u75, md_u76, md_u77, md_u78, md_u79, md_u80, md_u81, md_u82, md_u83, md_u84, md_u85, md_u86, md_u87, md_u88, md_u89, md_uo, iup_s, iup_n, aup_s, aup_n, ne_eq, not_false_eq_true, sh_0, sh_1, sh_2, sh_3, sh_4, sh_5, sh_8, sh_15, sh_16, sh_24, Int.reducePow, Int.cast_ofNat_Int, w_of, wl_of, ltT, ltF, leT, leF, eqT, eqF, okF_0, okF_s, gF_0, gF_s, consC_o, sF_0, sF_s, clsO_o, inA_i, ldA_i, stA_i, inJ_l, ldJ_l, stJ_l, inR_r, ldR_r, stR_r, tgR_r, lenA_i, lenA_l, lenA_r, lenA_ex, nl_i, nl_o, nl_l, nl_n, wd_n, wd_i, wd_l, wd_o, fit_i, fit_l, fit_o, K_v, K_n, true_and, and_true, Nat.reduceAdd, Nat.reduceLeDiff, Nat.reduceEqDiff, Nat.reduceMul, Nat.reduceLT, reduceIte, true_or, or_true, cmp_lt, cmp_gt, cmp_eq, wb_0, b_01, cmp_lt', cmp_gt', cmp_eq', b_0, b_1, wb_1, Int.reduceSub, Int.reduceToNat, List.getD_cons_succ, List.getD_cons_zero, Int.reduceLE, Int.reduceLT, Int.reduceEq, Int.reduceNeg, Int.reduceAdd, Int.reduceMul, and_self, em_b, ne_eq, not_false_eq_true, not_true_eq_false]
    · have hd' : downB c x = false := by simpa using hd
      have hkl : k = l.length := by
        rcases hend with z | z
        · exact z
        · rw [hd'] at z; cases z
      have eup : upF c x = 1 := by unfold upF; rw [hd']; rfl
      refine ⟨iup (iup iI 32 (iI 32 + lk * (stF c x * 10 ^ r))) 31 (iI 31 + lk * 10 ^ r), A, sameR_r, frI_t (frI_u (by decide)) (frI_u (by decide)), by rw [iup_s, eup, Int.one_mul], by rw [iup_n (by omega), iup_s], fun d Q => ?_⟩
      simp only [hd', if_false, Bool.false_eq_true] at dn
      rw [show d + (2 * r + 6) = d + 2 * r + 5 + 1 by omega]
      simp (disch := omega) only [e_282_0, e_282_1, e_282_4, e_282_5, e_282_6, e_282_8, e_282_9, e_282_11, e_282_14, e_282_15, e_282_16, e_282_19, e_282_22, e_282_24, e_282_26, e_282_27, e_282_28, e_282_31, e_282_32, e_282_34, e_282_35i, e_282_35a, e_282_36, e_282_39, e_282_41, e_282_42, e_282_43, e_282_46, e_282_47, e_282_48, e_282_49, e_282_52, e_282_53i, e_282_53a, e_282_54, e_282_57, e_282_58, e_282_59, e_282_62, e_282_65, e_282_66, e_282_69, e_282_71, e_282_72, e_282_75, e3, wh, sm, dn, er, est, mdO_c, mdO_g0, mdO_k0, mdO_g1, mdO_k1, mdO_g2, mdO_k2, mdO_g3, mdO_k3, mdO_g4, mdO_k4, mdO_g5, mdO_k5, mdO_g6, mdO_k6, mdO_g7, mdO_k7, mdO_g8, mdO_k8, mdO_g9, mdO_k9, mdO_g10, mdO_k10, mdO_g11, mdO_k11, mdO_g12, mdO_k12, mdO_g13, mdO_k13, mdO_g14, mdO_k14, mdO_g15, mdO_k15, mdO_g16, mdO_k16, mdO_g17, mdO_k17, mdO_g18, mdO_k18, mdO_g19, mdO_k19, mdO_g20, mdO_k20, mdO_g21, mdO_k21, mdO_g22, mdO_k22, mdO_g23, mdO_k23, mdO_g24, mdO_k24, mdO_g25, mdO_k25, mdO_g26, mdO_k26, mdO_g27, mdO_k27, mdO_g28, mdO_k28, mdO_g29, mdO_k29, mdO_g30, mdO_k30, mdO_g31, mdO_k31, mdO_g32, mdO_k32, mdO_g33, mdO_k33, mdO_g34, mdO_k34, mdO_g35, mdO_k35, mdO_s0, mdO_s5, mdO_s6, mdO_s7, mdO_s8, mdO_s9, mdO_s10, mdO_s11, mdO_s12, mdO_s13, mdO_s14, mdO_s15, mdO_s19, mdO_s20, mdO_s25, mdO_s26, mdO_s31, mdO_s32, md_1, md_2, md_g71, md_g72, md_g73, md_g74, md_g75, md_g76, md_g77, md_g78, md_g79, md_g80, md_g81, md_g82, md_g83, md_g84, md_g85, md_g86, md_g87, md_g88, md_g89, md_out, md_u71, md_u72, md_u73, md_u74, md_u75, md_u76, md_u77, md_u78, md_u79, md_u80, md_u81, md_u82, md_u83, md_u84, md_u85, md_u86, md_u87, md_u88, md_u89, md_uo, iup_s, iup_n, aup_s, aup_n, ne_eq, not_false_eq_true, sh_0, sh_1, sh_2, sh_3, sh_4, sh_5, sh_8, sh_15, sh_16, sh_24, Int.reducePow, Int.cast_ofNat_Int, w_of, wl_of, ltT, ltF, leT, leF, eqT, eqF, okF_0, okF_s, gF_0, gF_s, consC_o, sF_0, sF_s, clsO_o, inA_i, ldA_i, stA_i, inJ_l, ldJ_l, stJ_l, inR_r, ldR_r, stR_r, tgR_r, lenA_i, lenA_l, lenA_r, lenA_ex, nl_i, nl_o, nl_l, nl_n, wd_n, wd_i, wd_l, wd_o, fit_i, fit_l, fit_o, K_v, K_n, true_and, and_true, Nat.reduceAdd, Nat.reduceLeDiff, Nat.reduceEqDiff, Nat.reduceMul, Nat.reduceLT, reduceIte, true_or, or_true, cmp_lt, cmp_gt, cmp_eq, wb_0, b_01, cmp_lt', cmp_gt', cmp_eq', b_0, b_1, wb_1, Int.reduceSub, Int.reduceToNat, List.getD_cons_succ, List.getD_cons_zero, Int.reduceLE, Int.reduceLT, Int.reduceEq, Int.reduceNeg, Int.reduceAdd, Int.reduceMul, and_self, em_b, ne_eq, not_false_eq_true, not_true_eq_false]
  intro r
  induction r with
  | zero =>
    intro k x lk iI A hk hx hR hT h29
    have hdr : (mvs c l).drop k = [] := by rw [List.drop_eq_nil_iff]; omega
    obtain ⟨j, B, s1, f1, a1, b1, g1⟩ := fin 0 k x lk iI A hk hx hR hT (Or.inl (by omega))
    rw [hdr]
    refine ⟨j, B, s1, f1, ?_, ?_, g1⟩
    · rw [a1]; show _ = _ + lk * upF c x; rw [show (10 : Int) ^ 0 = 1 from rfl, Int.mul_one]
    · rw [b1]; show _ = _ + lk * stF c x; rw [show (10 : Int) ^ 0 = 1 from rfl, Int.mul_one]
  | succ r ih =>
    intro k x lk iI A hk hx hR hT h29
    have hkl : k < l.length := by omega
    by_cases hd : downB c x = true
    · obtain ⟨j, B, s1, f1, a1, b1, g1⟩ := fin (r + 1) k x lk iI A hk hx hR hT (Or.inr hd)
      have hlen : ((mvs c l).drop k).length = r + 1 := by rw [List.length_drop]; omega
      refine ⟨j, B, s1, f1, ?_, ?_, g1⟩
      · rw [a1, lot_down hd, hlen]
      · rw [b1, lot_down hd, hlen]
    · have hd' : downB c x = false := by simpa using hd
      obtain ⟨e1, e2, e3, e4, e5⟩ := traR_s hT ht e
      have hv : l[k]? = some l[k] := List.getElem?_eq_getElem hkl
      have hvm : l[k] ∈ l := List.getElem_mem hkl
      generalize l[k] = v at hv hvm
      obtain ⟨e6, e7⟩ := e5 k v hv
      have hlo := hall v hvm
      unfold lotOK at hlo
      obtain ⟨m, em⟩ := Option.isSome_iff_exists.mp hlo
      obtain ⟨hmv, hm19, -⟩ := moveD_some hK em
      have hmk : (mvs c l)[k]? = some m := by unfold mvs; rw [List.getElem?_map, hv]; show some ((moveD c v).getD 0) = _; rw [em]; rfl
      have hdr := drop_at hmk
      have hlr : ((mvs c l).drop (k + 1)).length = r := by rw [List.length_drop]; omega
      have mo := fun (d : Nat) (Q : PQ) => r_moveOf (d := d) (h := h) (i := iI) (A := A) (x := v) (Q := Q) hK hR e7.1 e7.2
      rw [em] at mo
      have mo' : ∀ (d : Nat) (Q : PQ), WP (d + 2) 213 0 [some (vr 71), some (vl v), none] [] (mdH h iI A) Q = Q (some (vi (m : Nat))) (mdH h iI A) := mo
      have dn := fun (d : Nat) (Q : PQ) => r_isDown (d := d) (h := h) (i := iI) (A := A) (Q := Q) hK hR hx
      simp only [hd', if_false, Bool.false_eq_true] at dn
      obtain ⟨B1, s1, g1⟩ := r_whyBy (h := h) (i := iI) (A := A) hO hR hx hsky hmv hm19
      have hR1 : ctyR (B1 72) c := ctyR_x hR (s1 72 (by omega) (by omega))
      have hwy : whyM c sky x m < 5 := by unfold whyM; split <;> (try split) <;> (try split) <;> (try split) <;> (try split) <;> omega
      have hmv2 : isMv c (if whyM c sky x m = 0 then m else 0) = true := by
        split
        · exact hmv
        · exact isMv_0
      obtain ⟨B2, s2, g2⟩ := r_hourTo (h := h) (i := iI) (A := B1) (m := if whyM c sky x m = 0 then m else 0) hO hR1 hx hsky hmv2 (by split <;> omega)
      have s12 := sameR_t s1 s2
      have h29' : B1 72 29 = sky := by rw [s1 72 (by omega) (by omega)]; exact h29
      have hyo := hrT_ok (sky := sky) hx hmv
      have ee : (40 : Int) * (t : Int) + (k : Int) = ((40 * t + k : Nat) : Int) := by omega
      have pre : ∀ d Q, WP (d + (2 * (r + 1) + 6)) 282 0 [some (vr 71), some (vi t), some (vi (encR x)), some (vi k), some (vl lk), none, none, none, none, none] [] (mdH h iI A) Q = WP (d + 2 * r + 7 + 1) 282 130 [some (vr 71), some (vi t), some (vi (encR x)), some (vi k), some (vl lk), none, some (vi l.length), some (vi m), some (vi (encR (hrT c sky x m))), none] [] (mdH h iI B2) Q := by
        intro d Q
        rw [show d + (2 * (r + 1) + 6) = d + 2 * r + 7 + 1 by omega]
        unfold hrT
        by_cases q : whyM c sky x m = 0
        · rw [q] at g1
          simp only [q, if_true] at g2 ⊢
          simp (disch := omega) only [e_282_0, e_282_1, e_282_4, e_282_5, e_282_6, e_282_8, e_282_9, e_282_11, e_282_14, e_282_15, e_282_16, e_282_19, e_282_76, e_282_77, e_282_78, e_282_81, e_282_83, e_282_84, e_282_85, e_282_86, e_282_87, e_282_88, e_282_91, e_282_93, e_282_94, e_282_95, e_282_96, e_282_97, e_282_99, e_282_100, e_282_103, e_282_105, e_282_106, e_282_109, e_282_112, e_282_114, e_282_117, e_282_118, e_282_119, e_282_122, e_282_124, e_282_125, e_282_128, e3, dn, ee, e6, mo', h29, h29', g1, g2, mdO_c, mdO_g0, mdO_k0, mdO_g1, mdO_k1, mdO_g2, mdO_k2, mdO_g3, mdO_k3, mdO_g4, mdO_k4, mdO_g5, mdO_k5, mdO_g6, mdO_k6, mdO_g7, mdO_k7, mdO_g8, mdO_k8, mdO_g9, mdO_k9, mdO_g10, mdO_k10, mdO_g11, mdO_k11, mdO_g12, mdO_k12, mdO_g13, mdO_k13, mdO_g14, mdO_k14, mdO_g15, mdO_k15, mdO_g16, mdO_k16, mdO_g17, mdO_k17, mdO_g18, mdO_k18, mdO_g19, mdO_k19, mdO_g20, mdO_k20, mdO_g21, mdO_k21, mdO_g22, mdO_k22, mdO_g23, mdO_k23, mdO_g24, mdO_k24, mdO_g25, mdO_k25, mdO_g26, mdO_k26, mdO_g27, mdO_k27, mdO_g28, mdO_k28, mdO_g29, mdO_k29, mdO_g30, mdO_k30, mdO_g31, mdO_k31, mdO_g32, mdO_k32, mdO_g33, mdO_k33, mdO_g34, mdO_k34, mdO_g35, mdO_k35, mdO_s0, mdO_s5, mdO_s6, mdO_s7, mdO_s8, mdO_s9, mdO_s10, mdO_s11, mdO_s12, mdO_s13, mdO_s14, mdO_s15, mdO_s19, mdO_s20, mdO_s25, mdO_s26, mdO_s31, mdO_s32, md_1, md_2, md_g71, md_g72, md_g73, md_g74, md_g75, md_g76, md_g77, md_g78, md_g79, md_g80, md_g81, md_g82, md_g83, md_g84, md_g85, md_g86, md_g87, md_g88, md_g89, md_out, md_u71, md_u72, md_u73, md_u74, md_u75, md_u76, md_u77, md_u78, md_u79, md_u80, md_u81, md_u82, md_u83, md_u84, md_u85, md_u86, md_u87, md_u88, md_u89, md_uo, iup_s, iup_n, aup_s, aup_n, ne_eq, not_false_eq_true, sh_0, sh_1, sh_2, sh_3, sh_4, sh_5, sh_8, sh_15, sh_16, sh_24, Int.reducePow, Int.cast_ofNat_Int, w_of, wl_of, ltT, ltF, leT, leF, eqT, eqF, okF_0, okF_s, gF_0, gF_s, consC_o, sF_0, sF_s, clsO_o, inA_i, ldA_i, stA_i, inJ_l, ldJ_l, stJ_l, inR_r, ldR_r, stR_r, tgR_r, lenA_i, lenA_l, lenA_r, lenA_ex, nl_i, nl_o, nl_l, nl_n, wd_n, wd_i, wd_l, wd_o, fit_i, fit_l, fit_o, K_v, K_n, true_and, and_true, Nat.reduceAdd, Nat.reduceLeDiff, Nat.reduceEqDiff, Nat.reduceMul, Nat.reduceLT, reduceIte, true_or, or_true, cmp_lt, cmp_gt, cmp_eq, wb_0, b_01, cmp_lt', cmp_gt', cmp_eq', b_0, b_1, wb_1, Int.reduceSub, Int.reduceToNat, List.getD_cons_succ, List.getD_cons_zero, Int.reduceLE, Int.reduceLT, Int.reduceEq, Int.reduceNeg, Int.reduceAdd, Int.reduceMul, and_self, em_b, ne_eq, not_false_eq_true, not_true_eq_false]
        · simp only [q, if_false, nc0] at g2 ⊢
          simp (disch := omega) only [e_282_0, e_282_1, e_282_4, e_282_5, e_282_6, e_282_8, e_282_9, e_282_11, e_282_14, e_282_15, e_282_16, e_282_19, e_282_76, e_282_77, e_282_78, e_282_81, e_282_83, e_282_84, e_282_85, e_282_86, e_282_87, e_282_88, e_282_91, e_282_93, e_282_94, e_282_95, e_282_96, e_282_97, e_282_99, e_282_100, e_282_103, e_282_105, e_282_106, e_282_109, e_282_112, e_282_114, e_282_117, e_282_118, e_282_119, e_282_122, e_282_124, e_282_125, e_282_128, e3, dn, ee, e6, mo', h29, h29', g1, g2, mdO_c, mdO_g0, mdO_k0, mdO_g1, mdO_k1, mdO_g2, mdO_k2, mdO_g3, mdO_k3, mdO_g4, mdO_k4, mdO_g5, mdO_k5, mdO_g6, mdO_k6, mdO_g7, mdO_k7, mdO_g8, mdO_k8, mdO_g9, mdO_k9, mdO_g10, mdO_k10, mdO_g11, mdO_k11, mdO_g12, mdO_k12, mdO_g13, mdO_k13, mdO_g14, mdO_k14, mdO_g15, mdO_k15, mdO_g16, mdO_k16, mdO_g17, mdO_k17, mdO_g18, mdO_k18, mdO_g19, mdO_k19, mdO_g20, mdO_k20, mdO_g21, mdO_k21, mdO_g22, mdO_k22, mdO_g23, mdO_k23, mdO_g24, mdO_k24, mdO_g25, mdO_k25, mdO_g26, mdO_k26, mdO_g27, mdO_k27, mdO_g28, mdO_k28, mdO_g29, mdO_k29, mdO_g30, mdO_k30, mdO_g31, mdO_k31, mdO_g32, mdO_k32, mdO_g33, mdO_k33, mdO_g34, mdO_k34, mdO_g35, mdO_k35, mdO_s0, mdO_s5, mdO_s6, mdO_s7, mdO_s8, mdO_s9, mdO_s10, mdO_s11, mdO_s12, mdO_s13, mdO_s14, mdO_s15, mdO_s19, mdO_s20, mdO_s25, mdO_s26, mdO_s31, mdO_s32, md_1, md_2, md_g71, md_g72, md_g73, md_g74, md_g75, md_g76, md_g77, md_g78, md_g79, md_g80, md_g81, md_g82, md_g83, md_g84, md_g85, md_g86, md_g87, md_g88, md_g89, md_out, md_u71, md_u72, md_u73, md_u74, md_u75, md_u76, md_u77, md_u78, md_u79, md_u80, md_u81, md_u82, md_u83, md_u84, md_u85, md_u86, md_u87, md_u88, md_u89, md_uo, iup_s, iup_n, aup_s, aup_n, ne_eq, not_false_eq_true, sh_0, sh_1, sh_2, sh_3, sh_4, sh_5, sh_8, sh_15, sh_16, sh_24, Int.reducePow, Int.cast_ofNat_Int, w_of, wl_of, ltT, ltF, leT, leF, eqT, eqF, okF_0, okF_s, gF_0, gF_s, consC_o, sF_0, sF_s, clsO_o, inA_i, ldA_i, stA_i, inJ_l, ldJ_l, stJ_l, inR_r, ldR_r, stR_r, tgR_r, lenA_i, lenA_l, lenA_r, lenA_ex, nl_i, nl_o, nl_l, nl_n, wd_n, wd_i, wd_l, wd_o, fit_i, fit_l, fit_o, K_v, K_n, true_and, and_true, Nat.reduceAdd, Nat.reduceLeDiff, Nat.reduceEqDiff, Nat.reduceMul, Nat.reduceLT, reduceIte, true_or, or_true, cmp_lt, cmp_gt, cmp_eq, wb_0, b_01, cmp_lt', cmp_gt', cmp_eq', b_0, b_1, wb_1, Int.reduceSub, Int.reduceToNat, List.getD_cons_succ, List.getD_cons_zero, Int.reduceLE, Int.reduceLT, Int.reduceEq, Int.reduceNeg, Int.reduceAdd, Int.reduceMul, and_self, em_b, ne_eq, not_false_eq_true, not_true_eq_false]
      have hRy : ctyR (B2 72) c := ctyR_x hR (s12 72 (by omega) (by omega))
      have hTy : traR T B2 := traR_x hT (s12 87 (by omega) (by omega)) (s12 88 (by omega) (by omega)) (s12 89 (by omega) (by omega))
      have h29y : B2 72 29 = sky := by rw [s12 72 (by omega) (by omega)]; exact h29
      have lotS : ∀ F, lotF c sky F ((mvs c l).drop k) x = if downB c (hrT c sky x m) then F (hrT c sky x m) * 10 ^ (r + 1) else sumP (fun p => lotF c sky F ((mvs c l).drop (k + 1)) (weakS (hrT c sky x m) p)) (kN c) + (10 - (kN c : Int)) * lotF c sky F ((mvs c l).drop (k + 1)) (hrT c sky x m) := fun F => by
        rw [hdr]
        show (if downB c x then _ else _) = _
        rw [hd', if_neg (by decide), hlr]
      generalize hrT c sky x m = y at *
      have dny := fun (d : Nat) (i : Nat → Int) (Q : PQ) => r_isDown (d := d) (h := h) (i := i) (A := B2) (Q := Q) hK hRy hyo
      have ek : ((k : Int) + 1) = ((k + 1 : Nat) : Int) := by omega
      by_cases hdy : downB c y = true
      · simp only [hdy, if_true] at dny
        obtain ⟨j, B, s3, f3, a3, b3, g3⟩ := ih (k + 1) y (lk * 10) iI B2 (by omega) hyo hRy hTy h29y
        refine ⟨j, B, sameR_t s12 s3, f3, ?_, ?_, fun d Q => ?_⟩
        · rw [a3, lotS, if_pos hdy, lot_down hdy, hlr, Int.pow_succ, Int.mul_assoc lk 10, Int.mul_comm 10, Int.mul_assoc (upF c y)]
        · rw [b3, lotS, if_pos hdy, lot_down hdy, hlr, Int.pow_succ, Int.mul_assoc lk 10, Int.mul_comm 10, Int.mul_assoc (stF c y)]
        · rw [pre]
          have g3' := fun (Q : PQ) => g3 (d + 1) Q
          rw [show d + 1 + (2 * r + 6) = d + 2 * r + 7 by omega, ← ek] at g3'
          simp (disch := omega) only [e_282_130, e_282_131, e_282_133, e_282_136, e_282_139, e_282_140, e_282_141, e_282_143, e_282_144, e_282_145, e_282_146, e_282_148, e_282_151, e_282_152, e_282_155, dny, g3', mdO_c, mdO_g0, mdO_k0, mdO_g1, mdO_k1, mdO_g2, mdO_k2, mdO_g3, mdO_k3, mdO_g4, mdO_k4, mdO_g5, mdO_k5, mdO_g6, mdO_k6, mdO_g7, mdO_k7, mdO_g8, mdO_k8, mdO_g9, mdO_k9, mdO_g10, mdO_k10, mdO_g11, mdO_k11, mdO_g12, mdO_k12, mdO_g13, mdO_k13, mdO_g14, mdO_k14, mdO_g15, mdO_k15, mdO_g16, mdO_k16, mdO_g17, mdO_k17, mdO_g18, mdO_k18, mdO_g19, mdO_k19, mdO_g20, mdO_k20, mdO_g21, mdO_k21, mdO_g22, mdO_k22, mdO_g23, mdO_k23, mdO_g24, mdO_k24, mdO_g25, mdO_k25, mdO_g26, mdO_k26, mdO_g27, mdO_k27, mdO_g28, mdO_k28, mdO_g29, mdO_k29, mdO_g30, mdO_k30, mdO_g31, mdO_k31, mdO_g32, mdO_k32, mdO_g33, mdO_k33, mdO_g34, mdO_k34, mdO_g35, mdO_k35, mdO_s0, mdO_s5, mdO_s6, mdO_s7, mdO_s8, mdO_s9, mdO_s10, mdO_s11, mdO_s12, mdO_s13, mdO_s14, mdO_s15, mdO_s19, mdO_s20, mdO_s25, mdO_s26, mdO_s31, mdO_s32, md_1, md_2, md_g71, md_g72, md_g73, md_g74, md_g75, md_g76, md_g77, md_g78, md_g79, md_g80, md_g81, md_g82, md_g83, md_g84, md_g85, md_g86, md_g87, md_g88, md_g89, md_out, md_u71, md_u72, md_u73, md_u74, md_u75, md_u76, md_u77, md_u78, md_u79, md_u80, md_u81, md_u82, md_u83, md_u84, md_u85, md_u86, md_u87, md_u88, md_u89, md_uo, iup_s, iup_n, aup_s, aup_n, ne_eq, not_false_eq_true, sh_0, sh_1, sh_2, sh_3, sh_4, sh_5, sh_8, sh_15, sh_16, sh_24, Int.reducePow, Int.cast_ofNat_Int, w_of, wl_of, ltT, ltF, leT, leF, eqT, eqF, okF_0, okF_s, gF_0, gF_s, consC_o, sF_0, sF_s, clsO_o, inA_i, ldA_i, stA_i, inJ_l, ldJ_l, stJ_l, inR_r, ldR_r, stR_r, tgR_r, lenA_i, lenA_l, lenA_r, lenA_ex, nl_i, nl_o, nl_l, nl_n, wd_n, wd_i, wd_l, wd_o, fit_i, fit_l, fit_o, K_v, K_n, true_and, and_true, Nat.reduceAdd, Nat.reduceLeDiff, Nat.reduceEqDiff, Nat.reduceMul, Nat.reduceLT, reduceIte, true_or, or_true, cmp_lt, cmp_gt, cmp_eq, wb_0, b_01, cmp_lt', cmp_gt', cmp_eq', b_0, b_1, wb_1, Int.reduceSub, Int.reduceToNat, List.getD_cons_succ, List.getD_cons_zero, Int.reduceLE, Int.reduceLT, Int.reduceEq, Int.reduceNeg, Int.reduceAdd, Int.reduceMul, and_self, em_b, ne_eq, not_false_eq_true, not_true_eq_false]
      · have hdy' : downB c y = false := by simpa using hdy
        simp only [hdy', if_false, Bool.false_eq_true] at dny
        obtain ⟨j, B, s3, f3, a3, b3, g3⟩ := r_lotP (h := h) (t := t) (k := k) (n := 2 * r + 6) (lk := lk) (l2 := (encR x : Int)) (l7 := (m : Int)) (sky := (sky : Int)) (U := lotF c sky (upF c) ((mvs c l).drop (k + 1))) (V := lotF c sky (stF c) ((mvs c l).drop (k + 1))) hO hyo (by omega) T (fun x' iI' A' hx' hR' hT' h29' => by
          have := ih (k + 1) x' lk iI' A' (by omega) hx' hR' hT' h29'
          simp only [← ek] at this
          exact this) (kN c) 0 iI B2 (by omega) hRy hTy h29y
        obtain ⟨j2, B3, s4, f4, a4, b4, g4⟩ := ih (k + 1) y (lk * (10 - (kN c : Int))) j B (by omega) hyo (ctyR_x hRy (s3 72 (by omega) (by omega))) (traR_x hTy (s3 87 (by omega) (by omega)) (s3 88 (by omega) (by omega)) (s3 89 (by omega) (by omega))) (by rw [s3 72 (by omega) (by omega)]; exact h29y)
        have z1 : sumP (fun p => lotF c sky (upF c) ((mvs c l).drop (k + 1)) (weakS y p)) 0 = 0 := rfl
        have z2 : sumP (fun p => lotF c sky (stF c) ((mvs c l).drop (k + 1)) (weakS y p)) 0 = 0 := rfl
        refine ⟨j2, B3, sameR_t s12 (sameR_t s3 s4), frI_t f3 f4, ?_, ?_, fun d Q => ?_⟩
        · rw [a4, a3, lotS, hdy', if_neg (by decide), z1, Int.sub_zero, Int.mul_add, Int.mul_assoc]; omega
        · rw [b4, b3, lotS, hdy', if_neg (by decide), z2, Int.sub_zero, Int.mul_add, Int.mul_assoc]; omega
        · rw [pre]
          have g3' := g3 d Q (l.length : Int)
          rw [show d + (2 * r + 6) + 1 + 1 = d + 2 * r + 7 + 1 by omega, nc0] at g3'
          have g4' := fun (Q : PQ) => g4 (d + 1) Q
          rw [show d + 1 + (2 * r + 6) = d + 2 * r + 7 by omega, ← ek] at g4'
          have hn : B 72 2 = kN c := by rw [s3 72 (by omega) (by omega)]; exact hRy.2.2.1
          simp (disch := omega) only [e_282_130, e_282_131, e_282_133, e_282_136, e_282_139, e_282_140, e_282_141, e_282_143, e_282_144, e_282_145, e_282_146, e_282_148, e_282_151, e_282_152, e_282_155, e_282_156, e_282_157, dny, mdO_c, mdO_g0, mdO_k0, mdO_g1, mdO_k1, mdO_g2, mdO_k2, mdO_g3, mdO_k3, mdO_g4, mdO_k4, mdO_g5, mdO_k5, mdO_g6, mdO_k6, mdO_g7, mdO_k7, mdO_g8, mdO_k8, mdO_g9, mdO_k9, mdO_g10, mdO_k10, mdO_g11, mdO_k11, mdO_g12, mdO_k12, mdO_g13, mdO_k13, mdO_g14, mdO_k14, mdO_g15, mdO_k15, mdO_g16, mdO_k16, mdO_g17, mdO_k17, mdO_g18, mdO_k18, mdO_g19, mdO_k19, mdO_g20, mdO_k20, mdO_g21, mdO_k21, mdO_g22, mdO_k22, mdO_g23, mdO_k23, mdO_g24, mdO_k24, mdO_g25, mdO_k25, mdO_g26, mdO_k26, mdO_g27, mdO_k27, mdO_g28, mdO_k28, mdO_g29, mdO_k29, mdO_g30, mdO_k30, mdO_g31, mdO_k31, mdO_g32, mdO_k32, mdO_g33, mdO_k33, mdO_g34, mdO_k34, mdO_g35, mdO_k35, mdO_s0, mdO_s5, mdO_s6, mdO_s7, mdO_s8, mdO_s9, mdO_s10, mdO_s11, mdO_s12, mdO_s13, mdO_s14, mdO_s15, mdO_s19, mdO_s20, mdO_s25, mdO_s26, mdO_s31, mdO_s32, md_1, md_2, md_g71, md_g72, md_g73, md_g74, md_g75, md_g76, md_g77, md_g78, md_g79, md_g80, md_g81, md_g82, md_g83, md_g84, md_g85, md_g86, md_g87, md_g88, md_g89, md_out, md_u71, md_u72, md_u73, md_u74, md_u75, md_u76, md_u77, md_u78, md_u79, md_u80, md_u81, md_u82, md_u83, md_u84, md_u85, md_u86, md_u87, md_u88, md_u89, md_uo, iup_s, iup_n, aup_s, aup_n, ne_eq, not_false_eq_true, sh_0, sh_1, sh_2, sh_3, sh_4, sh_5, sh_8, sh_15, sh_16, sh_24, Int.reducePow, Int.cast_ofNat_Int, w_of, wl_of, ltT, ltF, leT, leF, eqT, eqF, okF_0, okF_s, gF_0, gF_s, consC_o, sF_0, sF_s, clsO_o, inA_i, ldA_i, stA_i, inJ_l, ldJ_l, stJ_l, inR_r, ldR_r, stR_r, tgR_r, lenA_i, lenA_l, lenA_r, lenA_ex, nl_i, nl_o, nl_l, nl_n, wd_n, wd_i, wd_l, wd_o, fit_i, fit_l, fit_o, K_v, K_n, true_and, and_true, Nat.reduceAdd, Nat.reduceLeDiff, Nat.reduceEqDiff, Nat.reduceMul, Nat.reduceLT, reduceIte, true_or, or_true, cmp_lt, cmp_gt, cmp_eq, wb_0, b_01, cmp_lt', cmp_gt', cmp_eq', b_0, b_1, wb_1, Int.reduceSub, Int.reduceToNat, List.getD_cons_succ, List.getD_cons_zero, Int.reduceLE, Int.reduceLT, Int.reduceEq, Int.reduceNeg, Int.reduceAdd, Int.reduceMul, and_self, em_b, ne_eq, not_false_eq_true, not_true_eq_false]
          refine Eq.trans g3' ?_
          simp (disch := omega) only [e_282_194, e_282_195, e_282_196, e_282_198, e_282_199, e_282_200, e_282_201, e_282_203, e_282_205, e_282_206, e_282_209, e_282_210, e_282_211, e_282_212, e_282_213, e_282_214, e_282_217, hn, g4', mdO_c, mdO_g0, mdO_k0, mdO_g1, mdO_k1, mdO_g2, mdO_k2, mdO_g3, mdO_k3, mdO_g4, mdO_k4, mdO_g5, mdO_k5, mdO_g6, mdO_k6, mdO_g7, mdO_k7, mdO_g8, mdO_k8, mdO_g9, mdO_k9, mdO_g10, mdO_k10, mdO_g11, mdO_k11, mdO_g12, mdO_k12, mdO_g13, mdO_k13, mdO_g14, mdO_k14, mdO_g15, mdO_k15, mdO_g16, mdO_k16, mdO_g17, mdO_k17, mdO_g18, mdO_k18, mdO_g19, mdO_k19, mdO_g20, mdO_k20, mdO_g21, mdO_k21, mdO_g22, mdO_k22, mdO_g23, mdO_k23, mdO_g24, mdO_k24, mdO_g25, mdO_k25, mdO_g26, mdO_k26, mdO_g27, mdO_k27, mdO_g28, mdO_k28, mdO_g29, mdO_k29, mdO_g30, mdO_k30, mdO_g31, mdO_k31, mdO_g32, mdO_k32, mdO_g33, mdO_k33, mdO_g34, mdO_k34, mdO_g35, mdO_k35, mdO_s0, mdO_s5, mdO_s6, mdO_s7, mdO_s8, mdO_s9, mdO_s10, mdO_s11, mdO_s12, mdO_s13, mdO_s14, mdO_s15, mdO_s19, mdO_s20, mdO_s25, mdO_s26, mdO_s31, mdO_s32, md_1, md_2, md_g71, md_g72, md_g73, md_g74, md_g75, md_g76, md_g77, md_g78, md_g79, md_g80, md_g81, md_g82, md_g83, md_g84, md_g85, md_g86, md_g87, md_g88, md_g89, md_out, md_u71, md_u72, md_u73, md_u74, md_u75, md_u76, md_u77, md_u78, md_u79, md_u80, md_u81, md_u82, md_u83, md_u84, md_u85, md_u86, md_u87, md_u88, md_u89, md_uo, iup_s, iup_n, aup_s, aup_n, ne_eq, not_false_eq_true, sh_0, sh_1, sh_2, sh_3, sh_4, sh_5, sh_8, sh_15, sh_16, sh_24, Int.reducePow, Int.cast_ofNat_Int, w_of, wl_of, ltT, ltF, leT, leF, eqT, eqF, okF_0, okF_s, gF_0, gF_s, consC_o, sF_0, sF_s, clsO_o, inA_i, ldA_i, stA_i, inJ_l, ldJ_l, stJ_l, inR_r, ldR_r, stR_r, tgR_r, lenA_i, lenA_l, lenA_r, lenA_ex, nl_i, nl_o, nl_l, nl_n, wd_n, wd_i, wd_l, wd_o, fit_i, fit_l, fit_o, K_v, K_n, true_and, and_true, Nat.reduceAdd, Nat.reduceLeDiff, Nat.reduceEqDiff, Nat.reduceMul, Nat.reduceLT, reduceIte, true_or, or_true, cmp_lt, cmp_gt, cmp_eq, wb_0, b_01, cmp_lt', cmp_gt', cmp_eq', b_0, b_1, wb_1, Int.reduceSub, Int.reduceToNat, List.getD_cons_succ, List.getD_cons_zero, Int.reduceLE, Int.reduceLT, Int.reduceEq, Int.reduceNeg, Int.reduceAdd, Int.reduceMul, and_self, em_b, ne_eq, not_false_eq_true, not_true_eq_false]
theorem sumP_le {f : Nat → Int} {M : Int} : ∀ {n : Nat}, (∀ p, p < n → 0 ≤ f p ∧ f p ≤ M) → 0 ≤ sumP f n ∧ sumP f n ≤ n * M
  | 0, _ => ⟨Int.le_refl _, by show (0 : Int) ≤ _; omega⟩
  | n + 1, h => by
    have h1 := sumP_le (f := f) (M := M) (n := n) (fun p hp => h p (by omega))
    have h2 := h n (by omega)
    have e : ((n + 1 : Nat) : Int) * M = n * M + M := by rw [Int.natCast_add, Int.add_mul]; omega
    show 0 ≤ sumP f n + f n ∧ sumP f n + f n ≤ _
    rw [e]; omega
theorem lot_b {c : KC} {sky : Nat} {F : ST → Int} {M : Int} (hK : okK c) (hF : ∀ x, okS c x → 0 ≤ F x ∧ F x ≤ M) : ∀ {ms : List Nat} {s : ST}, (∀ m, m ∈ ms → isMv c m = true) → okS c s → 0 ≤ lotF c sky F ms s ∧ lotF c sky F ms s ≤ M * 10 ^ ms.length := by
  intro ms
  have hN := hK.2.2
  induction ms with
  | nil => intro s _ hs; have := hF s hs; exact ⟨this.1, by show F s ≤ M * 1; omega⟩
  | cons m r ih =>
    intro s hm hs
    have ho := hrT_ok (sky := sky) hs (hm m (by simp))
    have hp : (0 : Int) ≤ 10 ^ (r.length + 1) := by
      have : ((10 ^ (r.length + 1) : Nat) : Int) = (10 : Int) ^ (r.length + 1) := by rw [Int.natCast_pow]; rfl
      rw [← this]; exact Int.natCast_nonneg _
    have key : ∀ x, okS c x → 0 ≤ F x * 10 ^ (r.length + 1) ∧ F x * 10 ^ (r.length + 1) ≤ M * 10 ^ (r.length + 1) := fun x hx =>
      ⟨Int.mul_nonneg (hF x hx).1 hp, Int.mul_le_mul_of_nonneg_right (hF x hx).2 hp⟩
    have e : lotF c sky F (m :: r) s = if downB c s then F s * 10 ^ (r.length + 1) else if downB c (hrT c sky s m) then F (hrT c sky s m) * 10 ^ (r.length + 1) else sumP (fun p => lotF c sky F r (weakS (hrT c sky s m) p)) (kN c) + (10 - (kN c : Int)) * lotF c sky F r (hrT c sky s m) := rfl
    rw [e, List.length_cons]
    split
    · exact key s hs
    · split
      · exact key _ ho
      · have h1 := sumP_le (f := fun p => lotF c sky F r (weakS (hrT c sky s m) p)) (M := M * 10 ^ r.length) (n := kN c) (fun p hp => ih (fun m' hm' => hm m' (List.mem_cons_of_mem _ hm')) (weakS_ok ho hp))
        have h2 := ih (s := hrT c sky s m) (fun m' hm' => hm m' (List.mem_cons_of_mem _ hm')) ho
        have h3 : 0 ≤ (10 - (kN c : Int)) * lotF c sky F r (hrT c sky s m) := Int.mul_nonneg (by omega) h2.1
        have h4 : (10 - (kN c : Int)) * lotF c sky F r (hrT c sky s m) ≤ (10 - (kN c : Int)) * (M * 10 ^ r.length) := Int.mul_le_mul_of_nonneg_left h2.2 (by omega)
        have h5 : M * (10 : Int) ^ (r.length + 1) = 10 * (M * 10 ^ r.length) := by rw [Int.pow_succ, ← Int.mul_assoc, Int.mul_comm]
        have h6 : (10 - (kN c : Int)) * (M * 10 ^ r.length) = 10 * (M * 10 ^ r.length) - (kN c : Int) * (M * 10 ^ r.length) := Int.sub_mul _ _ _
        omega
theorem upF_b {c : KC} (x : ST) : 0 ≤ upF c x ∧ upF c x ≤ 9 := by unfold upF; split <;> omega
theorem stF_b {c : KC} (hK : okK c) (x : ST) (hx : okS c x) : 0 ≤ stF c x ∧ stF c x ≤ 9 := by
  have : ∀ n, n ≤ 3 → sumF n x.2.2 ≤ 3 * n := by
    intro n
    induction n with
    | zero => intro _; exact Nat.le_refl _
    | succ n ihn =>
      intro hn
      have := ihn (by omega)
      have h4 := ((okS_R hK hx).1 n).2
      rw [sumF_s]; omega
  have := this (kN c) hK.2.2
  have hN := hK.2.2
  unfold stF
  omega
noncomputable def lotV (c : KC) (sky : Nat) (F : ST → Int) (l : List Int) (s : ST) (what : Int) : Int := frV (lotF c sky F (mvs c l) s).toNat (10 ^ l.length) what
def ansC (c : KC) (sky : Nat) (F : ST → Int) (s : ST) (T : TT) (t what v : Int) : Prop := (lotsC c s T t what ≠ 0 ∧ v = lotsC c s T t what) ∨ (lotsC c s T t what = 0 ∧ ∀ so l, T t.toNat = some (so, l) → v = lotV c sky F l s what)
theorem ansC_uniq {c : KC} {sky : Nat} {F : ST → Int} {s : ST} {T : TT} {t what u v : Int} (h : ansC c sky F s T t what u) (g : ansC c sky F s T t what v) : u = v := by
  rcases h with ⟨h1, h2⟩ | ⟨h1, h2⟩ <;> rcases g with ⟨g1, g2⟩ | ⟨g1, g2⟩
  · rw [h2, g2]
  · exact absurd g1 h1
  · exact absurd h1 g1
  · obtain ⟨tn, so, l, rfl, e1, e2, -⟩ := lotsC_0 h1
    rw [h2 so l e2, g2 so l e2]
theorem mvs_mv {c : KC} {l : List Int} (hK : okK c) (hall : ∀ x, x ∈ l → lotOK c x = true) : ∀ m, m ∈ mvs c l → isMv c m = true := by
  intro m hm
  unfold mvs at hm
  obtain ⟨x, h1, h2⟩ := List.mem_map.mp hm
  have hlo := hall x h1
  unfold lotOK at hlo
  obtain ⟨k, ek⟩ := Option.isSome_iff_exists.mp hlo
  rw [ek] at h2
  have : k = m := h2
  rw [← this]; exact (moveD_some hK ek).1
theorem r_laysLots {h : PH} {c : KC} {s : ST} {sky hrs t so : Nat} {T : TT} {l : List Int} {i : Nat → Int} {A : Nat → Int → Int} (hq : refQ c s sky hrs A) (hT : traR T A) (ht : t < 4) (e : T t = some (so, l)) (hl6 : l.length ≤ 6) (hall : ∀ x, x ∈ l → lotOK c x = true) :
    ∃ j B, sameR A B ∧ frI [31, 32] i j ∧ j 31 = lotF c sky (upF c) (mvs c l) s ∧ j 32 = lotF c sky (stF c) (mvs c l) s ∧ ∀ d Q, WP (d + 19) 285 0 [some (vr 71), some (vi t)] [] (mdH h i A) Q = Q none (mdH h j B) := by
  obtain ⟨hO, hR, hS, hs, hsky⟩ := hq
  have sn := fun (d : Nat) (i : Nat → Int) (Q : PQ) => r_standNow (d := d) (h := h) (i := i) (A := A) (Q := Q) hO.1 hR hS hs
  obtain ⟨j, B, s1, f1, a1, b1, g1⟩ := r_goesLots (h := h) hO hsky ht e hl6 hall l.length 0 s 1 (iup (iup i 31 0) 32 0) A (by omega) hs hR hT hS.2.2.1
  rw [List.drop_zero, Int.one_mul, iup_n (by omega), iup_s, Int.zero_add] at a1
  rw [List.drop_zero, Int.one_mul, iup_s, Int.zero_add] at b1
  refine ⟨j, B, s1, frI_t (frI_t (frI_u (by decide)) (frI_u (by decide))) f1, a1, b1, fun d Q => ?_⟩
  have g1' := fun (Q : PQ) => g1 (d + 12 - 2 * l.length) Q
  rw [show d + 12 - 2 * l.length + (2 * l.length + 6) = d + 18 by omega, nc0] at g1'
  simp (disch := omega) only [e_285_0, e_285_1, e_285_2, e_285_5, e_285_6, e_285_7, e_285_10, e_285_11, e_285_12, e_285_13, e_285_16, e_285_17, e_285_18, e_285_21, sn, g1', mdO_c, mdO_g0, mdO_k0, mdO_g1, mdO_k1, mdO_g2, mdO_k2, mdO_g3, mdO_k3, mdO_g4, mdO_k4, mdO_g5, mdO_k5, mdO_g6, mdO_k6, mdO_g7, mdO_k7, mdO_g8, mdO_k8, mdO_g9, mdO_k9, mdO_g10, mdO_k10, mdO_g11, mdO_k11, mdO_g12, mdO_k12, mdO_g13, mdO_k13, mdO_g14, mdO_k14, mdO_g15, mdO_k15, mdO_g16, mdO_k16, mdO_g17, mdO_k17, mdO_g18, mdO_k18, mdO_g19, mdO_k19, mdO_g20, mdO_k20, mdO_g21, mdO_k21, mdO_g22, mdO_k22, mdO_g23, mdO_k23, mdO_g24, mdO_k24, mdO_g25, mdO_k25, mdO_g26, mdO_k26, mdO_g27, mdO_k27, mdO_g28, mdO_k28, mdO_g29, mdO_k29, mdO_g30, mdO_k30, mdO_g31, mdO_k31, mdO_g32, mdO_k32, mdO_g33, mdO_k33, mdO_g34, mdO_k34, mdO_g35, mdO_k35, mdO_s0, mdO_s5, mdO_s6, mdO_s7, mdO_s8, mdO_s9, mdO_s10, mdO_s11, mdO_s12, mdO_s13, mdO_s14, mdO_s15, mdO_s19, mdO_s20, mdO_s25, mdO_s26, mdO_s31, mdO_s32, md_1, md_2, md_g71, md_g72, md_g73, md_g74, md_g75, md_g76, md_g77, md_g78, md_g79, md_g80, md_g81, md_g82, md_g83, md_g84, md_g85, md_g86, md_g87, md_g88, md_g89, md_out, md_u71, md_u72, md_u73, md_u74, md_u75, md_u76, md_u77, md_u78, md_u79, md_u80, md_u81, md_u82, md_u83, md_u84, md_u85, md_u86, md_u87, md_u88, md_u89, md_uo, iup_s, iup_n, aup_s, aup_n, ne_eq, not_false_eq_true, sh_0, sh_1, sh_2, sh_3, sh_4, sh_5, sh_8, sh_15, sh_16, sh_24, Int.reducePow, Int.cast_ofNat_Int, w_of, wl_of, ltT, ltF, leT, leF, eqT, eqF, okF_0, okF_s, gF_0, gF_s, consC_o, sF_0, sF_s, clsO_o, inA_i, ldA_i, stA_i, inJ_l, ldJ_l, stJ_l, inR_r, ldR_r, stR_r, tgR_r, lenA_i, lenA_l, lenA_r, lenA_ex, nl_i, nl_o, nl_l, nl_n, wd_n, wd_i, wd_l, wd_o, fit_i, fit_l, fit_o, K_v, K_n, true_and, and_true, Nat.reduceAdd, Nat.reduceLeDiff, Nat.reduceEqDiff, Nat.reduceMul, Nat.reduceLT, reduceIte, true_or, or_true, cmp_lt, cmp_gt, cmp_eq, wb_0, b_01, cmp_lt', cmp_gt', cmp_eq', b_0, b_1, wb_1, Int.reduceSub, Int.reduceToNat, List.getD_cons_succ, List.getD_cons_zero, Int.reduceLE, Int.reduceLT, Int.reduceEq, Int.reduceNeg, Int.reduceAdd, Int.reduceMul, and_self, em_b, ne_eq, not_false_eq_true, not_true_eq_false]
theorem lotV_nat {c : KC} {sky : Nat} {F : ST → Int} {l : List Int} {s : ST} (hK : okK c) (hF : ∀ x, okS c x → 0 ≤ F x ∧ F x ≤ 9) (hl6 : l.length ≤ 6) (hall : ∀ x, x ∈ l → lotOK c x = true) (hs : okS c s) : ((lotF c sky F (mvs c l) s).toNat : Int) = lotF c sky F (mvs c l) s ∧ (lotF c sky F (mvs c l) s).toNat < 16777216 ∧ (10 : Nat) ^ l.length < 16777216 ∧ 0 < (10 : Nat) ^ l.length := by
  have h1 := lot_b (sky := sky) hK hF (mvs_mv hK hall) hs
  have h2 : (mvs c l).length = l.length := by unfold mvs; rw [List.length_map]
  have h3 : (10 : Nat) ^ l.length ≤ 10 ^ 6 := Nat.pow_le_pow_right (by decide) hl6
  have h4 : ((10 ^ l.length : Nat) : Int) = (10 : Int) ^ l.length := by rw [Int.natCast_pow]; rfl
  rw [h2] at h1
  have h5 : 0 < (10 : Nat) ^ l.length := Nat.pow_pos (by decide)
  exact ⟨by omega, by omega, by omega, h5⟩
theorem R_chance {h : PH} {c : KC} {s : ST} {sky hrs : Nat} {i : Nat → Int} {A : Nat → Int → Int} {T : TT} {t what : Int} (hq : refQ c s sky hrs A) (hT : traR T A) (h1 : -2147483648 ≤ t) (h2 : t < 2147483648) (h3 : -2147483648 ≤ what) (h4 : what < 2147483648) :
    ∃ v j B, ansC c sky (upF c) s T t what v ∧ qR i A j B ∧ ∀ d Q, WP (d + 51) 286 0 [some (vr 71), some (vi t), some (vi what), none] [] (mdH h i A) Q = Q (some (vi v)) (mdH h j B) := by
  have hq' := hq
  obtain ⟨hO, hR, hS, hs, hsky⟩ := hq
  have ns := fun (d : Nat) (i : Nat → Int) (Q : PQ) => r_noChance (d := d) (h := h) (i := i) (Q := Q) hq' hT h1 h2 h3 h4
  have hb := lotsC_b (c := c) (s := s) (T := T) (t := t) (what := what)
  by_cases q : lotsC c s T t what = 0
  · obtain ⟨tn, so, l, rfl, e1, e2, e3, e4, e5, e6, hw⟩ := lotsC_0 q
    obtain ⟨j, B, s1, f1, a1, b1, g⟩ := r_laysLots (h := h) (i := iup i 0 0) hq' hT e1 e2 e4 e5
    obtain ⟨n1, n2, n3, n4⟩ := lotV_nat (sky := sky) hO.1 (fun x _ => upF_b (c := c) x) e4 e5 hs
    obtain ⟨-, -, e88, -, -⟩ := traR_s (traR_x hT (s1 87 (by omega) (by omega)) (s1 88 (by omega) (by omega)) (s1 89 (by omega) (by omega))) e1 e2
    have wh := fun (d : Nat) (h : PH) (Q : PQ) => r_wholeOf (d := d) (n := l.length) (h := h) (Q := Q) e4
    have ep : (10 : Int) ^ l.length = ((10 ^ l.length : Nat) : Int) := by rw [Int.natCast_pow]; rfl
    have pt := fun (h : PH) (d : Nat) (Q : PQ) => r_part (h := h) n2 n3 n4 hw d Q
    rw [n1] at pt
    rw [q] at ns
    refine ⟨lotV c sky (upF c) l s what, j, B, Or.inr ⟨q, fun so' l' e' => by rw [Int.toNat_natCast, e2] at e'; cases e'; rfl⟩, qR_of (frI_t (frI_u (ks := [0, 31, 32]) (by decide)) (frI_w f1 (by decide))) (frA_s (ks := [76, 77]) s1 (by decide) (by decide)) (by decide) (by decide), fun d Q => ?_⟩
    unfold lotV
    simp (disch := omega) only [e_286_0, e_286_1, e_286_2, e_286_5, e_286_6, e_286_7, e_286_8, e_286_11, e_286_12, e_286_13, e_286_16, e_286_17, e_286_18, e_286_19, e_286_20, e_286_23, e_286_24, e_286_27, e_286_28, e_286_31, e_286_32, e_286_33, e_286_36, e_286_37, e_286_40, ns, g, a1, e88, wh, ep, pt, mdO_c, mdO_g0, mdO_k0, mdO_g1, mdO_k1, mdO_g2, mdO_k2, mdO_g3, mdO_k3, mdO_g4, mdO_k4, mdO_g5, mdO_k5, mdO_g6, mdO_k6, mdO_g7, mdO_k7, mdO_g8, mdO_k8, mdO_g9, mdO_k9, mdO_g10, mdO_k10, mdO_g11, mdO_k11, mdO_g12, mdO_k12, mdO_g13, mdO_k13, mdO_g14, mdO_k14, mdO_g15, mdO_k15, mdO_g16, mdO_k16, mdO_g17, mdO_k17, mdO_g18, mdO_k18, mdO_g19, mdO_k19, mdO_g20, mdO_k20, mdO_g21, mdO_k21, mdO_g22, mdO_k22, mdO_g23, mdO_k23, mdO_g24, mdO_k24, mdO_g25, mdO_k25, mdO_g26, mdO_k26, mdO_g27, mdO_k27, mdO_g28, mdO_k28, mdO_g29, mdO_k29, mdO_g30, mdO_k30, mdO_g31, mdO_k31, mdO_g32, mdO_k32, mdO_g33, mdO_k33, mdO_g34, mdO_k34, mdO_g35, mdO_k35, mdO_s0, mdO_s5, mdO_s6, mdO_s7, mdO_s8, mdO_s9, mdO_s10, mdO_s11, mdO_s12, mdO_s13, mdO_s14, mdO_s15, mdO_s19, mdO_s20, mdO_s25, mdO_s26, mdO_s31, mdO_s32, md_1, md_2, md_g71, md_g72, md_g73, md_g74, md_g75, md_g76, md_g77, md_g78, md_g79, md_g80, md_g81, md_g82, md_g83, md_g84, md_g85, md_g86, md_g87, md_g88, md_g89, md_out, md_u71, md_u72, md_u73, md_u74, md_u75, md_u76, md_u77, md_u78, md_u79, md_u80, md_u81, md_u82, md_u83, md_u84, md_u85, md_u86, md_u87, md_u88, md_u89, md_uo, iup_s, iup_n, aup_s, aup_n, ne_eq, not_false_eq_true, sh_0, sh_1, sh_2, sh_3, sh_4, sh_5, sh_8, sh_15, sh_16, sh_24, Int.reducePow, Int.cast_ofNat_Int, w_of, wl_of, ltT, ltF, leT, leF, eqT, eqF, okF_0, okF_s, gF_0, gF_s, consC_o, sF_0, sF_s, clsO_o, inA_i, ldA_i, stA_i, inJ_l, ldJ_l, stJ_l, inR_r, ldR_r, stR_r, tgR_r, lenA_i, lenA_l, lenA_r, lenA_ex, nl_i, nl_o, nl_l, nl_n, wd_n, wd_i, wd_l, wd_o, fit_i, fit_l, fit_o, K_v, K_n, true_and, and_true, Nat.reduceAdd, Nat.reduceLeDiff, Nat.reduceEqDiff, Nat.reduceMul, Nat.reduceLT, reduceIte, true_or, or_true, cmp_lt, cmp_gt, cmp_eq, wb_0, b_01, cmp_lt', cmp_gt', cmp_eq', b_0, b_1, wb_1, Int.reduceSub, Int.reduceToNat, List.getD_cons_succ, List.getD_cons_zero, Int.reduceLE, Int.reduceLT, Int.reduceEq, Int.reduceNeg, Int.reduceAdd, Int.reduceMul, and_self, em_b, ne_eq, not_false_eq_true, not_true_eq_false]
  · refine ⟨lotsC c s T t what, iup i 0 0, A, Or.inl ⟨q, rfl⟩, qR_of (frI_u (ks := [0]) (by decide)) (frA_r (ks := [])) (by decide) (by decide), fun d Q => ?_⟩
    simp (disch := omega) only [e_286_0, e_286_1, e_286_2, e_286_5, e_286_6, e_286_7, e_286_8, e_286_11, e_286_12, e_286_13, e_286_16, e_286_17, ns, mdO_c, mdO_g0, mdO_k0, mdO_g1, mdO_k1, mdO_g2, mdO_k2, mdO_g3, mdO_k3, mdO_g4, mdO_k4, mdO_g5, mdO_k5, mdO_g6, mdO_k6, mdO_g7, mdO_k7, mdO_g8, mdO_k8, mdO_g9, mdO_k9, mdO_g10, mdO_k10, mdO_g11, mdO_k11, mdO_g12, mdO_k12, mdO_g13, mdO_k13, mdO_g14, mdO_k14, mdO_g15, mdO_k15, mdO_g16, mdO_k16, mdO_g17, mdO_k17, mdO_g18, mdO_k18, mdO_g19, mdO_k19, mdO_g20, mdO_k20, mdO_g21, mdO_k21, mdO_g22, mdO_k22, mdO_g23, mdO_k23, mdO_g24, mdO_k24, mdO_g25, mdO_k25, mdO_g26, mdO_k26, mdO_g27, mdO_k27, mdO_g28, mdO_k28, mdO_g29, mdO_k29, mdO_g30, mdO_k30, mdO_g31, mdO_k31, mdO_g32, mdO_k32, mdO_g33, mdO_k33, mdO_g34, mdO_k34, mdO_g35, mdO_k35, mdO_s0, mdO_s5, mdO_s6, mdO_s7, mdO_s8, mdO_s9, mdO_s10, mdO_s11, mdO_s12, mdO_s13, mdO_s14, mdO_s15, mdO_s19, mdO_s20, mdO_s25, mdO_s26, mdO_s31, mdO_s32, md_1, md_2, md_g71, md_g72, md_g73, md_g74, md_g75, md_g76, md_g77, md_g78, md_g79, md_g80, md_g81, md_g82, md_g83, md_g84, md_g85, md_g86, md_g87, md_g88, md_g89, md_out, md_u71, md_u72, md_u73, md_u74, md_u75, md_u76, md_u77, md_u78, md_u79, md_u80, md_u81, md_u82, md_u83, md_u84, md_u85, md_u86, md_u87, md_u88, md_u89, md_uo, iup_s, iup_n, aup_s, aup_n, ne_eq, not_false_eq_true, sh_0, sh_1, sh_2, sh_3, sh_4, sh_5, sh_8, sh_15, sh_16, sh_24, Int.reducePow, Int.cast_ofNat_Int, w_of, wl_of, ltT, ltF, leT, leF, eqT, eqF, okF_0, okF_s, gF_0, gF_s, consC_o, sF_0, sF_s, clsO_o, inA_i, ldA_i, stA_i, inJ_l, ldJ_l, stJ_l, inR_r, ldR_r, stR_r, tgR_r, lenA_i, lenA_l, lenA_r, lenA_ex, nl_i, nl_o, nl_l, nl_n, wd_n, wd_i, wd_l, wd_o, fit_i, fit_l, fit_o, K_v, K_n, true_and, and_true, Nat.reduceAdd, Nat.reduceLeDiff, Nat.reduceEqDiff, Nat.reduceMul, Nat.reduceLT, reduceIte, true_or, or_true, cmp_lt, cmp_gt, cmp_eq, wb_0, b_01, cmp_lt', cmp_gt', cmp_eq', b_0, b_1, wb_1, Int.reduceSub, Int.reduceToNat, List.getD_cons_succ, List.getD_cons_zero, Int.reduceLE, Int.reduceLT, Int.reduceEq, Int.reduceNeg, Int.reduceAdd, Int.reduceMul, and_self, em_b, ne_eq, not_false_eq_true, not_true_eq_false]
theorem R_mean {h : PH} {c : KC} {s : ST} {sky hrs : Nat} {i : Nat → Int} {A : Nat → Int → Int} {T : TT} {t what : Int} (hq : refQ c s sky hrs A) (hT : traR T A) (h1 : -2147483648 ≤ t) (h2 : t < 2147483648) (h3 : -2147483648 ≤ what) (h4 : what < 2147483648) :
    ∃ v j B, ansC c sky (stF c) s T t what v ∧ qR i A j B ∧ ∀ d Q, WP (d + 51) 287 0 [some (vr 71), some (vi t), some (vi what), none] [] (mdH h i A) Q = Q (some (vi v)) (mdH h j B) := by
  have hq' := hq
  obtain ⟨hO, hR, hS, hs, hsky⟩ := hq
  have ns := fun (d : Nat) (i : Nat → Int) (Q : PQ) => r_noChance (d := d) (h := h) (i := i) (Q := Q) hq' hT h1 h2 h3 h4
  have hb := lotsC_b (c := c) (s := s) (T := T) (t := t) (what := what)
  by_cases q : lotsC c s T t what = 0
  · obtain ⟨tn, so, l, rfl, e1, e2, e3, e4, e5, e6, hw⟩ := lotsC_0 q
    obtain ⟨j, B, s1, f1, a1, b1, g⟩ := r_laysLots (h := h) (i := iup i 0 0) hq' hT e1 e2 e4 e5
    obtain ⟨n1, n2, n3, n4⟩ := lotV_nat (sky := sky) hO.1 (fun x hx => stF_b hO.1 x hx) e4 e5 hs
    obtain ⟨-, -, e88, -, -⟩ := traR_s (traR_x hT (s1 87 (by omega) (by omega)) (s1 88 (by omega) (by omega)) (s1 89 (by omega) (by omega))) e1 e2
    have wh := fun (d : Nat) (h : PH) (Q : PQ) => r_wholeOf (d := d) (n := l.length) (h := h) (Q := Q) e4
    have ep : (10 : Int) ^ l.length = ((10 ^ l.length : Nat) : Int) := by rw [Int.natCast_pow]; rfl
    have pt := fun (h : PH) (d : Nat) (Q : PQ) => r_part (h := h) n2 n3 n4 hw d Q
    rw [n1] at pt
    rw [q] at ns
    refine ⟨lotV c sky (stF c) l s what, j, B, Or.inr ⟨q, fun so' l' e' => by rw [Int.toNat_natCast, e2] at e'; cases e'; rfl⟩, qR_of (frI_t (frI_u (ks := [0, 31, 32]) (by decide)) (frI_w f1 (by decide))) (frA_s (ks := [76, 77]) s1 (by decide) (by decide)) (by decide) (by decide), fun d Q => ?_⟩
    unfold lotV
    simp (disch := omega) only [e_287_0, e_287_1, e_287_2, e_287_5, e_287_6, e_287_7, e_287_8, e_287_11, e_287_12, e_287_13, e_287_16, e_287_17, e_287_18, e_287_19, e_287_20, e_287_23, e_287_24, e_287_27, e_287_28, e_287_31, e_287_32, e_287_33, e_287_36, e_287_37, e_287_40, ns, g, b1, e88, wh, ep, pt, mdO_c, mdO_g0, mdO_k0, mdO_g1, mdO_k1, mdO_g2, mdO_k2, mdO_g3, mdO_k3, mdO_g4, mdO_k4, mdO_g5, mdO_k5, mdO_g6, mdO_k6, mdO_g7, mdO_k7, mdO_g8, mdO_k8, mdO_g9, mdO_k9, mdO_g10, mdO_k10, mdO_g11, mdO_k11, mdO_g12, mdO_k12, mdO_g13, mdO_k13, mdO_g14, mdO_k14, mdO_g15, mdO_k15, mdO_g16, mdO_k16, mdO_g17, mdO_k17, mdO_g18, mdO_k18, mdO_g19, mdO_k19, mdO_g20, mdO_k20, mdO_g21, mdO_k21, mdO_g22, mdO_k22, mdO_g23, mdO_k23, mdO_g24, mdO_k24, mdO_g25, mdO_k25, mdO_g26, mdO_k26, mdO_g27, mdO_k27, mdO_g28, mdO_k28, mdO_g29, mdO_k29, mdO_g30, mdO_k30, mdO_g31, mdO_k31, mdO_g32, mdO_k32, mdO_g33, mdO_k33, mdO_g34, mdO_k34, mdO_g35, mdO_k35, mdO_s0, mdO_s5, mdO_s6, mdO_s7, mdO_s8, mdO_s9, mdO_s10, mdO_s11, mdO_s12, mdO_s13, mdO_s14, mdO_s15, mdO_s19, mdO_s20, mdO_s25, mdO_s26, mdO_s31, mdO_s32, md_1, md_2, md_g71, md_g72, md_g73, md_g74, md_g75, md_g76, md_g77, md_g78, md_g79, md_g80, md_g81, md_g82, md_g83, md_g84, md_g85, md_g86, md_g87, md_g88, md_g89, md_out, md_u71, md_u72, md_u73, md_u74, md_u75, md_u76, md_u77, md_u78, md_u79, md_u80, md_u81, md_u82, md_u83, md_u84, md_u85, md_u86, md_u87, md_u88, md_u89, md_uo, iup_s, iup_n, aup_s, aup_n, ne_eq, not_false_eq_true, sh_0, sh_1, sh_2, sh_3, sh_4, sh_5, sh_8, sh_15, sh_16, sh_24, Int.reducePow, Int.cast_ofNat_Int, w_of, wl_of, ltT, ltF, leT, leF, eqT, eqF, okF_0, okF_s, gF_0, gF_s, consC_o, sF_0, sF_s, clsO_o, inA_i, ldA_i, stA_i, inJ_l, ldJ_l, stJ_l, inR_r, ldR_r, stR_r, tgR_r, lenA_i, lenA_l, lenA_r, lenA_ex, nl_i, nl_o, nl_l, nl_n, wd_n, wd_i, wd_l, wd_o, fit_i, fit_l, fit_o, K_v, K_n, true_and, and_true, Nat.reduceAdd, Nat.reduceLeDiff, Nat.reduceEqDiff, Nat.reduceMul, Nat.reduceLT, reduceIte, true_or, or_true, cmp_lt, cmp_gt, cmp_eq, wb_0, b_01, cmp_lt', cmp_gt', cmp_eq', b_0, b_1, wb_1, Int.reduceSub, Int.reduceToNat, List.getD_cons_succ, List.getD_cons_zero, Int.reduceLE, Int.reduceLT, Int.reduceEq, Int.reduceNeg, Int.reduceAdd, Int.reduceMul, and_self, em_b, ne_eq, not_false_eq_true, not_true_eq_false]
  · refine ⟨lotsC c s T t what, iup i 0 0, A, Or.inl ⟨q, rfl⟩, qR_of (frI_u (ks := [0]) (by decide)) (frA_r (ks := [])) (by decide) (by decide), fun d Q => ?_⟩
    simp (disch := omega) only [e_287_0, e_287_1, e_287_2, e_287_5, e_287_6, e_287_7, e_287_8, e_287_11, e_287_12, e_287_13, e_287_16, e_287_17, ns, mdO_c, mdO_g0, mdO_k0, mdO_g1, mdO_k1, mdO_g2, mdO_k2, mdO_g3, mdO_k3, mdO_g4, mdO_k4, mdO_g5, mdO_k5, mdO_g6, mdO_k6, mdO_g7, mdO_k7, mdO_g8, mdO_k8, mdO_g9, mdO_k9, mdO_g10, mdO_k10, mdO_g11, mdO_k11, mdO_g12, mdO_k12, mdO_g13, mdO_k13, mdO_g14, mdO_k14, mdO_g15, mdO_k15, mdO_g16, mdO_k16, mdO_g17, mdO_k17, mdO_g18, mdO_k18, mdO_g19, mdO_k19, mdO_g20, mdO_k20, mdO_g21, mdO_k21, mdO_g22, mdO_k22, mdO_g23, mdO_k23, mdO_g24, mdO_k24, mdO_g25, mdO_k25, mdO_g26, mdO_k26, mdO_g27, mdO_k27, mdO_g28, mdO_k28, mdO_g29, mdO_k29, mdO_g30, mdO_k30, mdO_g31, mdO_k31, mdO_g32, mdO_k32, mdO_g33, mdO_k33, mdO_g34, mdO_k34, mdO_g35, mdO_k35, mdO_s0, mdO_s5, mdO_s6, mdO_s7, mdO_s8, mdO_s9, mdO_s10, mdO_s11, mdO_s12, mdO_s13, mdO_s14, mdO_s15, mdO_s19, mdO_s20, mdO_s25, mdO_s26, mdO_s31, mdO_s32, md_1, md_2, md_g71, md_g72, md_g73, md_g74, md_g75, md_g76, md_g77, md_g78, md_g79, md_g80, md_g81, md_g82, md_g83, md_g84, md_g85, md_g86, md_g87, md_g88, md_g89, md_out, md_u71, md_u72, md_u73, md_u74, md_u75, md_u76, md_u77, md_u78, md_u79, md_u80, md_u81, md_u82, md_u83, md_u84, md_u85, md_u86, md_u87, md_u88, md_u89, md_uo, iup_s, iup_n, aup_s, aup_n, ne_eq, not_false_eq_true, sh_0, sh_1, sh_2, sh_3, sh_4, sh_5, sh_8, sh_15, sh_16, sh_24, Int.reducePow, Int.cast_ofNat_Int, w_of, wl_of, ltT, ltF, leT, leF, eqT, eqF, okF_0, okF_s, gF_0, gF_s, consC_o, sF_0, sF_s, clsO_o, inA_i, ldA_i, stA_i, inJ_l, ldJ_l, stJ_l, inR_r, ldR_r, stR_r, tgR_r, lenA_i, lenA_l, lenA_r, lenA_ex, nl_i, nl_o, nl_l, nl_n, wd_n, wd_i, wd_l, wd_o, fit_i, fit_l, fit_o, K_v, K_n, true_and, and_true, Nat.reduceAdd, Nat.reduceLeDiff, Nat.reduceEqDiff, Nat.reduceMul, Nat.reduceLT, reduceIte, true_or, or_true, cmp_lt, cmp_gt, cmp_eq, wb_0, b_01, cmp_lt', cmp_gt', cmp_eq', b_0, b_1, wb_1, Int.reduceSub, Int.reduceToNat, List.getD_cons_succ, List.getD_cons_zero, Int.reduceLE, Int.reduceLT, Int.reduceEq, Int.reduceNeg, Int.reduceAdd, Int.reduceMul, and_self, em_b, ne_eq, not_false_eq_true, not_true_eq_false]
