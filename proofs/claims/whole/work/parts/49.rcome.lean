/-! THE REFERENCE: soonest, way, reach, bearers, stands -/
def aimB (c : KC) (k p : Int) : Bool := (decide (0 ≤ k) && decide (k < (kP c : Int))) && (decide (p = -1) || (decide (0 ≤ p) && decide (p < (kN c : Int))))
theorem aimB_iff {c : KC} {k p : Int} : aimB c k p = true ↔ (0 ≤ k ∧ k < (kP c : Int)) ∧ (p = -1 ∨ (0 ≤ p ∧ p < (kN c : Int))) := by
  unfold aimB
  rw [Bool.and_eq_true, Bool.and_eq_true, Bool.or_eq_true, Bool.and_eq_true, decide_eq_true_iff, decide_eq_true_iff, decide_eq_true_iff, decide_eq_true_iff, decide_eq_true_iff]
theorem r_isAim {d : Nat} {h : PH} {i : Nat → Int} {A : Nat → Int → Int} {c : KC} {k p : Int} {Q : PQ} (hK : okK c) (hR : ctyR (A 72) c) (hk1 : -2147483648 ≤ k) (hk2 : k < 2147483648) (hp1 : -2147483648 ≤ p) (hp2 : p < 2147483648) :
    WP (d + 2) 259 0 [some (vr 71), some (vi k), some (vi p)] [] (mdH h i A) Q = Q (some (vi (if aimB c k p then 1 else 0))) (mdH h i A) := by
  have hN := hK.2.2
  have hP := hK.2.1
  have ip := fun (d : Nat) (Q : PQ) => r_isPlace (d := d) (h := h) (i := i) (A := A) (x := k) (Q := Q) hK hR (by omega) (by omega)
  have ik := fun (d : Nat) (Q : PQ) => r_isKin (d := d) (h := h) (i := i) (A := A) (x := p) (Q := Q) hK hR (by omega) (by omega)
  unfold aimB
  by_cases q1 : 0 ≤ k ∧ k < (kP c : Int)
  · have t1 : (0 ≤ k ∧ k ≤ (kP c : Int) - 1) = True := eq_true (by omega)
    simp only [t1, if_true] at ip
    rw [decide_eq_true q1.1, decide_eq_true q1.2, Bool.true_and, Bool.true_and]
    by_cases q2 : p = -1
    · rw [decide_eq_true q2, Bool.true_or]
      simp (disch := omega) only [e_259_0, e_259_1, e_259_2, e_259_3, e_259_6, e_259_9, e_259_10, e_259_11, e_259_14, e_259_15, e_259_16, e_259_17, e_259_20, e_259_23, e_259_24, e_259_27, e_259_28, ip, mdO_c, mdO_g0, mdO_k0, mdO_g1, mdO_k1, mdO_g2, mdO_k2, mdO_g3, mdO_k3, mdO_g4, mdO_k4, mdO_g5, mdO_k5, mdO_g6, mdO_k6, mdO_g7, mdO_k7, mdO_g8, mdO_k8, mdO_g9, mdO_k9, mdO_g10, mdO_k10, mdO_g11, mdO_k11, mdO_g12, mdO_k12, mdO_g13, mdO_k13, mdO_g14, mdO_k14, mdO_g15, mdO_k15, mdO_g16, mdO_k16, mdO_g17, mdO_k17, mdO_g18, mdO_k18, mdO_g19, mdO_k19, mdO_g20, mdO_k20, mdO_g21, mdO_k21, mdO_g22, mdO_k22, mdO_g23, mdO_k23, mdO_g24, mdO_k24, mdO_g25, mdO_k25, mdO_g26, mdO_k26, mdO_g27, mdO_k27, mdO_g28, mdO_k28, mdO_g29, mdO_k29, mdO_g30, mdO_k30, mdO_g31, mdO_k31, mdO_g32, mdO_k32, mdO_g33, mdO_k33, mdO_g34, mdO_k34, mdO_g35, mdO_k35, mdO_s0, mdO_s5, mdO_s6, mdO_s7, mdO_s8, mdO_s9, mdO_s10, mdO_s11, mdO_s12, mdO_s13, mdO_s14, mdO_s15, mdO_s19, mdO_s20, mdO_s25, mdO_s26, mdO_s31, mdO_s32, md_1, md_2, md_g71, md_g72, md_g73, md_g74, md_g75, md_g76, md_g77, md_g78, md_g79, md_g80, md_g81, md_g82, md_g83, md_g84, md_g85, md_g86, md_g87, md_g88, md_g89, md_out, md_u71, md_u72, md_u73, md_u74, md_u75, md_u76, md_u77, md_u78, md_u79, md_u80, md_u81, md_u82, md_u83, md_u84, md_u85, md_u86, md_u87, md_u88, md_u89, md_uo, iup_s, iup_n, aup_s, aup_n, ne_eq, not_false_eq_true, sh_0, sh_1, sh_2, sh_3, sh_4, sh_5, sh_8, sh_15, sh_16, sh_24, Int.reducePow, Int.cast_ofNat_Int, w_of, wl_of, ltT, ltF, leT, leF, eqT, eqF, okF_0, okF_s, gF_0, gF_s, consC_o, sF_0, sF_s, clsO_o, inA_i, ldA_i, stA_i, inJ_l, ldJ_l, stJ_l, inR_r, ldR_r, stR_r, tgR_r, lenA_i, lenA_l, lenA_r, lenA_ex, nl_i, nl_o, nl_l, nl_n, wd_n, wd_i, wd_l, wd_o, fit_i, fit_l, fit_o, K_v, K_n, true_and, and_true, Nat.reduceAdd, Nat.reduceLeDiff, Nat.reduceEqDiff, Nat.reduceMul, Nat.reduceLT, reduceIte, true_or, or_true, cmp_lt, cmp_gt, cmp_eq, wb_0, b_01, cmp_lt', cmp_gt', cmp_eq', b_0, b_1, wb_1, Int.reduceSub, Int.reduceToNat, List.getD_cons_succ, List.getD_cons_zero, Int.reduceLE, Int.reduceLT, Int.reduceEq, Int.reduceNeg, Int.reduceAdd, Int.reduceMul, and_self, em_b, ne_eq, not_false_eq_true, not_true_eq_false]
      try rfl
    · rw [decide_eq_false q2, Bool.false_or]
      by_cases q3 : 0 ≤ p ∧ p < (kN c : Int)
      · have t2 : (0 ≤ p ∧ p ≤ (kN c : Int) - 1) = True := eq_true (by omega)
        simp only [t2, if_true] at ik
        rw [decide_eq_true q3.1, decide_eq_true q3.2]
        simp (disch := omega) only [e_259_0, e_259_1, e_259_2, e_259_3, e_259_6, e_259_9, e_259_10, e_259_11, e_259_14, e_259_15, e_259_16, e_259_17, e_259_20, e_259_23, e_259_24, e_259_27, e_259_28, ip, ik, mdO_c, mdO_g0, mdO_k0, mdO_g1, mdO_k1, mdO_g2, mdO_k2, mdO_g3, mdO_k3, mdO_g4, mdO_k4, mdO_g5, mdO_k5, mdO_g6, mdO_k6, mdO_g7, mdO_k7, mdO_g8, mdO_k8, mdO_g9, mdO_k9, mdO_g10, mdO_k10, mdO_g11, mdO_k11, mdO_g12, mdO_k12, mdO_g13, mdO_k13, mdO_g14, mdO_k14, mdO_g15, mdO_k15, mdO_g16, mdO_k16, mdO_g17, mdO_k17, mdO_g18, mdO_k18, mdO_g19, mdO_k19, mdO_g20, mdO_k20, mdO_g21, mdO_k21, mdO_g22, mdO_k22, mdO_g23, mdO_k23, mdO_g24, mdO_k24, mdO_g25, mdO_k25, mdO_g26, mdO_k26, mdO_g27, mdO_k27, mdO_g28, mdO_k28, mdO_g29, mdO_k29, mdO_g30, mdO_k30, mdO_g31, mdO_k31, mdO_g32, mdO_k32, mdO_g33, mdO_k33, mdO_g34, mdO_k34, mdO_g35, mdO_k35, mdO_s0, mdO_s5, mdO_s6, mdO_s7, mdO_s8, mdO_s9, mdO_s10, mdO_s11, mdO_s12, mdO_s13, mdO_s14, mdO_s15, mdO_s19, mdO_s20, mdO_s25, mdO_s26, mdO_s31, mdO_s32, md_1, md_2, md_g71, md_g72, md_g73, md_g74, md_g75, md_g76, md_g77, md_g78, md_g79, md_g80, md_g81, md_g82, md_g83, md_g84, md_g85, md_g86, md_g87, md_g88, md_g89, md_out, md_u71, md_u72, md_u73, md_u74, md_u75, md_u76, md_u77, md_u78, md_u79, md_u80, md_u81, md_u82, md_u83, md_u84, md_u85, md_u86, md_u87, md_u88, md_u89, md_uo, iup_s, iup_n, aup_s, aup_n, ne_eq, not_false_eq_true, sh_0, sh_1, sh_2, sh_3, sh_4, sh_5, sh_8, sh_15, sh_16, sh_24, Int.reducePow, Int.cast_ofNat_Int, w_of, wl_of, ltT, ltF, leT, leF, eqT, eqF, okF_0, okF_s, gF_0, gF_s, consC_o, sF_0, sF_s, clsO_o, inA_i, ldA_i, stA_i, inJ_l, ldJ_l, stJ_l, inR_r, ldR_r, stR_r, tgR_r, lenA_i, lenA_l, lenA_r, lenA_ex, nl_i, nl_o, nl_l, nl_n, wd_n, wd_i, wd_l, wd_o, fit_i, fit_l, fit_o, K_v, K_n, true_and, and_true, Nat.reduceAdd, Nat.reduceLeDiff, Nat.reduceEqDiff, Nat.reduceMul, Nat.reduceLT, reduceIte, true_or, or_true, cmp_lt, cmp_gt, cmp_eq, wb_0, b_01, cmp_lt', cmp_gt', cmp_eq', b_0, b_1, wb_1, Int.reduceSub, Int.reduceToNat, List.getD_cons_succ, List.getD_cons_zero, Int.reduceLE, Int.reduceLT, Int.reduceEq, Int.reduceNeg, Int.reduceAdd, Int.reduceMul, and_self, em_b, ne_eq, not_false_eq_true, not_true_eq_false]
        try rfl
      · have t2 : (0 ≤ p ∧ p ≤ (kN c : Int) - 1) = False := eq_false (by omega)
        simp only [t2, if_false] at ik
        have t3 : (decide (0 ≤ p) && decide (p < (kN c : Int))) = false := by
          rw [Bool.and_eq_false_iff, decide_eq_false_iff_not, decide_eq_false_iff_not]
          by_cases w : 0 ≤ p
          · right; exact fun z => q3 ⟨w, z⟩
          · left; exact w
        rw [t3]
        clear q3 t3
        simp (disch := omega) only [e_259_0, e_259_1, e_259_2, e_259_3, e_259_6, e_259_9, e_259_10, e_259_11, e_259_14, e_259_15, e_259_16, e_259_17, e_259_20, e_259_23, e_259_24, e_259_27, e_259_28, ip, ik, mdO_c, mdO_g0, mdO_k0, mdO_g1, mdO_k1, mdO_g2, mdO_k2, mdO_g3, mdO_k3, mdO_g4, mdO_k4, mdO_g5, mdO_k5, mdO_g6, mdO_k6, mdO_g7, mdO_k7, mdO_g8, mdO_k8, mdO_g9, mdO_k9, mdO_g10, mdO_k10, mdO_g11, mdO_k11, mdO_g12, mdO_k12, mdO_g13, mdO_k13, mdO_g14, mdO_k14, mdO_g15, mdO_k15, mdO_g16, mdO_k16, mdO_g17, mdO_k17, mdO_g18, mdO_k18, mdO_g19, mdO_k19, mdO_g20, mdO_k20, mdO_g21, mdO_k21, mdO_g22, mdO_k22, mdO_g23, mdO_k23, mdO_g24, mdO_k24, mdO_g25, mdO_k25, mdO_g26, mdO_k26, mdO_g27, mdO_k27, mdO_g28, mdO_k28, mdO_g29, mdO_k29, mdO_g30, mdO_k30, mdO_g31, mdO_k31, mdO_g32, mdO_k32, mdO_g33, mdO_k33, mdO_g34, mdO_k34, mdO_g35, mdO_k35, mdO_s0, mdO_s5, mdO_s6, mdO_s7, mdO_s8, mdO_s9, mdO_s10, mdO_s11, mdO_s12, mdO_s13, mdO_s14, mdO_s15, mdO_s19, mdO_s20, mdO_s25, mdO_s26, mdO_s31, mdO_s32, md_1, md_2, md_g71, md_g72, md_g73, md_g74, md_g75, md_g76, md_g77, md_g78, md_g79, md_g80, md_g81, md_g82, md_g83, md_g84, md_g85, md_g86, md_g87, md_g88, md_g89, md_out, md_u71, md_u72, md_u73, md_u74, md_u75, md_u76, md_u77, md_u78, md_u79, md_u80, md_u81, md_u82, md_u83, md_u84, md_u85, md_u86, md_u87, md_u88, md_u89, md_uo, iup_s, iup_n, aup_s, aup_n, ne_eq, not_false_eq_true, sh_0, sh_1, sh_2, sh_3, sh_4, sh_5, sh_8, sh_15, sh_16, sh_24, Int.reducePow, Int.cast_ofNat_Int, w_of, wl_of, ltT, ltF, leT, leF, eqT, eqF, okF_0, okF_s, gF_0, gF_s, consC_o, sF_0, sF_s, clsO_o, inA_i, ldA_i, stA_i, inJ_l, ldJ_l, stJ_l, inR_r, ldR_r, stR_r, tgR_r, lenA_i, lenA_l, lenA_r, lenA_ex, nl_i, nl_o, nl_l, nl_n, wd_n, wd_i, wd_l, wd_o, fit_i, fit_l, fit_o, K_v, K_n, true_and, and_true, Nat.reduceAdd, Nat.reduceLeDiff, Nat.reduceEqDiff, Nat.reduceMul, Nat.reduceLT, reduceIte, true_or, or_true, cmp_lt, cmp_gt, cmp_eq, wb_0, b_01, cmp_lt', cmp_gt', cmp_eq', b_0, b_1, wb_1, Int.reduceSub, Int.reduceToNat, List.getD_cons_succ, List.getD_cons_zero, Int.reduceLE, Int.reduceLT, Int.reduceEq, Int.reduceNeg, Int.reduceAdd, Int.reduceMul, and_self, em_b, ne_eq, not_false_eq_true, not_true_eq_false]
        try rfl
  · have t1 : (0 ≤ k ∧ k ≤ (kP c : Int) - 1) = False := eq_false (by omega)
    simp only [t1, if_false] at ip
    have t3 : (decide (0 ≤ k) && decide (k < (kP c : Int))) = false := by
      rw [Bool.and_eq_false_iff, decide_eq_false_iff_not, decide_eq_false_iff_not]
      by_cases w : 0 ≤ k
      · right; exact fun z => q1 ⟨w, z⟩
      · left; exact w
    rw [t3, Bool.false_and]
    clear q1 t3 t1
    simp (disch := omega) only [e_259_0, e_259_1, e_259_2, e_259_3, e_259_6, e_259_9, e_259_10, e_259_11, e_259_14, e_259_15, e_259_16, e_259_17, e_259_20, e_259_23, e_259_24, e_259_27, e_259_28, ip, mdO_c, mdO_g0, mdO_k0, mdO_g1, mdO_k1, mdO_g2, mdO_k2, mdO_g3, mdO_k3, mdO_g4, mdO_k4, mdO_g5, mdO_k5, mdO_g6, mdO_k6, mdO_g7, mdO_k7, mdO_g8, mdO_k8, mdO_g9, mdO_k9, mdO_g10, mdO_k10, mdO_g11, mdO_k11, mdO_g12, mdO_k12, mdO_g13, mdO_k13, mdO_g14, mdO_k14, mdO_g15, mdO_k15, mdO_g16, mdO_k16, mdO_g17, mdO_k17, mdO_g18, mdO_k18, mdO_g19, mdO_k19, mdO_g20, mdO_k20, mdO_g21, mdO_k21, mdO_g22, mdO_k22, mdO_g23, mdO_k23, mdO_g24, mdO_k24, mdO_g25, mdO_k25, mdO_g26, mdO_k26, mdO_g27, mdO_k27, mdO_g28, mdO_k28, mdO_g29, mdO_k29, mdO_g30, mdO_k30, mdO_g31, mdO_k31, mdO_g32, mdO_k32, mdO_g33, mdO_k33, mdO_g34, mdO_k34, mdO_g35, mdO_k35, mdO_s0, mdO_s5, mdO_s6, mdO_s7, mdO_s8, mdO_s9, mdO_s10, mdO_s11, mdO_s12, mdO_s13, mdO_s14, mdO_s15, mdO_s19, mdO_s20, mdO_s25, mdO_s26, mdO_s31, mdO_s32, md_1, md_2, md_g71, md_g72, md_g73, md_g74, md_g75, md_g76, md_g77, md_g78, md_g79, md_g80, md_g81, md_g82, md_g83, md_g84, md_g85, md_g86, md_g87, md_g88, md_g89, md_out, md_u71, md_u72, md_u73, md_u74, md_u75, md_u76, md_u77, md_u78, md_u79, md_u80, md_u81, md_u82, md_u83, md_u84, md_u85, md_u86, md_u87, md_u88, md_u89, md_uo, iup_s, iup_n, aup_s, aup_n, ne_eq, not_false_eq_true, sh_0, sh_1, sh_2, sh_3, sh_4, sh_5, sh_8, sh_15, sh_16, sh_24, Int.reducePow, Int.cast_ofNat_Int, w_of, wl_of, ltT, ltF, leT, leF, eqT, eqF, okF_0, okF_s, gF_0, gF_s, consC_o, sF_0, sF_s, clsO_o, inA_i, ldA_i, stA_i, inJ_l, ldJ_l, stJ_l, inR_r, ldR_r, stR_r, tgR_r, lenA_i, lenA_l, lenA_r, lenA_ex, nl_i, nl_o, nl_l, nl_n, wd_n, wd_i, wd_l, wd_o, fit_i, fit_l, fit_o, K_v, K_n, true_and, and_true, Nat.reduceAdd, Nat.reduceLeDiff, Nat.reduceEqDiff, Nat.reduceMul, Nat.reduceLT, reduceIte, true_or, or_true, cmp_lt, cmp_gt, cmp_eq, wb_0, b_01, cmp_lt', cmp_gt', cmp_eq', b_0, b_1, wb_1, Int.reduceSub, Int.reduceToNat, List.getD_cons_succ, List.getD_cons_zero, Int.reduceLE, Int.reduceLT, Int.reduceEq, Int.reduceNeg, Int.reduceAdd, Int.reduceMul, and_self, em_b, ne_eq, not_false_eq_true, not_true_eq_false]
    try rfl
def lenO (o : Option (List Nat)) : Int := match o with
  | some ds => (ds.length : Int)
  | none => -1
def nthO (o : Option (List Nat)) (i : Nat) : Int := match o with
  | some ds => nthA ds i
  | none => -1
def ansS (c : KC) (sky : Nat) (s : ST) (k p v : Int) : Prop := (aimB c k p = false ∧ v = -2) ∨ (aimB c k p = true ∧ ∃ o, comeA c sky (goalP c k.toNat p) s o ∧ v = lenO o)
theorem ansS_uniq {c : KC} {sky : Nat} {s : ST} {k p u v : Int} (h : ansS c sky s k p u) (g : ansS c sky s k p v) : u = v := by
  rcases h with ⟨h1, h2⟩ | ⟨h1, o, h2, h3⟩ <;> rcases g with ⟨g1, g2⟩ | ⟨g1, q, g2, g3⟩
  · rw [h2, g2]
  · rw [h1] at g1; cases g1
  · rw [h1] at g1; cases g1
  · rw [h3, g3, comeA_uniq h2 g2]
def ansW (c : KC) (sky : Nat) (s : ST) (k p i v : Int) : Prop := (aimB c k p = false ∧ v = -2) ∨ (aimB c k p = true ∧ i < 0 ∧ v = -3) ∨ (aimB c k p = true ∧ 0 ≤ i ∧ ∃ o, comeA c sky (goalP c k.toNat p) s o ∧ v = nthO o i.toNat)
theorem ansW_uniq {c : KC} {sky : Nat} {s : ST} {k p i u v : Int} (h : ansW c sky s k p i u) (g : ansW c sky s k p i v) : u = v := by
  rcases h with ⟨h1, h2⟩ | ⟨h1, h2, h3⟩ | ⟨h1, h0, o, h2, h3⟩ <;> rcases g with ⟨g1, g2⟩ | ⟨g1, g2, g3⟩ | ⟨g1, g0, q, g2, g3⟩
  · rw [h2, g2]
  · rw [h1] at g1; cases g1
  · rw [h1] at g1; cases g1
  · rw [h1] at g1; cases g1
  · rw [h3, g3]
  · omega
  · rw [h1] at g1; cases g1
  · omega
  · rw [h3, g3, comeA_uniq h2 g2]
theorem far0D {c : KC} {sky : Nat} {G : ST → Prop} {s : ST} {L : List ST} {f : Int → Int} (h0 : L[0]? = some s) (h : farD c sky G L f) : (0 ≤ f 0 ∧ f 0 ≤ 268435456) ∧ ∃ o, comeA c sky G s o ∧ (if f 0 = 268435456 then -1 else f 0) = lenO o ∧ (o = none ↔ f 0 = 268435456) ∧ (∀ ds, o = some ds → f 0 = ds.length ∧ ds.length ≤ 24000) := by
  rcases h 0 s h0 with ⟨h1, h2⟩ | ⟨v, h1, h2, h3⟩
  · have h1' : f 0 = 268435456 := h1
    rw [h1', if_pos rfl]
    exact ⟨by omega, none, Or.inl ⟨rfl, h2⟩, rfl, ⟨fun _ => rfl, fun _ => rfl⟩, fun ds z => by cases z⟩
  · have h1' : f 0 = v := h1
    obtain ⟨ds, g1, g2⟩ := gp_ex h3
    rw [h1', if_neg (by omega)]
    refine ⟨by omega, some ds, Or.inr ⟨ds, rfl, g1⟩, by show _ = (ds.length : Int); rw [g2], ⟨(fun z => by cases z), fun z => by omega⟩, fun es z => ?_⟩
    cases z
    rw [g2]; exact ⟨rfl, h2⟩
theorem R_soonest {h : PH} {c : KC} {s : ST} {sky hrs : Nat} {i : Nat → Int} {A : Nat → Int → Int} {k p : Int} (hq : refQ c s sky hrs A) (hk1 : -2147483648 ≤ k) (hk2 : k < 2147483648) (hp1 : -2147483648 ≤ p) (hp2 : p < 2147483648) :
    ∃ v j B, ansS c sky s k p v ∧ qR i A j B ∧ ∀ d Q, WP (d + 9) 261 0 [some (vr 71), some (vi k), some (vi p)] [] (mdH h i A) Q = Q (some (vi v)) (mdH h j B) := by
  have hq' := hq
  obtain ⟨hO, hR, hS, hs, hsky⟩ := hq
  have hN := hO.1.2.2
  have hP := hO.1.2.1
  have ia := fun (d : Nat) (i : Nat → Int) (Q : PQ) => r_isAim (d := d) (h := h) (i := i) (A := A) (Q := Q) hO.1 hR hk1 hk2 hp1 hp2
  by_cases ha : aimB c k p = true
  · simp only [ha, if_true] at ia
    obtain ⟨a1, a2⟩ := aimB_iff.mp ha
    obtain ⟨L, j, B, hL, hD, f1, f2, g⟩ := r_laysFar (h := h) (i := iup i 0 0) (q := k.toNat) (p := p) hq' (by omega) (by omega) (by omega)
    rw [show ((k.toNat : Nat) : Int) = k by omega] at g
    obtain ⟨b, o, o1, o2, -⟩ := far0D hL.2.1 hD
    have tf := fun (d : Nat) (h : PH) (Q : PQ) => r_toldFar (d := d) (h := h) (Q := Q) b.1 b.2
    rw [o2] at tf
    refine ⟨lenO o, j, B, Or.inr ⟨ha, o, o1, rfl⟩, qR_of (frI_t (frI_u (ks := [0, 25]) (by decide)) (frI_w f1 (by decide))) f2 (by decide) (by decide), fun d Q => ?_⟩
    simp (disch := omega) only [e_261_0, e_261_1, e_261_2, e_261_5, e_261_6, e_261_7, e_261_8, e_261_11, e_261_14, e_261_15, e_261_16, e_261_17, e_261_20, e_261_23, e_261_26, e_261_28, ia, g, tf, mdO_c, mdO_g0, mdO_k0, mdO_g1, mdO_k1, mdO_g2, mdO_k2, mdO_g3, mdO_k3, mdO_g4, mdO_k4, mdO_g5, mdO_k5, mdO_g6, mdO_k6, mdO_g7, mdO_k7, mdO_g8, mdO_k8, mdO_g9, mdO_k9, mdO_g10, mdO_k10, mdO_g11, mdO_k11, mdO_g12, mdO_k12, mdO_g13, mdO_k13, mdO_g14, mdO_k14, mdO_g15, mdO_k15, mdO_g16, mdO_k16, mdO_g17, mdO_k17, mdO_g18, mdO_k18, mdO_g19, mdO_k19, mdO_g20, mdO_k20, mdO_g21, mdO_k21, mdO_g22, mdO_k22, mdO_g23, mdO_k23, mdO_g24, mdO_k24, mdO_g25, mdO_k25, mdO_g26, mdO_k26, mdO_g27, mdO_k27, mdO_g28, mdO_k28, mdO_g29, mdO_k29, mdO_g30, mdO_k30, mdO_g31, mdO_k31, mdO_g32, mdO_k32, mdO_g33, mdO_k33, mdO_g34, mdO_k34, mdO_g35, mdO_k35, mdO_s0, mdO_s5, mdO_s6, mdO_s7, mdO_s8, mdO_s9, mdO_s10, mdO_s11, mdO_s12, mdO_s13, mdO_s14, mdO_s15, mdO_s19, mdO_s20, mdO_s25, mdO_s26, mdO_s31, mdO_s32, md_1, md_2, md_g71, md_g72, md_g73, md_g74, md_g75, md_g76, md_g77, md_g78, md_g79, md_g80, md_g81, md_g82, md_g83, md_g84, md_g85, md_g86, md_g87, md_g88, md_g89, md_out, md_u71, md_u72, md_u73, md_u74, md_u75, md_u76, md_u77, md_u78, md_u79, md_u80, md_u81, md_u82, md_u83, md_u84, md_u85, md_u86, md_u87, md_u88, md_u89, md_uo, iup_s, iup_n, aup_s, aup_n, ne_eq, not_false_eq_true, sh_0, sh_1, sh_2, sh_3, sh_4, sh_5, sh_8, sh_15, sh_16, sh_24, Int.reducePow, Int.cast_ofNat_Int, w_of, wl_of, ltT, ltF, leT, leF, eqT, eqF, okF_0, okF_s, gF_0, gF_s, consC_o, sF_0, sF_s, clsO_o, inA_i, ldA_i, stA_i, inJ_l, ldJ_l, stJ_l, inR_r, ldR_r, stR_r, tgR_r, lenA_i, lenA_l, lenA_r, lenA_ex, nl_i, nl_o, nl_l, nl_n, wd_n, wd_i, wd_l, wd_o, fit_i, fit_l, fit_o, K_v, K_n, true_and, and_true, Nat.reduceAdd, Nat.reduceLeDiff, Nat.reduceEqDiff, Nat.reduceMul, Nat.reduceLT, reduceIte, true_or, or_true, cmp_lt, cmp_gt, cmp_eq, wb_0, b_01, cmp_lt', cmp_gt', cmp_eq', b_0, b_1, wb_1, Int.reduceSub, Int.reduceToNat, List.getD_cons_succ, List.getD_cons_zero, Int.reduceLE, Int.reduceLT, Int.reduceEq, Int.reduceNeg, Int.reduceAdd, Int.reduceMul, and_self, em_b, ne_eq, not_false_eq_true, not_true_eq_false]
  · have ha' : aimB c k p = false := by simpa using ha
    simp only [ha', if_false, Bool.false_eq_true] at ia
    refine ⟨-2, iup i 0 0, A, Or.inl ⟨ha', rfl⟩, qR_of (frI_u (ks := [0]) (by decide)) (frA_r (ks := [])) (by decide) (by decide), fun d Q => ?_⟩
    simp (disch := omega) only [e_261_0, e_261_1, e_261_2, e_261_5, e_261_6, e_261_7, e_261_8, e_261_11, e_261_14, e_261_15, e_261_16, e_261_17, e_261_20, e_261_23, e_261_26, e_261_28, ia, mdO_c, mdO_g0, mdO_k0, mdO_g1, mdO_k1, mdO_g2, mdO_k2, mdO_g3, mdO_k3, mdO_g4, mdO_k4, mdO_g5, mdO_k5, mdO_g6, mdO_k6, mdO_g7, mdO_k7, mdO_g8, mdO_k8, mdO_g9, mdO_k9, mdO_g10, mdO_k10, mdO_g11, mdO_k11, mdO_g12, mdO_k12, mdO_g13, mdO_k13, mdO_g14, mdO_k14, mdO_g15, mdO_k15, mdO_g16, mdO_k16, mdO_g17, mdO_k17, mdO_g18, mdO_k18, mdO_g19, mdO_k19, mdO_g20, mdO_k20, mdO_g21, mdO_k21, mdO_g22, mdO_k22, mdO_g23, mdO_k23, mdO_g24, mdO_k24, mdO_g25, mdO_k25, mdO_g26, mdO_k26, mdO_g27, mdO_k27, mdO_g28, mdO_k28, mdO_g29, mdO_k29, mdO_g30, mdO_k30, mdO_g31, mdO_k31, mdO_g32, mdO_k32, mdO_g33, mdO_k33, mdO_g34, mdO_k34, mdO_g35, mdO_k35, mdO_s0, mdO_s5, mdO_s6, mdO_s7, mdO_s8, mdO_s9, mdO_s10, mdO_s11, mdO_s12, mdO_s13, mdO_s14, mdO_s15, mdO_s19, mdO_s20, mdO_s25, mdO_s26, mdO_s31, mdO_s32, md_1, md_2, md_g71, md_g72, md_g73, md_g74, md_g75, md_g76, md_g77, md_g78, md_g79, md_g80, md_g81, md_g82, md_g83, md_g84, md_g85, md_g86, md_g87, md_g88, md_g89, md_out, md_u71, md_u72, md_u73, md_u74, md_u75, md_u76, md_u77, md_u78, md_u79, md_u80, md_u81, md_u82, md_u83, md_u84, md_u85, md_u86, md_u87, md_u88, md_u89, md_uo, iup_s, iup_n, aup_s, aup_n, ne_eq, not_false_eq_true, sh_0, sh_1, sh_2, sh_3, sh_4, sh_5, sh_8, sh_15, sh_16, sh_24, Int.reducePow, Int.cast_ofNat_Int, w_of, wl_of, ltT, ltF, leT, leF, eqT, eqF, okF_0, okF_s, gF_0, gF_s, consC_o, sF_0, sF_s, clsO_o, inA_i, ldA_i, stA_i, inJ_l, ldJ_l, stJ_l, inR_r, ldR_r, stR_r, tgR_r, lenA_i, lenA_l, lenA_r, lenA_ex, nl_i, nl_o, nl_l, nl_n, wd_n, wd_i, wd_l, wd_o, fit_i, fit_l, fit_o, K_v, K_n, true_and, and_true, Nat.reduceAdd, Nat.reduceLeDiff, Nat.reduceEqDiff, Nat.reduceMul, Nat.reduceLT, reduceIte, true_or, or_true, cmp_lt, cmp_gt, cmp_eq, wb_0, b_01, cmp_lt', cmp_gt', cmp_eq', b_0, b_1, wb_1, Int.reduceSub, Int.reduceToNat, List.getD_cons_succ, List.getD_cons_zero, Int.reduceLE, Int.reduceLT, Int.reduceEq, Int.reduceNeg, Int.reduceAdd, Int.reduceMul, and_self, em_b, ne_eq, not_false_eq_true, not_true_eq_false]
theorem r_deedAt {h : PH} {c : KC} {sky I : Nat} {s : ST} {G : ST → Prop} {L : List ST} {i : Nat → Int} {A : Nat → Int → Int} {o : Option (List Nat)} (hO : okC c) (hI : I < 2147483648) (hL : laidR c sky 3 false s L i A) (hD : farD c sky G L (A 81)) (ho : comeA c sky G s o) :
    ∀ d Q, WP (d + 1) 260 0 [some (vr 71), some (vi I), none, none, none] [] (mdH h i A) Q = Q (some (vi (nthO o I))) (mdH h i A) := by
  intro d Q
  rcases ho with ⟨rfl, h2⟩ | ⟨ds, rfl, h2⟩
  · show _ = Q (some (vi (-1))) _
    have e : A 81 0 = 268435456 := by
      rcases hD 0 s hL.2.1 with ⟨h1, -⟩ | ⟨v, -, -, h3⟩
      · exact h1
      · exact absurd h3.1 (h2 v)
    simp (disch := omega) only [e_260_0, e_260_1, e_260_2, e_260_3, e_260_4, e_260_5, e_260_8, e_260_9, e_260_10, e_260_13, e_260_14, e_260_17, e_260_18, e_260_19, e_260_21, e_260_24, e_260_25, e_260_27, e_260_28, e_260_29, e_260_31, e_260_34, e_260_35, e_260_38, e_260_39, e_260_40, e_260_43, e_260_46, e_260_49, e_260_50, e_260_51, e_260_54, e_260_56, e_260_59, e_260_60, e_260_61, e_260_64, e_260_66, e_260_67, e_260_68, e_260_70, e_260_71, e_260_72, e_260_73, e_260_76, e_260_79, e_260_80, e, mdO_c, mdO_g0, mdO_k0, mdO_g1, mdO_k1, mdO_g2, mdO_k2, mdO_g3, mdO_k3, mdO_g4, mdO_k4, mdO_g5, mdO_k5, mdO_g6, mdO_k6, mdO_g7, mdO_k7, mdO_g8, mdO_k8, mdO_g9, mdO_k9, mdO_g10, mdO_k10, mdO_g11, mdO_k11, mdO_g12, mdO_k12, mdO_g13, mdO_k13, mdO_g14, mdO_k14, mdO_g15, mdO_k15, mdO_g16, mdO_k16, mdO_g17, mdO_k17, mdO_g18, mdO_k18, mdO_g19, mdO_k19, mdO_g20, mdO_k20, mdO_g21, mdO_k21, mdO_g22, mdO_k22, mdO_g23, mdO_k23, mdO_g24, mdO_k24, mdO_g25, mdO_k25, mdO_g26, mdO_k26, mdO_g27, mdO_k27, mdO_g28, mdO_k28, mdO_g29, mdO_k29, mdO_g30, mdO_k30, mdO_g31, mdO_k31, mdO_g32, mdO_k32, mdO_g33, mdO_k33, mdO_g34, mdO_k34, mdO_g35, mdO_k35, mdO_s0, mdO_s5, mdO_s6, mdO_s7, mdO_s8, mdO_s9, mdO_s10, mdO_s11, mdO_s12, mdO_s13, mdO_s14, mdO_s15, mdO_s19, mdO_s20, mdO_s25, mdO_s26, mdO_s31, mdO_s32, md_1, md_2, md_g71, md_g72, md_g73, md_g74, md_g75, md_g76, md_g77, md_g78, md_g79, md_g80, md_g81, md_g82, md_g83, md_g84, md_g85, md_g86, md_g87, md_g88, md_g89, md_out, md_u71, md_u72, md_u73, md_u74, md_u75, md_u76, md_u77, md_u78, md_u79, md_u80, md_u81, md_u82, md_u83, md_u84, md_u85, md_u86, md_u87, md_u88, md_u89, md_uo, iup_s, iup_n, aup_s, aup_n, ne_eq, not_false_eq_true, sh_0, sh_1, sh_2, sh_3, sh_4, sh_5, sh_8, sh_15, sh_16, sh_24, Int.reducePow, Int.cast_ofNat_Int, w_of, wl_of, ltT, ltF, leT, leF, eqT, eqF, okF_0, okF_s, gF_0, gF_s, consC_o, sF_0, sF_s, clsO_o, inA_i, ldA_i, stA_i, inJ_l, ldJ_l, stJ_l, inR_r, ldR_r, stR_r, tgR_r, lenA_i, lenA_l, lenA_r, lenA_ex, nl_i, nl_o, nl_l, nl_n, wd_n, wd_i, wd_l, wd_o, fit_i, fit_l, fit_o, K_v, K_n, true_and, and_true, Nat.reduceAdd, Nat.reduceLeDiff, Nat.reduceEqDiff, Nat.reduceMul, Nat.reduceLT, reduceIte, true_or, or_true, cmp_lt, cmp_gt, cmp_eq, wb_0, b_01, cmp_lt', cmp_gt', cmp_eq', b_0, b_1, wb_1, Int.reduceSub, Int.reduceToNat, List.getD_cons_succ, List.getD_cons_zero, Int.reduceLE, Int.reduceLT, Int.reduceEq, Int.reduceNeg, Int.reduceAdd, Int.reduceMul, and_self, em_b, ne_eq, not_false_eq_true, not_true_eq_false]
  · have hdl := dst_lt hO.1 (hL.1.2.1 s (List.mem_of_getElem? hL.2.1)) (gp_len h2)
    have h24 := szC_le hO.1
    have := r_deedLp (h := h) hO hI hL hD ds 0 0 s (by omega) (by omega) hL.2.1 h2 d Q none
    rw [Nat.sub_zero, nc0] at this
    show _ = Q (some (vi (nthA ds I))) _
    rw [← this]
    simp (disch := omega) only [e_260_0, e_260_1, e_260_2, e_260_3, mdO_c, mdO_g0, mdO_k0, mdO_g1, mdO_k1, mdO_g2, mdO_k2, mdO_g3, mdO_k3, mdO_g4, mdO_k4, mdO_g5, mdO_k5, mdO_g6, mdO_k6, mdO_g7, mdO_k7, mdO_g8, mdO_k8, mdO_g9, mdO_k9, mdO_g10, mdO_k10, mdO_g11, mdO_k11, mdO_g12, mdO_k12, mdO_g13, mdO_k13, mdO_g14, mdO_k14, mdO_g15, mdO_k15, mdO_g16, mdO_k16, mdO_g17, mdO_k17, mdO_g18, mdO_k18, mdO_g19, mdO_k19, mdO_g20, mdO_k20, mdO_g21, mdO_k21, mdO_g22, mdO_k22, mdO_g23, mdO_k23, mdO_g24, mdO_k24, mdO_g25, mdO_k25, mdO_g26, mdO_k26, mdO_g27, mdO_k27, mdO_g28, mdO_k28, mdO_g29, mdO_k29, mdO_g30, mdO_k30, mdO_g31, mdO_k31, mdO_g32, mdO_k32, mdO_g33, mdO_k33, mdO_g34, mdO_k34, mdO_g35, mdO_k35, mdO_s0, mdO_s5, mdO_s6, mdO_s7, mdO_s8, mdO_s9, mdO_s10, mdO_s11, mdO_s12, mdO_s13, mdO_s14, mdO_s15, mdO_s19, mdO_s20, mdO_s25, mdO_s26, mdO_s31, mdO_s32, md_1, md_2, md_g71, md_g72, md_g73, md_g74, md_g75, md_g76, md_g77, md_g78, md_g79, md_g80, md_g81, md_g82, md_g83, md_g84, md_g85, md_g86, md_g87, md_g88, md_g89, md_out, md_u71, md_u72, md_u73, md_u74, md_u75, md_u76, md_u77, md_u78, md_u79, md_u80, md_u81, md_u82, md_u83, md_u84, md_u85, md_u86, md_u87, md_u88, md_u89, md_uo, iup_s, iup_n, aup_s, aup_n, ne_eq, not_false_eq_true, sh_0, sh_1, sh_2, sh_3, sh_4, sh_5, sh_8, sh_15, sh_16, sh_24, Int.reducePow, Int.cast_ofNat_Int, w_of, wl_of, ltT, ltF, leT, leF, eqT, eqF, okF_0, okF_s, gF_0, gF_s, consC_o, sF_0, sF_s, clsO_o, inA_i, ldA_i, stA_i, inJ_l, ldJ_l, stJ_l, inR_r, ldR_r, stR_r, tgR_r, lenA_i, lenA_l, lenA_r, lenA_ex, nl_i, nl_o, nl_l, nl_n, wd_n, wd_i, wd_l, wd_o, fit_i, fit_l, fit_o, K_v, K_n, true_and, and_true, Nat.reduceAdd, Nat.reduceLeDiff, Nat.reduceEqDiff, Nat.reduceMul, Nat.reduceLT, reduceIte, true_or, or_true, cmp_lt, cmp_gt, cmp_eq, wb_0, b_01, cmp_lt', cmp_gt', cmp_eq', b_0, b_1, wb_1, Int.reduceSub, Int.reduceToNat, List.getD_cons_succ, List.getD_cons_zero, Int.reduceLE, Int.reduceLT, Int.reduceEq, Int.reduceNeg, Int.reduceAdd, Int.reduceMul, and_self, em_b, ne_eq, not_false_eq_true, not_true_eq_false]
theorem R_way {h : PH} {c : KC} {s : ST} {sky hrs : Nat} {i : Nat → Int} {A : Nat → Int → Int} {k p x : Int} (hq : refQ c s sky hrs A) (hk1 : -2147483648 ≤ k) (hk2 : k < 2147483648) (hp1 : -2147483648 ≤ p) (hp2 : p < 2147483648) (hx1 : -2147483648 ≤ x) (hx2 : x < 2147483648) :
    ∃ v j B, ansW c sky s k p x v ∧ qR i A j B ∧ ∀ d Q, WP (d + 9) 262 0 [some (vr 71), some (vi k), some (vi p), some (vi x)] [] (mdH h i A) Q = Q (some (vi v)) (mdH h j B) := by
  have hq' := hq
  obtain ⟨hO, hR, hS, hs, hsky⟩ := hq
  have hN := hO.1.2.2
  have hP := hO.1.2.1
  have ia := fun (d : Nat) (i : Nat → Int) (Q : PQ) => r_isAim (d := d) (h := h) (i := i) (A := A) (Q := Q) hO.1 hR hk1 hk2 hp1 hp2
  have q0 : qR i A (iup i 0 0) A := qR_of (frI_u (ks := [0]) (by decide)) (frA_r (ks := [])) (by decide) (by decide)
  by_cases ha : aimB c k p = true
  · simp only [ha, if_true] at ia
    obtain ⟨a1, a2⟩ := aimB_iff.mp ha
    by_cases hx0 : x < 0
    · refine ⟨-3, iup i 0 0, A, Or.inr (Or.inl ⟨ha, hx0, rfl⟩), q0, fun d Q => ?_⟩
      simp (disch := omega) only [e_262_0, e_262_1, e_262_2, e_262_5, e_262_6, e_262_7, e_262_8, e_262_11, e_262_14, e_262_16, e_262_17, e_262_18, e_262_21, e_262_23, ia, mdO_c, mdO_g0, mdO_k0, mdO_g1, mdO_k1, mdO_g2, mdO_k2, mdO_g3, mdO_k3, mdO_g4, mdO_k4, mdO_g5, mdO_k5, mdO_g6, mdO_k6, mdO_g7, mdO_k7, mdO_g8, mdO_k8, mdO_g9, mdO_k9, mdO_g10, mdO_k10, mdO_g11, mdO_k11, mdO_g12, mdO_k12, mdO_g13, mdO_k13, mdO_g14, mdO_k14, mdO_g15, mdO_k15, mdO_g16, mdO_k16, mdO_g17, mdO_k17, mdO_g18, mdO_k18, mdO_g19, mdO_k19, mdO_g20, mdO_k20, mdO_g21, mdO_k21, mdO_g22, mdO_k22, mdO_g23, mdO_k23, mdO_g24, mdO_k24, mdO_g25, mdO_k25, mdO_g26, mdO_k26, mdO_g27, mdO_k27, mdO_g28, mdO_k28, mdO_g29, mdO_k29, mdO_g30, mdO_k30, mdO_g31, mdO_k31, mdO_g32, mdO_k32, mdO_g33, mdO_k33, mdO_g34, mdO_k34, mdO_g35, mdO_k35, mdO_s0, mdO_s5, mdO_s6, mdO_s7, mdO_s8, mdO_s9, mdO_s10, mdO_s11, mdO_s12, mdO_s13, mdO_s14, mdO_s15, mdO_s19, mdO_s20, mdO_s25, mdO_s26, mdO_s31, mdO_s32, md_1, md_2, md_g71, md_g72, md_g73, md_g74, md_g75, md_g76, md_g77, md_g78, md_g79, md_g80, md_g81, md_g82, md_g83, md_g84, md_g85, md_g86, md_g87, md_g88, md_g89, md_out, md_u71, md_u72, md_u73, md_u74, md_u75, md_u76, md_u77, md_u78, md_u79, md_u80, md_u81, md_u82, md_u83, md_u84, md_u85, md_u86, md_u87, md_u88, md_u89, md_uo, iup_s, iup_n, aup_s, aup_n, ne_eq, not_false_eq_true, sh_0, sh_1, sh_2, sh_3, sh_4, sh_5, sh_8, sh_15, sh_16, sh_24, Int.reducePow, Int.cast_ofNat_Int, w_of, wl_of, ltT, ltF, leT, leF, eqT, eqF, okF_0, okF_s, gF_0, gF_s, consC_o, sF_0, sF_s, clsO_o, inA_i, ldA_i, stA_i, inJ_l, ldJ_l, stJ_l, inR_r, ldR_r, stR_r, tgR_r, lenA_i, lenA_l, lenA_r, lenA_ex, nl_i, nl_o, nl_l, nl_n, wd_n, wd_i, wd_l, wd_o, fit_i, fit_l, fit_o, K_v, K_n, true_and, and_true, Nat.reduceAdd, Nat.reduceLeDiff, Nat.reduceEqDiff, Nat.reduceMul, Nat.reduceLT, reduceIte, true_or, or_true, cmp_lt, cmp_gt, cmp_eq, wb_0, b_01, cmp_lt', cmp_gt', cmp_eq', b_0, b_1, wb_1, Int.reduceSub, Int.reduceToNat, List.getD_cons_succ, List.getD_cons_zero, Int.reduceLE, Int.reduceLT, Int.reduceEq, Int.reduceNeg, Int.reduceAdd, Int.reduceMul, and_self, em_b, ne_eq, not_false_eq_true, not_true_eq_false]
    · obtain ⟨L, j, B, hL, hD, f1, f2, g⟩ := r_laysFar (h := h) (i := iup i 0 0) (q := k.toNat) (p := p) hq' (by omega) (by omega) (by omega)
      rw [show ((k.toNat : Nat) : Int) = k by omega] at g
      obtain ⟨b, o, o1, o2, -⟩ := far0D hL.2.1 hD
      have da := r_deedAt (h := h) (I := x.toNat) hO (by omega) hL hD o1
      rw [show ((x.toNat : Nat) : Int) = x by omega] at da
      refine ⟨nthO o x.toNat, j, B, Or.inr (Or.inr ⟨ha, by omega, o, o1, rfl⟩), qR_of (frI_t (frI_u (ks := [0, 25]) (by decide)) (frI_w f1 (by decide))) f2 (by decide) (by decide), fun d Q => ?_⟩
      simp (disch := omega) only [e_262_0, e_262_1, e_262_2, e_262_5, e_262_6, e_262_7, e_262_8, e_262_11, e_262_14, e_262_16, e_262_17, e_262_18, e_262_21, e_262_23, e_262_24, e_262_25, e_262_26, e_262_27, e_262_30i, e_262_30a, e_262_31, e_262_32, e_262_33, e_262_36, ia, g, da, mdO_c, mdO_g0, mdO_k0, mdO_g1, mdO_k1, mdO_g2, mdO_k2, mdO_g3, mdO_k3, mdO_g4, mdO_k4, mdO_g5, mdO_k5, mdO_g6, mdO_k6, mdO_g7, mdO_k7, mdO_g8, mdO_k8, mdO_g9, mdO_k9, mdO_g10, mdO_k10, mdO_g11, mdO_k11, mdO_g12, mdO_k12, mdO_g13, mdO_k13, mdO_g14, mdO_k14, mdO_g15, mdO_k15, mdO_g16, mdO_k16, mdO_g17, mdO_k17, mdO_g18, mdO_k18, mdO_g19, mdO_k19, mdO_g20, mdO_k20, mdO_g21, mdO_k21, mdO_g22, mdO_k22, mdO_g23, mdO_k23, mdO_g24, mdO_k24, mdO_g25, mdO_k25, mdO_g26, mdO_k26, mdO_g27, mdO_k27, mdO_g28, mdO_k28, mdO_g29, mdO_k29, mdO_g30, mdO_k30, mdO_g31, mdO_k31, mdO_g32, mdO_k32, mdO_g33, mdO_k33, mdO_g34, mdO_k34, mdO_g35, mdO_k35, mdO_s0, mdO_s5, mdO_s6, mdO_s7, mdO_s8, mdO_s9, mdO_s10, mdO_s11, mdO_s12, mdO_s13, mdO_s14, mdO_s15, mdO_s19, mdO_s20, mdO_s25, mdO_s26, mdO_s31, mdO_s32, md_1, md_2, md_g71, md_g72, md_g73, md_g74, md_g75, md_g76, md_g77, md_g78, md_g79, md_g80, md_g81, md_g82, md_g83, md_g84, md_g85, md_g86, md_g87, md_g88, md_g89, md_out, md_u71, md_u72, md_u73, md_u74, md_u75, md_u76, md_u77, md_u78, md_u79, md_u80, md_u81, md_u82, md_u83, md_u84, md_u85, md_u86, md_u87, md_u88, md_u89, md_uo, iup_s, iup_n, aup_s, aup_n, ne_eq, not_false_eq_true, sh_0, sh_1, sh_2, sh_3, sh_4, sh_5, sh_8, sh_15, sh_16, sh_24, Int.reducePow, Int.cast_ofNat_Int, w_of, wl_of, ltT, ltF, leT, leF, eqT, eqF, okF_0, okF_s, gF_0, gF_s, consC_o, sF_0, sF_s, clsO_o, inA_i, ldA_i, stA_i, inJ_l, ldJ_l, stJ_l, inR_r, ldR_r, stR_r, tgR_r, lenA_i, lenA_l, lenA_r, lenA_ex, nl_i, nl_o, nl_l, nl_n, wd_n, wd_i, wd_l, wd_o, fit_i, fit_l, fit_o, K_v, K_n, true_and, and_true, Nat.reduceAdd, Nat.reduceLeDiff, Nat.reduceEqDiff, Nat.reduceMul, Nat.reduceLT, reduceIte, true_or, or_true, cmp_lt, cmp_gt, cmp_eq, wb_0, b_01, cmp_lt', cmp_gt', cmp_eq', b_0, b_1, wb_1, Int.reduceSub, Int.reduceToNat, List.getD_cons_succ, List.getD_cons_zero, Int.reduceLE, Int.reduceLT, Int.reduceEq, Int.reduceNeg, Int.reduceAdd, Int.reduceMul, and_self, em_b, ne_eq, not_false_eq_true, not_true_eq_false]
  · have ha' : aimB c k p = false := by simpa using ha
    simp only [ha', if_false, Bool.false_eq_true] at ia
    refine ⟨-2, iup i 0 0, A, Or.inl ⟨ha', rfl⟩, q0, fun d Q => ?_⟩
    simp (disch := omega) only [e_262_0, e_262_1, e_262_2, e_262_5, e_262_6, e_262_7, e_262_8, e_262_11, e_262_14, e_262_16, ia, mdO_c, mdO_g0, mdO_k0, mdO_g1, mdO_k1, mdO_g2, mdO_k2, mdO_g3, mdO_k3, mdO_g4, mdO_k4, mdO_g5, mdO_k5, mdO_g6, mdO_k6, mdO_g7, mdO_k7, mdO_g8, mdO_k8, mdO_g9, mdO_k9, mdO_g10, mdO_k10, mdO_g11, mdO_k11, mdO_g12, mdO_k12, mdO_g13, mdO_k13, mdO_g14, mdO_k14, mdO_g15, mdO_k15, mdO_g16, mdO_k16, mdO_g17, mdO_k17, mdO_g18, mdO_k18, mdO_g19, mdO_k19, mdO_g20, mdO_k20, mdO_g21, mdO_k21, mdO_g22, mdO_k22, mdO_g23, mdO_k23, mdO_g24, mdO_k24, mdO_g25, mdO_k25, mdO_g26, mdO_k26, mdO_g27, mdO_k27, mdO_g28, mdO_k28, mdO_g29, mdO_k29, mdO_g30, mdO_k30, mdO_g31, mdO_k31, mdO_g32, mdO_k32, mdO_g33, mdO_k33, mdO_g34, mdO_k34, mdO_g35, mdO_k35, mdO_s0, mdO_s5, mdO_s6, mdO_s7, mdO_s8, mdO_s9, mdO_s10, mdO_s11, mdO_s12, mdO_s13, mdO_s14, mdO_s15, mdO_s19, mdO_s20, mdO_s25, mdO_s26, mdO_s31, mdO_s32, md_1, md_2, md_g71, md_g72, md_g73, md_g74, md_g75, md_g76, md_g77, md_g78, md_g79, md_g80, md_g81, md_g82, md_g83, md_g84, md_g85, md_g86, md_g87, md_g88, md_g89, md_out, md_u71, md_u72, md_u73, md_u74, md_u75, md_u76, md_u77, md_u78, md_u79, md_u80, md_u81, md_u82, md_u83, md_u84, md_u85, md_u86, md_u87, md_u88, md_u89, md_uo, iup_s, iup_n, aup_s, aup_n, ne_eq, not_false_eq_true, sh_0, sh_1, sh_2, sh_3, sh_4, sh_5, sh_8, sh_15, sh_16, sh_24, Int.reducePow, Int.cast_ofNat_Int, w_of, wl_of, ltT, ltF, leT, leF, eqT, eqF, okF_0, okF_s, gF_0, gF_s, consC_o, sF_0, sF_s, clsO_o, inA_i, ldA_i, stA_i, inJ_l, ldJ_l, stJ_l, inR_r, ldR_r, stR_r, tgR_r, lenA_i, lenA_l, lenA_r, lenA_ex, nl_i, nl_o, nl_l, nl_n, wd_n, wd_i, wd_l, wd_o, fit_i, fit_l, fit_o, K_v, K_n, true_and, and_true, Nat.reduceAdd, Nat.reduceLeDiff, Nat.reduceEqDiff, Nat.reduceMul, Nat.reduceLT, reduceIte, true_or, or_true, cmp_lt, cmp_gt, cmp_eq, wb_0, b_01, cmp_lt', cmp_gt', cmp_eq', b_0, b_1, wb_1, Int.reduceSub, Int.reduceToNat, List.getD_cons_succ, List.getD_cons_zero, Int.reduceLE, Int.reduceLT, Int.reduceEq, Int.reduceNeg, Int.reduceAdd, Int.reduceMul, and_self, em_b, ne_eq, not_false_eq_true, not_true_eq_false]
/-- all that can be reached -/
def rS (c : KC) (sky : Nat) (s x : ST) : Prop := ∃ n, pth c sky n s x
theorem laid_all {c : KC} {sky : Nat} {s : ST} {L : List ST} {i : Nat → Int} {A : Nat → Int → Int} (hK : okK c) (hL : laidR c sky 3 false s L i A) {x : ST} : x ∈ L ↔ rS c sky s x := by
  constructor
  · exact hL.2.2.2 rfl x
  · rintro ⟨n, hn⟩
    revert x
    induction n with
    | zero => intro x hn; rw [show x = s from hn]; exact List.mem_of_getElem? hL.2.1
    | succ n ih =>
      intro x hn
      obtain ⟨u, y, h1, h2, rfl⟩ := hn
      obtain ⟨m, m1, m2, rfl⟩ := nx_mem.mp h2
      exact (laid_cls hK hL (ih h1) m m1 m2).1
theorem bitsF_tb {n : Nat} {f : Nat → Bool} {i : Nat} : (bitsF n f).testBit i = (decide (i < n) && f i) := by
  rw [Nat.testBit_eq_decide_div_mod_eq]
  by_cases hi : i < n
  · have := encP_digit (B := 2) (n := n) (f := fun i => if f i then 1 else 0) (fun j _ => by split <;> omega) hi
    unfold bitsF
    rw [this]
    cases f i <;> simp [hi]
  · have h1 := bitsF_lt (n := n) (f := f)
    have h2 : 2 ^ n ≤ 2 ^ i := Nat.pow_le_pow_right (by decide) (by omega)
    rw [Nat.div_eq_of_lt (by omega)]
    simp [hi]
theorem bitsF_congr {n : Nat} {f g : Nat → Bool} (h : ∀ i, i < n → f i = g i) : bitsF n f = bitsF n g := by
  unfold bitsF
  exact encP_congr (fun i hi => by rw [h i hi])
theorem bitsF_or {n q : Nat} {f : Nat → Bool} (hn : n ≤ 30) (hq : q < n) : ior (bitsF n f : Int) (1 * 2 ^ sh (q : Int)) = (bitsF n (fun i => f i || decide (i = q)) : Int) := by
  have hl := bitsF_lt (n := n) (f := f)
  have hp : 2 ^ n ≤ 2 ^ 30 := Nat.pow_le_pow_right (by decide) hn
  have hp2 : 2 ^ q ≤ 2 ^ 30 := Nat.pow_le_pow_right (by decide) (by omega)
  rw [sh_nat (by omega), Int.one_mul, castP, ior_nat (by omega) (by omega)]
  congr 1
  apply Nat.eq_of_testBit_eq
  intro i
  rw [Nat.testBit_or, bitsF_tb, bitsF_tb, Nat.testBit_two_pow]
  by_cases e : q = i
  · subst e; simp [hq]
  · have e' : ¬ i = q := fun z => e z.symm
    simp [e, e']
noncomputable def reachV (c : KC) (sky : Nat) (s : ST) : Nat := bitsF 5 (fun q => prB (∃ x, rS c sky s x ∧ downB c x = false ∧ x.2.1 x.1 = q))
noncomputable def bearV (c : KC) (sky : Nat) (s : ST) : Nat := bitsF 3 (fun q => prB (∃ x, rS c sky s x ∧ downB c x = false ∧ x.1 = q))
def ansT (c : KC) (sky : Nat) (s : ST) (v : Int) : Prop := ∃ L : List ST, (L.map (encC c)).Nodup ∧ (∀ x, x ∈ L ↔ rS c sky s x) ∧ v = L.length
theorem ansT_uniq {c : KC} {sky : Nat} {s : ST} {u v : Int} (h : ansT c sky s u) (g : ansT c sky s v) : u = v := by
  obtain ⟨L, h1, h2, h3⟩ := h
  obtain ⟨M, g1, g2, g3⟩ := g
  have a := List.Nodup.length_le_of_subset h1 (l₂ := M.map (encC c)) (fun y hy => by
    obtain ⟨x, x1, x2⟩ := List.mem_map.mp hy
    exact List.mem_map.mpr ⟨x, (g2 x).mpr ((h2 x).mp x1), x2⟩)
  have b := List.Nodup.length_le_of_subset g1 (l₂ := L.map (encC c)) (fun y hy => by
    obtain ⟨x, x1, x2⟩ := List.mem_map.mp hy
    exact List.mem_map.mpr ⟨x, (h2 x).mpr ((g2 x).mp x1), x2⟩)
  rw [List.length_map, List.length_map] at a b
  rw [h3, g3]; omega
theorem R_stands {h : PH} {c : KC} {s : ST} {sky hrs : Nat} {i : Nat → Int} {A : Nat → Int → Int} (hq : refQ c s sky hrs A) :
    ∃ v j B, ansT c sky s v ∧ qR i A j B ∧ ∀ d Q, WP (d + 9) 265 0 [some (vr 71)] [] (mdH h i A) Q = Q (some (vi v)) (mdH h j B) := by
  obtain ⟨hO, hR, hS, hs, hsky⟩ := hq
  obtain ⟨L, j, B, hL, f1, f2, g⟩ := r_lays (h := h) (b := 3) (bt := false) (i := iup i 0 0) hO hsky (by omega) hR hS hs
  simp only [nc3, if_false, Bool.false_eq_true] at g
  have h25 := hL.1.1
  refine ⟨L.length, j, B, ⟨L, stkR_nd hO.1 hL.1, fun x => laid_all hO.1 hL, rfl⟩, qR_of (frI_t (frI_u (ks := [0, 25]) (by decide)) (frI_w f1 (by decide))) f2 (by decide) (by decide), fun d Q => ?_⟩
  simp (disch := omega) only [e_265_0, e_265_1, e_265_2, e_265_5, e_265_6, e_265_7, e_265_8, e_265_11, e_265_12, e_265_15, g, h25, mdO_c, mdO_g0, mdO_k0, mdO_g1, mdO_k1, mdO_g2, mdO_k2, mdO_g3, mdO_k3, mdO_g4, mdO_k4, mdO_g5, mdO_k5, mdO_g6, mdO_k6, mdO_g7, mdO_k7, mdO_g8, mdO_k8, mdO_g9, mdO_k9, mdO_g10, mdO_k10, mdO_g11, mdO_k11, mdO_g12, mdO_k12, mdO_g13, mdO_k13, mdO_g14, mdO_k14, mdO_g15, mdO_k15, mdO_g16, mdO_k16, mdO_g17, mdO_k17, mdO_g18, mdO_k18, mdO_g19, mdO_k19, mdO_g20, mdO_k20, mdO_g21, mdO_k21, mdO_g22, mdO_k22, mdO_g23, mdO_k23, mdO_g24, mdO_k24, mdO_g25, mdO_k25, mdO_g26, mdO_k26, mdO_g27, mdO_k27, mdO_g28, mdO_k28, mdO_g29, mdO_k29, mdO_g30, mdO_k30, mdO_g31, mdO_k31, mdO_g32, mdO_k32, mdO_g33, mdO_k33, mdO_g34, mdO_k34, mdO_g35, mdO_k35, mdO_s0, mdO_s5, mdO_s6, mdO_s7, mdO_s8, mdO_s9, mdO_s10, mdO_s11, mdO_s12, mdO_s13, mdO_s14, mdO_s15, mdO_s19, mdO_s20, mdO_s25, mdO_s26, mdO_s31, mdO_s32, md_1, md_2, md_g71, md_g72, md_g73, md_g74, md_g75, md_g76, md_g77, md_g78, md_g79, md_g80, md_g81, md_g82, md_g83, md_g84, md_g85, md_g86, md_g87, md_g88, md_g89, md_out, md_u71, md_u72, md_u73, md_u74, md_u75, md_u76, md_u77, md_u78, md_u79, md_u80, md_u81, md_u82, md_u83, md_u84, md_u85, md_u86, md_u87, md_u88, md_u89, md_uo, iup_s, iup_n, aup_s, aup_n, ne_eq, not_false_eq_true, sh_0, sh_1, sh_2, sh_3, sh_4, sh_5, sh_8, sh_15, sh_16, sh_24, Int.reducePow, Int.cast_ofNat_Int, w_of, wl_of, ltT, ltF, leT, leF, eqT, eqF, okF_0, okF_s, gF_0, gF_s, consC_o, sF_0, sF_s, clsO_o, inA_i, ldA_i, stA_i, inJ_l, ldJ_l, stJ_l, inR_r, ldR_r, stR_r, tgR_r, lenA_i, lenA_l, lenA_r, lenA_ex, nl_i, nl_o, nl_l, nl_n, wd_n, wd_i, wd_l, wd_o, fit_i, fit_l, fit_o, K_v, K_n, true_and, and_true, Nat.reduceAdd, Nat.reduceLeDiff, Nat.reduceEqDiff, Nat.reduceMul, Nat.reduceLT, reduceIte, true_or, or_true, cmp_lt, cmp_gt, cmp_eq, wb_0, b_01, cmp_lt', cmp_gt', cmp_eq', b_0, b_1, wb_1, Int.reduceSub, Int.reduceToNat, List.getD_cons_succ, List.getD_cons_zero, Int.reduceLE, Int.reduceLT, Int.reduceEq, Int.reduceNeg, Int.reduceAdd, Int.reduceMul, and_self, em_b, ne_eq, not_false_eq_true, not_true_eq_false]
theorem R_reach {h : PH} {c : KC} {s : ST} {sky hrs : Nat} {i : Nat → Int} {A : Nat → Int → Int} (hq : refQ c s sky hrs A) :
    ∃ j B, qR i A j B ∧ ∀ d Q, WP (d + 9) 263 0 [some (vr 71), none, none] [] (mdH h i A) Q = Q (some (vi (reachV c sky s))) (mdH h j B) := by
  obtain ⟨hO, hR, hS, hs, hsky⟩ := hq
  have hK := hO.1
  obtain ⟨L, j, B, hL, f1, f2, g⟩ := r_lays (h := h) (b := 3) (bt := false) (i := iup i 0 0) hO hsky (by omega) hR hS hs
  simp only [nc3, if_false, Bool.false_eq_true] at g
  have h25 := hL.1.1
  have hlen := stkR_len hK hL.1
  have hR2 : ctyR (B 72) c := ctyR_x hR (f2 72 (by decide))
  refine ⟨j, B, qR_of (frI_t (frI_u (ks := [0, 25]) (by decide)) (frI_w f1 (by decide))) f2 (by decide) (by decide), fun d Q => ?_⟩
  have lp : ∀ (r k : Nat), k + r = L.length → WP (d + 9) 263 15 [some (vr 71), some (vi (bitsF 5 (fun q => prB (∃ n x, n < k ∧ L[n]? = some x ∧ downB c x = false ∧ x.2.1 x.1 = q)))), some (vi k)] [] (mdH h j B) Q = Q (some (vi (reachV c sky s))) (mdH h j B) := by
    intro r
    induction r with
    | zero =>
      intro k hk
      have hk' : k = L.length := by omega
      subst hk'
      have e : bitsF 5 (fun q => prB (∃ n x, n < L.length ∧ L[n]? = some x ∧ downB c x = false ∧ x.2.1 x.1 = q)) = reachV c sky s := by
        unfold reachV
        refine bitsF_congr (fun q _ => ?_)
        congr 1
        refine propext ⟨?_, ?_⟩
        · rintro ⟨n, x, -, h2, h3⟩; exact ⟨x, (laid_all hK hL).mp (List.mem_of_getElem? h2), h3⟩
        · rintro ⟨x, h1, h2⟩
          obtain ⟨n, hn⟩ := List.getElem?_of_mem ((laid_all hK hL).mpr h1)
          exact ⟨n, x, (List.getElem?_eq_some_iff.mp hn).1, hn, h2⟩
      rw [e]
      rw [e_263_15]
      simp (disch := omega) only [e_263_16, e_263_17, e_263_20, e_263_64, e_263_65, h25, mdO_c, mdO_g0, mdO_k0, mdO_g1, mdO_k1, mdO_g2, mdO_k2, mdO_g3, mdO_k3, mdO_g4, mdO_k4, mdO_g5, mdO_k5, mdO_g6, mdO_k6, mdO_g7, mdO_k7, mdO_g8, mdO_k8, mdO_g9, mdO_k9, mdO_g10, mdO_k10, mdO_g11, mdO_k11, mdO_g12, mdO_k12, mdO_g13, mdO_k13, mdO_g14, mdO_k14, mdO_g15, mdO_k15, mdO_g16, mdO_k16, mdO_g17, mdO_k17, mdO_g18, mdO_k18, mdO_g19, mdO_k19, mdO_g20, mdO_k20, mdO_g21, mdO_k21, mdO_g22, mdO_k22, mdO_g23, mdO_k23, mdO_g24, mdO_k24, mdO_g25, mdO_k25, mdO_g26, mdO_k26, mdO_g27, mdO_k27, mdO_g28, mdO_k28, mdO_g29, mdO_k29, mdO_g30, mdO_k30, mdO_g31, mdO_k31, mdO_g32, mdO_k32, mdO_g33, mdO_k33, mdO_g34, mdO_k34, mdO_g35, mdO_k35, mdO_s0, mdO_s5, mdO_s6, mdO_s7, mdO_s8, mdO_s9, mdO_s10, mdO_s11, mdO_s12, mdO_s13, mdO_s14, mdO_s15, mdO_s19, mdO_s20, mdO_s25, mdO_s26, mdO_s31, mdO_s32, md_1, md_2, md_g71, md_g72, md_g73, md_g74, md_g75, md_g76, md_g77, md_g78, md_g79, md_g80, md_g81, md_g82, md_g83, md_g84, md_g85, md_g86, md_g87, md_g88, md_g89, md_out, md_u71, md_u72, md_u73, md_u74, md_u75, md_u76, md_u77, md_u78, md_u79, md_u80, md_u81, md_u82, md_u83, md_u84, md_u85, md_u86, md_u87, md_u88, md_u89, md_uo, iup_s, iup_n, aup_s, aup_n, ne_eq, not_false_eq_true, sh_0, sh_1, sh_2, sh_3, sh_4, sh_5, sh_8, sh_15, sh_16, sh_24, Int.reducePow, Int.cast_ofNat_Int, w_of, wl_of, ltT, ltF, leT, leF, eqT, eqF, okF_0, okF_s, gF_0, gF_s, consC_o, sF_0, sF_s, clsO_o, inA_i, ldA_i, stA_i, inJ_l, ldJ_l, stJ_l, inR_r, ldR_r, stR_r, tgR_r, lenA_i, lenA_l, lenA_r, lenA_ex, nl_i, nl_o, nl_l, nl_n, wd_n, wd_i, wd_l, wd_o, fit_i, fit_l, fit_o, K_v, K_n, true_and, and_true, Nat.reduceAdd, Nat.reduceLeDiff, Nat.reduceEqDiff, Nat.reduceMul, Nat.reduceLT, reduceIte, true_or, or_true, cmp_lt, cmp_gt, cmp_eq, wb_0, b_01, cmp_lt', cmp_gt', cmp_eq', b_0, b_1, wb_1, Int.reduceSub, Int.reduceToNat, List.getD_cons_succ, List.getD_cons_zero, Int.reduceLE, Int.reduceLT, Int.reduceEq, Int.reduceNeg, Int.reduceAdd, Int.reduceMul, and_self, em_b, ne_eq, not_false_eq_true, not_true_eq_false]
    | succ r ih =>
      intro k hk
      have hkl : k < L.length := by omega
      have hx : L[k]? = some L[k] := List.getElem?_eq_getElem hkl
      generalize L[k] = x at hx
      have hxo := hL.1.2.1 x (List.mem_of_getElem? hx)
      have hrs := okS_R hK hxo
      have h79 := (hL.1.2.2.1 k x hx).1
      have up := fun (d : Nat) (Q : PQ) => r_isUp (d := d) (h := h) (Q := Q) hK hR2 hL.1 hx
      have hpl := fun (d : Nat) (h : PH) (Q : PQ) => r_placeIn (d := d) (h := h) (Q := Q) hrs (show x.1 < 3 by have := hrs.2; omega)
      have hbr := fun (d : Nat) (h : PH) (Q : PQ) => r_bearerIn (d := d) (h := h) (Q := Q) hrs
      have hbl := bitsF_lt (n := 5) (f := fun q => prB (∃ n x, n < k ∧ L[n]? = some x ∧ downB c x = false ∧ x.2.1 x.1 = q))
      rw [← ih (k + 1) (by omega)]
      by_cases hd : downB c x = true
      · simp only [hd, if_true] at up
        have e : bitsF 5 (fun q => prB (∃ n x, n < k + 1 ∧ L[n]? = some x ∧ downB c x = false ∧ x.2.1 x.1 = q)) = bitsF 5 (fun q => prB (∃ n x, n < k ∧ L[n]? = some x ∧ downB c x = false ∧ x.2.1 x.1 = q)) := by
          refine bitsF_congr (fun q _ => ?_)
          congr 1
          refine propext ⟨?_, ?_⟩
          · rintro ⟨n, y, h1, h2, h3, h4⟩
            by_cases w : n = k
            · subst w; rw [hx] at h2; cases h2; rw [hd] at h3; cases h3
            · exact ⟨n, y, by omega, h2, h3, h4⟩
          · rintro ⟨n, y, h1, h2⟩; exact ⟨n, y, by omega, h2⟩
        rw [e]
        have i0 := ior_0 (a := bitsF 5 (fun q => prB (∃ n x, n < k ∧ L[n]? = some x ∧ downB c x = false ∧ x.2.1 x.1 = q))) (by omega)
        rw [e_263_15]
        simp (disch := omega) only [e_263_16, e_263_17, e_263_20, e_263_23, e_263_24, e_263_25, e_263_26, e_263_29, e_263_32, e_263_33, e_263_34, e_263_37, e_263_38, e_263_39, e_263_40, e_263_43, e_263_44, e_263_45, e_263_48, e_263_51, e_263_52, e_263_55, e_263_56, e_263_57, e_263_58, e_263_61, h25, up, i0, mdO_c, mdO_g0, mdO_k0, mdO_g1, mdO_k1, mdO_g2, mdO_k2, mdO_g3, mdO_k3, mdO_g4, mdO_k4, mdO_g5, mdO_k5, mdO_g6, mdO_k6, mdO_g7, mdO_k7, mdO_g8, mdO_k8, mdO_g9, mdO_k9, mdO_g10, mdO_k10, mdO_g11, mdO_k11, mdO_g12, mdO_k12, mdO_g13, mdO_k13, mdO_g14, mdO_k14, mdO_g15, mdO_k15, mdO_g16, mdO_k16, mdO_g17, mdO_k17, mdO_g18, mdO_k18, mdO_g19, mdO_k19, mdO_g20, mdO_k20, mdO_g21, mdO_k21, mdO_g22, mdO_k22, mdO_g23, mdO_k23, mdO_g24, mdO_k24, mdO_g25, mdO_k25, mdO_g26, mdO_k26, mdO_g27, mdO_k27, mdO_g28, mdO_k28, mdO_g29, mdO_k29, mdO_g30, mdO_k30, mdO_g31, mdO_k31, mdO_g32, mdO_k32, mdO_g33, mdO_k33, mdO_g34, mdO_k34, mdO_g35, mdO_k35, mdO_s0, mdO_s5, mdO_s6, mdO_s7, mdO_s8, mdO_s9, mdO_s10, mdO_s11, mdO_s12, mdO_s13, mdO_s14, mdO_s15, mdO_s19, mdO_s20, mdO_s25, mdO_s26, mdO_s31, mdO_s32, md_1, md_2, md_g71, md_g72, md_g73, md_g74, md_g75, md_g76, md_g77, md_g78, md_g79, md_g80, md_g81, md_g82, md_g83, md_g84, md_g85, md_g86, md_g87, md_g88, md_g89, md_out, md_u71, md_u72, md_u73, md_u74, md_u75, md_u76, md_u77, md_u78, md_u79, md_u80, md_u81, md_u82, md_u83, md_u84, md_u85, md_u86, md_u87, md_u88, md_u89, md_uo, iup_s, iup_n, aup_s, aup_n, ne_eq, not_false_eq_true, sh_0, sh_1, sh_2, sh_3, sh_4, sh_5, sh_8, sh_15, sh_16, sh_24, Int.reducePow, Int.cast_ofNat_Int, w_of, wl_of, ltT, ltF, leT, leF, eqT, eqF, okF_0, okF_s, gF_0, gF_s, consC_o, sF_0, sF_s, clsO_o, inA_i, ldA_i, stA_i, inJ_l, ldJ_l, stJ_l, inR_r, ldR_r, stR_r, tgR_r, lenA_i, lenA_l, lenA_r, lenA_ex, nl_i, nl_o, nl_l, nl_n, wd_n, wd_i, wd_l, wd_o, fit_i, fit_l, fit_o, K_v, K_n, true_and, and_true, Nat.reduceAdd, Nat.reduceLeDiff, Nat.reduceEqDiff, Nat.reduceMul, Nat.reduceLT, reduceIte, true_or, or_true, cmp_lt, cmp_gt, cmp_eq, wb_0, b_01, cmp_lt', cmp_gt', cmp_eq', b_0, b_1, wb_1, Int.reduceSub, Int.reduceToNat, List.getD_cons_succ, List.getD_cons_zero, Int.reduceLE, Int.reduceLT, Int.reduceEq, Int.reduceNeg, Int.reduceAdd, Int.reduceMul, and_self, em_b, ne_eq, not_false_eq_true, not_true_eq_false]
        try rfl
      · have hd' : downB c x = false := by simpa using hd
        simp only [hd', if_false, Bool.false_eq_true] at up
        have hp5 : x.2.1 x.1 < 5 := by
          have h0 := up_kn hd'
          have := (hxo.1 x.1 (bear_lt hxo h0)).1
          have := hK.2.1
          omega
        have io := bitsF_or (n := 5) (q := x.2.1 x.1) (f := fun q => prB (∃ n x, n < k ∧ L[n]? = some x ∧ downB c x = false ∧ x.2.1 x.1 = q)) (by omega) hp5
        have e : bitsF 5 (fun q => prB (∃ n x, n < k + 1 ∧ L[n]? = some x ∧ downB c x = false ∧ x.2.1 x.1 = q)) = bitsF 5 (fun q => prB (∃ n x, n < k ∧ L[n]? = some x ∧ downB c x = false ∧ x.2.1 x.1 = q) || decide (q = x.2.1 x.1)) := by
          refine bitsF_congr (fun q _ => ?_)
          by_cases w : q = x.2.1 x.1
          · rw [decide_eq_true w, Bool.or_true]
            exact prB_T ⟨k, x, by omega, hx, hd', w.symm⟩
          · rw [decide_eq_false w, Bool.or_false]
            congr 1
            refine propext ⟨?_, ?_⟩
            · rintro ⟨n, y, h1, h2, h3, h4⟩
              by_cases w2 : n = k
              · subst w2; rw [hx] at h2; cases h2; exact absurd h4.symm w
              · exact ⟨n, y, by omega, h2, h3, h4⟩
            · rintro ⟨n, y, h1, h2⟩; exact ⟨n, y, by omega, h2⟩
        rw [e]
        simp only [Int.one_mul] at io
        rw [e_263_15]
        simp (disch := omega) only [e_263_16, e_263_17, e_263_20, e_263_23, e_263_24, e_263_25, e_263_26, e_263_29, e_263_32, e_263_33, e_263_34, e_263_37, e_263_38, e_263_39, e_263_40, e_263_43, e_263_44, e_263_45, e_263_48, e_263_51, e_263_52, e_263_55, e_263_56, e_263_57, e_263_58, e_263_61, h25, up, h79, hpl, hbr, Int.one_mul, io, mdO_c, mdO_g0, mdO_k0, mdO_g1, mdO_k1, mdO_g2, mdO_k2, mdO_g3, mdO_k3, mdO_g4, mdO_k4, mdO_g5, mdO_k5, mdO_g6, mdO_k6, mdO_g7, mdO_k7, mdO_g8, mdO_k8, mdO_g9, mdO_k9, mdO_g10, mdO_k10, mdO_g11, mdO_k11, mdO_g12, mdO_k12, mdO_g13, mdO_k13, mdO_g14, mdO_k14, mdO_g15, mdO_k15, mdO_g16, mdO_k16, mdO_g17, mdO_k17, mdO_g18, mdO_k18, mdO_g19, mdO_k19, mdO_g20, mdO_k20, mdO_g21, mdO_k21, mdO_g22, mdO_k22, mdO_g23, mdO_k23, mdO_g24, mdO_k24, mdO_g25, mdO_k25, mdO_g26, mdO_k26, mdO_g27, mdO_k27, mdO_g28, mdO_k28, mdO_g29, mdO_k29, mdO_g30, mdO_k30, mdO_g31, mdO_k31, mdO_g32, mdO_k32, mdO_g33, mdO_k33, mdO_g34, mdO_k34, mdO_g35, mdO_k35, mdO_s0, mdO_s5, mdO_s6, mdO_s7, mdO_s8, mdO_s9, mdO_s10, mdO_s11, mdO_s12, mdO_s13, mdO_s14, mdO_s15, mdO_s19, mdO_s20, mdO_s25, mdO_s26, mdO_s31, mdO_s32, md_1, md_2, md_g71, md_g72, md_g73, md_g74, md_g75, md_g76, md_g77, md_g78, md_g79, md_g80, md_g81, md_g82, md_g83, md_g84, md_g85, md_g86, md_g87, md_g88, md_g89, md_out, md_u71, md_u72, md_u73, md_u74, md_u75, md_u76, md_u77, md_u78, md_u79, md_u80, md_u81, md_u82, md_u83, md_u84, md_u85, md_u86, md_u87, md_u88, md_u89, md_uo, iup_s, iup_n, aup_s, aup_n, ne_eq, not_false_eq_true, sh_0, sh_1, sh_2, sh_3, sh_4, sh_5, sh_8, sh_15, sh_16, sh_24, Int.reducePow, Int.cast_ofNat_Int, w_of, wl_of, ltT, ltF, leT, leF, eqT, eqF, okF_0, okF_s, gF_0, gF_s, consC_o, sF_0, sF_s, clsO_o, inA_i, ldA_i, stA_i, inJ_l, ldJ_l, stJ_l, inR_r, ldR_r, stR_r, tgR_r, lenA_i, lenA_l, lenA_r, lenA_ex, nl_i, nl_o, nl_l, nl_n, wd_n, wd_i, wd_l, wd_o, fit_i, fit_l, fit_o, K_v, K_n, true_and, and_true, Nat.reduceAdd, Nat.reduceLeDiff, Nat.reduceEqDiff, Nat.reduceMul, Nat.reduceLT, reduceIte, true_or, or_true, cmp_lt, cmp_gt, cmp_eq, wb_0, b_01, cmp_lt', cmp_gt', cmp_eq', b_0, b_1, wb_1, Int.reduceSub, Int.reduceToNat, List.getD_cons_succ, List.getD_cons_zero, Int.reduceLE, Int.reduceLT, Int.reduceEq, Int.reduceNeg, Int.reduceAdd, Int.reduceMul, and_self, em_b, ne_eq, not_false_eq_true, not_true_eq_false]
        try rfl
  have e0 : (bitsF 5 (fun q => prB (∃ n x, n < 0 ∧ L[n]? = some x ∧ downB c x = false ∧ x.2.1 x.1 = q)) : Int) = 0 := by
    have : bitsF 5 (fun q => prB (∃ n x, n < 0 ∧ L[n]? = some x ∧ downB c x = false ∧ x.2.1 x.1 = q)) = bitsF 5 (fun _ => false) := bitsF_congr (fun q _ => prB_F (fun ⟨n, x, h1, _⟩ => absurd h1 (by omega)))
    rw [this]; rfl
  have lp0 := lp L.length 0 (by omega)
  rw [e0, nc0] at lp0
  rw [← lp0]
  simp (disch := omega) only [e_263_0, e_263_1, e_263_2, e_263_5, e_263_6, e_263_7, e_263_8, e_263_11, e_263_12, e_263_13, e_263_14, g, mdO_c, mdO_g0, mdO_k0, mdO_g1, mdO_k1, mdO_g2, mdO_k2, mdO_g3, mdO_k3, mdO_g4, mdO_k4, mdO_g5, mdO_k5, mdO_g6, mdO_k6, mdO_g7, mdO_k7, mdO_g8, mdO_k8, mdO_g9, mdO_k9, mdO_g10, mdO_k10, mdO_g11, mdO_k11, mdO_g12, mdO_k12, mdO_g13, mdO_k13, mdO_g14, mdO_k14, mdO_g15, mdO_k15, mdO_g16, mdO_k16, mdO_g17, mdO_k17, mdO_g18, mdO_k18, mdO_g19, mdO_k19, mdO_g20, mdO_k20, mdO_g21, mdO_k21, mdO_g22, mdO_k22, mdO_g23, mdO_k23, mdO_g24, mdO_k24, mdO_g25, mdO_k25, mdO_g26, mdO_k26, mdO_g27, mdO_k27, mdO_g28, mdO_k28, mdO_g29, mdO_k29, mdO_g30, mdO_k30, mdO_g31, mdO_k31, mdO_g32, mdO_k32, mdO_g33, mdO_k33, mdO_g34, mdO_k34, mdO_g35, mdO_k35, mdO_s0, mdO_s5, mdO_s6, mdO_s7, mdO_s8, mdO_s9, mdO_s10, mdO_s11, mdO_s12, mdO_s13, mdO_s14, mdO_s15, mdO_s19, mdO_s20, mdO_s25, mdO_s26, mdO_s31, mdO_s32, md_1, md_2, md_g71, md_g72, md_g73, md_g74, md_g75, md_g76, md_g77, md_g78, md_g79, md_g80, md_g81, md_g82, md_g83, md_g84, md_g85, md_g86, md_g87, md_g88, md_g89, md_out, md_u71, md_u72, md_u73, md_u74, md_u75, md_u76, md_u77, md_u78, md_u79, md_u80, md_u81, md_u82, md_u83, md_u84, md_u85, md_u86, md_u87, md_u88, md_u89, md_uo, iup_s, iup_n, aup_s, aup_n, ne_eq, not_false_eq_true, sh_0, sh_1, sh_2, sh_3, sh_4, sh_5, sh_8, sh_15, sh_16, sh_24, Int.reducePow, Int.cast_ofNat_Int, w_of, wl_of, ltT, ltF, leT, leF, eqT, eqF, okF_0, okF_s, gF_0, gF_s, consC_o, sF_0, sF_s, clsO_o, inA_i, ldA_i, stA_i, inJ_l, ldJ_l, stJ_l, inR_r, ldR_r, stR_r, tgR_r, lenA_i, lenA_l, lenA_r, lenA_ex, nl_i, nl_o, nl_l, nl_n, wd_n, wd_i, wd_l, wd_o, fit_i, fit_l, fit_o, K_v, K_n, true_and, and_true, Nat.reduceAdd, Nat.reduceLeDiff, Nat.reduceEqDiff, Nat.reduceMul, Nat.reduceLT, reduceIte, true_or, or_true, cmp_lt, cmp_gt, cmp_eq, wb_0, b_01, cmp_lt', cmp_gt', cmp_eq', b_0, b_1, wb_1, Int.reduceSub, Int.reduceToNat, List.getD_cons_succ, List.getD_cons_zero, Int.reduceLE, Int.reduceLT, Int.reduceEq, Int.reduceNeg, Int.reduceAdd, Int.reduceMul, and_self, em_b, ne_eq, not_false_eq_true, not_true_eq_false]
theorem R_bearers {h : PH} {c : KC} {s : ST} {sky hrs : Nat} {i : Nat → Int} {A : Nat → Int → Int} (hq : refQ c s sky hrs A) :
    ∃ j B, qR i A j B ∧ ∀ d Q, WP (d + 9) 264 0 [some (vr 71), none, none] [] (mdH h i A) Q = Q (some (vi (bearV c sky s))) (mdH h j B) := by
  obtain ⟨hO, hR, hS, hs, hsky⟩ := hq
  have hK := hO.1
  obtain ⟨L, j, B, hL, f1, f2, g⟩ := r_lays (h := h) (b := 3) (bt := false) (i := iup i 0 0) hO hsky (by omega) hR hS hs
  simp only [nc3, if_false, Bool.false_eq_true] at g
  have h25 := hL.1.1
  have hlen := stkR_len hK hL.1
  have hR2 : ctyR (B 72) c := ctyR_x hR (f2 72 (by decide))
  refine ⟨j, B, qR_of (frI_t (frI_u (ks := [0, 25]) (by decide)) (frI_w f1 (by decide))) f2 (by decide) (by decide), fun d Q => ?_⟩
  have lp : ∀ (r k : Nat), k + r = L.length → WP (d + 9) 264 15 [some (vr 71), some (vi (bitsF 3 (fun q => prB (∃ n x, n < k ∧ L[n]? = some x ∧ downB c x = false ∧ x.1 = q)))), some (vi k)] [] (mdH h j B) Q = Q (some (vi (bearV c sky s))) (mdH h j B) := by
    intro r
    induction r with
    | zero =>
      intro k hk
      have hk' : k = L.length := by omega
      subst hk'
      have e : bitsF 3 (fun q => prB (∃ n x, n < L.length ∧ L[n]? = some x ∧ downB c x = false ∧ x.1 = q)) = bearV c sky s := by
        unfold bearV
        refine bitsF_congr (fun q _ => ?_)
        congr 1
        refine propext ⟨?_, ?_⟩
        · rintro ⟨n, x, -, h2, h3⟩; exact ⟨x, (laid_all hK hL).mp (List.mem_of_getElem? h2), h3⟩
        · rintro ⟨x, h1, h2⟩
          obtain ⟨n, hn⟩ := List.getElem?_of_mem ((laid_all hK hL).mpr h1)
          exact ⟨n, x, (List.getElem?_eq_some_iff.mp hn).1, hn, h2⟩
      rw [e]
      rw [e_264_15]
      simp (disch := omega) only [e_264_16, e_264_17, e_264_20, e_264_55, e_264_56, h25, mdO_c, mdO_g0, mdO_k0, mdO_g1, mdO_k1, mdO_g2, mdO_k2, mdO_g3, mdO_k3, mdO_g4, mdO_k4, mdO_g5, mdO_k5, mdO_g6, mdO_k6, mdO_g7, mdO_k7, mdO_g8, mdO_k8, mdO_g9, mdO_k9, mdO_g10, mdO_k10, mdO_g11, mdO_k11, mdO_g12, mdO_k12, mdO_g13, mdO_k13, mdO_g14, mdO_k14, mdO_g15, mdO_k15, mdO_g16, mdO_k16, mdO_g17, mdO_k17, mdO_g18, mdO_k18, mdO_g19, mdO_k19, mdO_g20, mdO_k20, mdO_g21, mdO_k21, mdO_g22, mdO_k22, mdO_g23, mdO_k23, mdO_g24, mdO_k24, mdO_g25, mdO_k25, mdO_g26, mdO_k26, mdO_g27, mdO_k27, mdO_g28, mdO_k28, mdO_g29, mdO_k29, mdO_g30, mdO_k30, mdO_g31, mdO_k31, mdO_g32, mdO_k32, mdO_g33, mdO_k33, mdO_g34, mdO_k34, mdO_g35, mdO_k35, mdO_s0, mdO_s5, mdO_s6, mdO_s7, mdO_s8, mdO_s9, mdO_s10, mdO_s11, mdO_s12, mdO_s13, mdO_s14, mdO_s15, mdO_s19, mdO_s20, mdO_s25, mdO_s26, mdO_s31, mdO_s32, md_1, md_2, md_g71, md_g72, md_g73, md_g74, md_g75, md_g76, md_g77, md_g78, md_g79, md_g80, md_g81, md_g82, md_g83, md_g84, md_g85, md_g86, md_g87, md_g88, md_g89, md_out, md_u71, md_u72, md_u73, md_u74, md_u75, md_u76, md_u77, md_u78, md_u79, md_u80, md_u81, md_u82, md_u83, md_u84, md_u85, md_u86, md_u87, md_u88, md_u89, md_uo, iup_s, iup_n, aup_s, aup_n, ne_eq, not_false_eq_true, sh_0, sh_1, sh_2, sh_3, sh_4, sh_5, sh_8, sh_15, sh_16, sh_24, Int.reducePow, Int.cast_ofNat_Int, w_of, wl_of, ltT, ltF, leT, leF, eqT, eqF, okF_0, okF_s, gF_0, gF_s, consC_o, sF_0, sF_s, clsO_o, inA_i, ldA_i, stA_i, inJ_l, ldJ_l, stJ_l, inR_r, ldR_r, stR_r, tgR_r, lenA_i, lenA_l, lenA_r, lenA_ex, nl_i, nl_o, nl_l, nl_n, wd_n, wd_i, wd_l, wd_o, fit_i, fit_l, fit_o, K_v, K_n, true_and, and_true, Nat.reduceAdd, Nat.reduceLeDiff, Nat.reduceEqDiff, Nat.reduceMul, Nat.reduceLT, reduceIte, true_or, or_true, cmp_lt, cmp_gt, cmp_eq, wb_0, b_01, cmp_lt', cmp_gt', cmp_eq', b_0, b_1, wb_1, Int.reduceSub, Int.reduceToNat, List.getD_cons_succ, List.getD_cons_zero, Int.reduceLE, Int.reduceLT, Int.reduceEq, Int.reduceNeg, Int.reduceAdd, Int.reduceMul, and_self, em_b, ne_eq, not_false_eq_true, not_true_eq_false]
    | succ r ih =>
      intro k hk
      have hkl : k < L.length := by omega
      have hx : L[k]? = some L[k] := List.getElem?_eq_getElem hkl
      generalize L[k] = x at hx
      have hxo := hL.1.2.1 x (List.mem_of_getElem? hx)
      have hrs := okS_R hK hxo
      have h79 := (hL.1.2.2.1 k x hx).1
      have up := fun (d : Nat) (Q : PQ) => r_isUp (d := d) (h := h) (Q := Q) hK hR2 hL.1 hx
      have hbr := fun (d : Nat) (h : PH) (Q : PQ) => r_bearerIn (d := d) (h := h) (Q := Q) hrs
      have hbl := bitsF_lt (n := 3) (f := fun q => prB (∃ n x, n < k ∧ L[n]? = some x ∧ downB c x = false ∧ x.1 = q))
      rw [← ih (k + 1) (by omega)]
      by_cases hd : downB c x = true
      · simp only [hd, if_true] at up
        have e : bitsF 3 (fun q => prB (∃ n x, n < k + 1 ∧ L[n]? = some x ∧ downB c x = false ∧ x.1 = q)) = bitsF 3 (fun q => prB (∃ n x, n < k ∧ L[n]? = some x ∧ downB c x = false ∧ x.1 = q)) := by
          refine bitsF_congr (fun q _ => ?_)
          congr 1
          refine propext ⟨?_, ?_⟩
          · rintro ⟨n, y, h1, h2, h3, h4⟩
            by_cases w : n = k
            · subst w; rw [hx] at h2; cases h2; rw [hd] at h3; cases h3
            · exact ⟨n, y, by omega, h2, h3, h4⟩
          · rintro ⟨n, y, h1, h2⟩; exact ⟨n, y, by omega, h2⟩
        rw [e]
        have i0 := ior_0 (a := bitsF 3 (fun q => prB (∃ n x, n < k ∧ L[n]? = some x ∧ downB c x = false ∧ x.1 = q))) (by omega)
        rw [e_264_15]
        simp (disch := omega) only [e_264_16, e_264_17, e_264_20, e_264_23, e_264_24, e_264_25, e_264_26, e_264_29, e_264_32, e_264_33, e_264_34, e_264_37, e_264_38, e_264_39, e_264_42, e_264_43, e_264_46, e_264_47, e_264_48, e_264_49, e_264_52, h25, up, i0, mdO_c, mdO_g0, mdO_k0, mdO_g1, mdO_k1, mdO_g2, mdO_k2, mdO_g3, mdO_k3, mdO_g4, mdO_k4, mdO_g5, mdO_k5, mdO_g6, mdO_k6, mdO_g7, mdO_k7, mdO_g8, mdO_k8, mdO_g9, mdO_k9, mdO_g10, mdO_k10, mdO_g11, mdO_k11, mdO_g12, mdO_k12, mdO_g13, mdO_k13, mdO_g14, mdO_k14, mdO_g15, mdO_k15, mdO_g16, mdO_k16, mdO_g17, mdO_k17, mdO_g18, mdO_k18, mdO_g19, mdO_k19, mdO_g20, mdO_k20, mdO_g21, mdO_k21, mdO_g22, mdO_k22, mdO_g23, mdO_k23, mdO_g24, mdO_k24, mdO_g25, mdO_k25, mdO_g26, mdO_k26, mdO_g27, mdO_k27, mdO_g28, mdO_k28, mdO_g29, mdO_k29, mdO_g30, mdO_k30, mdO_g31, mdO_k31, mdO_g32, mdO_k32, mdO_g33, mdO_k33, mdO_g34, mdO_k34, mdO_g35, mdO_k35, mdO_s0, mdO_s5, mdO_s6, mdO_s7, mdO_s8, mdO_s9, mdO_s10, mdO_s11, mdO_s12, mdO_s13, mdO_s14, mdO_s15, mdO_s19, mdO_s20, mdO_s25, mdO_s26, mdO_s31, mdO_s32, md_1, md_2, md_g71, md_g72, md_g73, md_g74, md_g75, md_g76, md_g77, md_g78, md_g79, md_g80, md_g81, md_g82, md_g83, md_g84, md_g85, md_g86, md_g87, md_g88, md_g89, md_out, md_u71, md_u72, md_u73, md_u74, md_u75, md_u76, md_u77, md_u78, md_u79, md_u80, md_u81, md_u82, md_u83, md_u84, md_u85, md_u86, md_u87, md_u88, md_u89, md_uo, iup_s, iup_n, aup_s, aup_n, ne_eq, not_false_eq_true, sh_0, sh_1, sh_2, sh_3, sh_4, sh_5, sh_8, sh_15, sh_16, sh_24, Int.reducePow, Int.cast_ofNat_Int, w_of, wl_of, ltT, ltF, leT, leF, eqT, eqF, okF_0, okF_s, gF_0, gF_s, consC_o, sF_0, sF_s, clsO_o, inA_i, ldA_i, stA_i, inJ_l, ldJ_l, stJ_l, inR_r, ldR_r, stR_r, tgR_r, lenA_i, lenA_l, lenA_r, lenA_ex, nl_i, nl_o, nl_l, nl_n, wd_n, wd_i, wd_l, wd_o, fit_i, fit_l, fit_o, K_v, K_n, true_and, and_true, Nat.reduceAdd, Nat.reduceLeDiff, Nat.reduceEqDiff, Nat.reduceMul, Nat.reduceLT, reduceIte, true_or, or_true, cmp_lt, cmp_gt, cmp_eq, wb_0, b_01, cmp_lt', cmp_gt', cmp_eq', b_0, b_1, wb_1, Int.reduceSub, Int.reduceToNat, List.getD_cons_succ, List.getD_cons_zero, Int.reduceLE, Int.reduceLT, Int.reduceEq, Int.reduceNeg, Int.reduceAdd, Int.reduceMul, and_self, em_b, ne_eq, not_false_eq_true, not_true_eq_false]
        try rfl
      · have hd' : downB c x = false := by simpa using hd
        simp only [hd', if_false, Bool.false_eq_true] at up
        have hp3 : x.1 < 3 := by have := hrs.2; omega
        have io := bitsF_or (n := 3) (q := x.1) (f := fun q => prB (∃ n x, n < k ∧ L[n]? = some x ∧ downB c x = false ∧ x.1 = q)) (by omega) hp3
        have e : bitsF 3 (fun q => prB (∃ n x, n < k + 1 ∧ L[n]? = some x ∧ downB c x = false ∧ x.1 = q)) = bitsF 3 (fun q => prB (∃ n x, n < k ∧ L[n]? = some x ∧ downB c x = false ∧ x.1 = q) || decide (q = x.1)) := by
          refine bitsF_congr (fun q _ => ?_)
          by_cases w : q = x.1
          · rw [decide_eq_true w, Bool.or_true]
            exact prB_T ⟨k, x, by omega, hx, hd', w.symm⟩
          · rw [decide_eq_false w, Bool.or_false]
            congr 1
            refine propext ⟨?_, ?_⟩
            · rintro ⟨n, y, h1, h2, h3, h4⟩
              by_cases w2 : n = k
              · subst w2; rw [hx] at h2; cases h2; exact absurd h4.symm w
              · exact ⟨n, y, by omega, h2, h3, h4⟩
            · rintro ⟨n, y, h1, h2⟩; exact ⟨n, y, by omega, h2⟩
        rw [e]
        simp only [Int.one_mul] at io
        rw [e_264_15]
        simp (disch := omega) only [e_264_16, e_264_17, e_264_20, e_264_23, e_264_24, e_264_25, e_264_26, e_264_29, e_264_32, e_264_33, e_264_34, e_264_37, e_264_38, e_264_39, e_264_42, e_264_43, e_264_46, e_264_47, e_264_48, e_264_49, e_264_52, h25, up, h79, hbr, Int.one_mul, io, mdO_c, mdO_g0, mdO_k0, mdO_g1, mdO_k1, mdO_g2, mdO_k2, mdO_g3, mdO_k3, mdO_g4, mdO_k4, mdO_g5, mdO_k5, mdO_g6, mdO_k6, mdO_g7, mdO_k7, mdO_g8, mdO_k8, mdO_g9, mdO_k9, mdO_g10, mdO_k10, mdO_g11, mdO_k11, mdO_g12, mdO_k12, mdO_g13, mdO_k13, mdO_g14, mdO_k14, mdO_g15, mdO_k15, mdO_g16, mdO_k16, mdO_g17, mdO_k17, mdO_g18, mdO_k18, mdO_g19, mdO_k19, mdO_g20, mdO_k20, mdO_g21, mdO_k21, mdO_g22, mdO_k22, mdO_g23, mdO_k23, mdO_g24, mdO_k24, mdO_g25, mdO_k25, mdO_g26, mdO_k26, mdO_g27, mdO_k27, mdO_g28, mdO_k28, mdO_g29, mdO_k29, mdO_g30, mdO_k30, mdO_g31, mdO_k31, mdO_g32, mdO_k32, mdO_g33, mdO_k33, mdO_g34, mdO_k34, mdO_g35, mdO_k35, mdO_s0, mdO_s5, mdO_s6, mdO_s7, mdO_s8, mdO_s9, mdO_s10, mdO_s11, mdO_s12, mdO_s13, mdO_s14, mdO_s15, mdO_s19, mdO_s20, mdO_s25, mdO_s26, mdO_s31, mdO_s32, md_1, md_2, md_g71, md_g72, md_g73, md_g74, md_g75, md_g76, md_g77, md_g78, md_g79, md_g80, md_g81, md_g82, md_g83, md_g84, md_g85, md_g86, md_g87, md_g88, md_g89, md_out, md_u71, md_u72, md_u73, md_u74, md_u75, md_u76, md_u77, md_u78, md_u79, md_u80, md_u81, md_u82, md_u83, md_u84, md_u85, md_u86, md_u87, md_u88, md_u89, md_uo, iup_s, iup_n, aup_s, aup_n, ne_eq, not_false_eq_true, sh_0, sh_1, sh_2, sh_3, sh_4, sh_5, sh_8, sh_15, sh_16, sh_24, Int.reducePow, Int.cast_ofNat_Int, w_of, wl_of, ltT, ltF, leT, leF, eqT, eqF, okF_0, okF_s, gF_0, gF_s, consC_o, sF_0, sF_s, clsO_o, inA_i, ldA_i, stA_i, inJ_l, ldJ_l, stJ_l, inR_r, ldR_r, stR_r, tgR_r, lenA_i, lenA_l, lenA_r, lenA_ex, nl_i, nl_o, nl_l, nl_n, wd_n, wd_i, wd_l, wd_o, fit_i, fit_l, fit_o, K_v, K_n, true_and, and_true, Nat.reduceAdd, Nat.reduceLeDiff, Nat.reduceEqDiff, Nat.reduceMul, Nat.reduceLT, reduceIte, true_or, or_true, cmp_lt, cmp_gt, cmp_eq, wb_0, b_01, cmp_lt', cmp_gt', cmp_eq', b_0, b_1, wb_1, Int.reduceSub, Int.reduceToNat, List.getD_cons_succ, List.getD_cons_zero, Int.reduceLE, Int.reduceLT, Int.reduceEq, Int.reduceNeg, Int.reduceAdd, Int.reduceMul, and_self, em_b, ne_eq, not_false_eq_true, not_true_eq_false]
        try rfl
  have e0 : (bitsF 3 (fun q => prB (∃ n x, n < 0 ∧ L[n]? = some x ∧ downB c x = false ∧ x.1 = q)) : Int) = 0 := by
    have : bitsF 3 (fun q => prB (∃ n x, n < 0 ∧ L[n]? = some x ∧ downB c x = false ∧ x.1 = q)) = bitsF 3 (fun _ => false) := bitsF_congr (fun q _ => prB_F (fun ⟨n, x, h1, _⟩ => absurd h1 (by omega)))
    rw [this]; rfl
  have lp0 := lp L.length 0 (by omega)
  rw [e0, nc0] at lp0
  rw [← lp0]
  simp (disch := omega) only [e_264_0, e_264_1, e_264_2, e_264_5, e_264_6, e_264_7, e_264_8, e_264_11, e_264_12, e_264_13, e_264_14, g, mdO_c, mdO_g0, mdO_k0, mdO_g1, mdO_k1, mdO_g2, mdO_k2, mdO_g3, mdO_k3, mdO_g4, mdO_k4, mdO_g5, mdO_k5, mdO_g6, mdO_k6, mdO_g7, mdO_k7, mdO_g8, mdO_k8, mdO_g9, mdO_k9, mdO_g10, mdO_k10, mdO_g11, mdO_k11, mdO_g12, mdO_k12, mdO_g13, mdO_k13, mdO_g14, mdO_k14, mdO_g15, mdO_k15, mdO_g16, mdO_k16, mdO_g17, mdO_k17, mdO_g18, mdO_k18, mdO_g19, mdO_k19, mdO_g20, mdO_k20, mdO_g21, mdO_k21, mdO_g22, mdO_k22, mdO_g23, mdO_k23, mdO_g24, mdO_k24, mdO_g25, mdO_k25, mdO_g26, mdO_k26, mdO_g27, mdO_k27, mdO_g28, mdO_k28, mdO_g29, mdO_k29, mdO_g30, mdO_k30, mdO_g31, mdO_k31, mdO_g32, mdO_k32, mdO_g33, mdO_k33, mdO_g34, mdO_k34, mdO_g35, mdO_k35, mdO_s0, mdO_s5, mdO_s6, mdO_s7, mdO_s8, mdO_s9, mdO_s10, mdO_s11, mdO_s12, mdO_s13, mdO_s14, mdO_s15, mdO_s19, mdO_s20, mdO_s25, mdO_s26, mdO_s31, mdO_s32, md_1, md_2, md_g71, md_g72, md_g73, md_g74, md_g75, md_g76, md_g77, md_g78, md_g79, md_g80, md_g81, md_g82, md_g83, md_g84, md_g85, md_g86, md_g87, md_g88, md_g89, md_out, md_u71, md_u72, md_u73, md_u74, md_u75, md_u76, md_u77, md_u78, md_u79, md_u80, md_u81, md_u82, md_u83, md_u84, md_u85, md_u86, md_u87, md_u88, md_u89, md_uo, iup_s, iup_n, aup_s, aup_n, ne_eq, not_false_eq_true, sh_0, sh_1, sh_2, sh_3, sh_4, sh_5, sh_8, sh_15, sh_16, sh_24, Int.reducePow, Int.cast_ofNat_Int, w_of, wl_of, ltT, ltF, leT, leF, eqT, eqF, okF_0, okF_s, gF_0, gF_s, consC_o, sF_0, sF_s, clsO_o, inA_i, ldA_i, stA_i, inJ_l, ldJ_l, stJ_l, inR_r, ldR_r, stR_r, tgR_r, lenA_i, lenA_l, lenA_r, lenA_ex, nl_i, nl_o, nl_l, nl_n, wd_n, wd_i, wd_l, wd_o, fit_i, fit_l, fit_o, K_v, K_n, true_and, and_true, Nat.reduceAdd, Nat.reduceLeDiff, Nat.reduceEqDiff, Nat.reduceMul, Nat.reduceLT, reduceIte, true_or, or_true, cmp_lt, cmp_gt, cmp_eq, wb_0, b_01, cmp_lt', cmp_gt', cmp_eq', b_0, b_1, wb_1, Int.reduceSub, Int.reduceToNat, List.getD_cons_succ, List.getD_cons_zero, Int.reduceLE, Int.reduceLT, Int.reduceEq, Int.reduceNeg, Int.reduceAdd, Int.reduceMul, and_self, em_b, ne_eq, not_false_eq_true, not_true_eq_false]
