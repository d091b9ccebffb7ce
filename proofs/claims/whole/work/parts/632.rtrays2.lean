/-! THE REFERENCE: write, lists, image, restore, feed -/
noncomputable def writeF (M : MS) (t x v : Int) : Int × MS := if 0 ≤ t ∧ t ≤ 3 then (match mT M t.toNat with | none => (-6, M) | some (so, l) => if 0 ≤ x ∧ x < (l.length : Int) then (cutV so v, setT M (upT (mT M) t.toNat (some (so, l.set x.toNat (cutV so v))))) else (-7, M)) else (-2, M)
theorem traR_set {T : TT} {A B : Nat → Int → Int} {t so k : Nat} {l : List Int} {x : Int} (hT : traR T A) (ht : t < 4) (e : T t = some (so, l)) (hk : k < l.length) (hx : i64 x) (h1 : B 87 = A 87) (h2 : B 88 = A 88) (h3 : B 89 = fset (A 89) ((40 * t + k : Nat) : Int) x) : traR (upT T t (some (so, l.set k x))) B := by
  intro j hj
  by_cases w : j = t
  · subst w
    rw [upT_s]
    obtain ⟨a1, a2, a3, a4, a5⟩ := traR_s hT ht e
    refine ⟨by rw [h1]; exact a1, a2, by rw [h2, List.length_set]; exact a3, by rw [List.length_set]; exact a4, fun m y hy => ?_⟩
    rw [h3]
    by_cases z : m = k
    · subst z
      rw [List.getElem?_set_self hk] at hy
      cases hy
      rw [fs_same]; exact ⟨rfl, hx⟩
    · rw [List.getElem?_set_ne (fun q => z q.symm)] at hy
      rw [fs_ne (by omega)]; exact a5 m y hy
  · rw [upT_n w]
    have hj' := hT j hj
    cases e2 : T j with
    | none => rw [e2] at hj'; show B 87 (j : Int) = -1; rw [h1]; exact hj'
    | some y =>
      obtain ⟨so', l'⟩ := y
      rw [e2] at hj'
      obtain ⟨a1, a2, a3, a4, a5⟩ := hj'
      have hl := (traR_s hT ht e).2.2.2.1
      refine ⟨by rw [h1]; exact a1, a2, by rw [h2]; exact a3, a4, fun m y hy => ?_⟩
      have hml := (List.getElem?_eq_some_iff.mp hy).1
      rw [h3, fs_ne (by omega)]; exact a5 m y hy
theorem R_write {h : PH} {M : MS} {i : Nat → Int} {A : Nat → Int → Int} {t x v : Int} (hM : refM M i A) (h1 : -2147483648 ≤ t) (h2 : t < 2147483648) (h3 : -2147483648 ≤ x) (h4 : x < 2147483648) (hv : i64 v) :
    ∃ j B, refM (writeF M t x v).2 j B ∧ ∀ d Q, WP (d + 9) 290 0 [some (vr 71), some (vi t), some (vi x), some (vl v), none, none] [] (mdH h i A) Q = Q (some (vl (writeF M t x v).1)) (mdH h j B) := by
  have hT := hM.2.2.2.2.1
  have nt := fun (d : Nat) (i : Nat → Int) (Q : PQ) => r_noTray (d := d) (h := h) (i := i) (Q := Q) hT h1 h2
  unfold writeF
  unfold trayC at nt
  by_cases q : 0 ≤ t ∧ t ≤ 3
  · obtain ⟨tn, rfl⟩ : ∃ tn : Nat, t = tn := ⟨t.toNat, by omega⟩
    have t2 := eq_true q
    have ht4 : tn < 4 := by omega
    simp only [t2, if_true, Int.toNat_natCast] at nt ⊢
    cases e : mT M tn with
    | none =>
      rw [e] at nt
      refine ⟨iup i 0 0, A, q0 hM, fun d Q => ?_⟩
      simp (disch := omega) only [e_290_0, e_290_1, e_290_2, e_290_5, e_290_6, e_290_7, e_290_10, e_290_12, e_290_14, e_290_17, e_290_19, e_290_20, nt, mdO_c, mdO_g0, mdO_k0, mdO_g1, mdO_k1, mdO_g2, mdO_k2, mdO_g3, mdO_k3, mdO_g4, mdO_k4, mdO_g5, mdO_k5, mdO_g6, mdO_k6, mdO_g7, mdO_k7, mdO_g8, mdO_k8, mdO_g9, mdO_k9, mdO_g10, mdO_k10, mdO_g11, mdO_k11, mdO_g12, mdO_k12, mdO_g13, mdO_k13, mdO_g14, mdO_k14, mdO_g15, mdO_k15, mdO_g16, mdO_k16, mdO_g17, mdO_k17, mdO_g18, mdO_k18, mdO_g19, mdO_k19, mdO_g20, mdO_k20, mdO_g21, mdO_k21, mdO_g22, mdO_k22, mdO_g23, mdO_k23, mdO_g24, mdO_k24, mdO_g25, mdO_k25, mdO_g26, mdO_k26, mdO_g27, mdO_k27, mdO_g28, mdO_k28, mdO_g29, mdO_k29, mdO_g30, mdO_k30, mdO_g31, mdO_k31, mdO_g32, mdO_k32, mdO_g33, mdO_k33, mdO_g34, mdO_k34, mdO_g35, mdO_k35, mdO_s0, mdO_s5, mdO_s6, mdO_s7, mdO_s8, mdO_s9, mdO_s10, mdO_s11, mdO_s12, mdO_s13, mdO_s14, mdO_s15, mdO_s19, mdO_s20, mdO_s25, mdO_s26, mdO_s31, mdO_s32, md_1, md_2, md_g71, md_g72, md_g73, md_g74, md_g75, md_g76, md_g77, md_g78, md_g79, md_g80, md_g81, md_g82, md_g83, md_g84, md_g85, md_g86, md_g87, md_g88, md_g89, md_out, md_u71, md_u72, md_u73, md_u74, md_u75, md_u76, md_u77, md_u78, md_u79, md_u80, md_u81, md_u82, md_u83, md_u84, md_u85, md_u86, md_u87, md_u88, md_u89, md_uo, iup_s, iup_n, aup_s, aup_n, ne_eq, not_false_eq_true, sh_0, sh_1, sh_2, sh_3, sh_4, sh_5, sh_8, sh_15, sh_16, sh_24, Int.reducePow, Int.cast_ofNat_Int, w_of, wl_of, ltT, ltF, leT, leF, eqT, eqF, okF_0, okF_s, gF_0, gF_s, consC_o, sF_0, sF_s, clsO_o, inA_i, ldA_i, stA_i, inJ_l, ldJ_l, stJ_l, inR_r, ldR_r, stR_r, tgR_r, lenA_i, lenA_l, lenA_r, lenA_ex, nl_i, nl_o, nl_l, nl_n, wd_n, wd_i, wd_l, wd_o, fit_i, fit_l, fit_o, K_v, K_n, true_and, and_true, Nat.reduceAdd, Nat.reduceLeDiff, Nat.reduceEqDiff, Nat.reduceMul, Nat.reduceLT, reduceIte, true_or, or_true, cmp_lt, cmp_gt, cmp_eq, wb_0, b_01, cmp_lt', cmp_gt', cmp_eq', b_0, b_1, wb_1, Int.reduceSub, Int.reduceToNat, List.getD_cons_succ, List.getD_cons_zero, Int.reduceLE, Int.reduceLT, Int.reduceEq, Int.reduceNeg, Int.reduceAdd, Int.reduceMul, and_self, em_b, ne_eq, not_false_eq_true, not_true_eq_false]
    | some y =>
      obtain ⟨so, l⟩ := y
      rw [e] at nt
      dsimp only at nt ⊢
      obtain ⟨a1, a2, a3, a4, a5⟩ := traR_s hT ht4 e
      have wi := fun (d : Nat) (h : PH) (Q : PQ) => r_within (d := d) (h := h) (Q := Q) (v := x) (lo := 0) (hi := (l.length : Int) - 1) (by omega) (by omega) (by omega) (by omega) (by omega) (by omega)
      by_cases q2 : 0 ≤ x ∧ x < (l.length : Int)
      · rw [if_pos q2]
        obtain ⟨xn, rfl⟩ : ∃ xn : Nat, x = xn := ⟨x.toNat, by omega⟩
        have t3 : (0 ≤ (xn : Int) ∧ (xn : Int) ≤ (l.length : Int) - 1) = True := eq_true (by omega)
        simp only [t3, if_true] at wi
        simp only [Int.toNat_natCast]
        have ee : (40 : Int) * (tn : Int) + (xn : Int) = ((40 * tn + xn : Nat) : Int) := by omega
        have ct := fun (d : Nat) (h : PH) (Q : PQ) => r_cut (d := d) (so := so) (h := h) (v := v) (Q := Q) a2
        refine ⟨iup i 0 0, aup A 89 (fset (A 89) ((40 * tn + xn : Nat) : Int) (cutV so v)), refM_t hM (fun k hk => iup_n (by intro z; subst z; exact absurd hk (by decide))) (fun k hk => aup_n (by intro z; subst z; exact absurd hk (by decide))) (traR_set hT ht4 e (by omega) (cutV_64 hv) (aup_n (by omega)) (aup_n (by omega)) aup_s), fun d Q => ?_⟩
        simp (disch := omega) only [e_290_0, e_290_1, e_290_2, e_290_5, e_290_6, e_290_7, e_290_10, e_290_12, e_290_14, e_290_17, e_290_19, e_290_20, e_290_21, e_290_22, e_290_23, e_290_24, e_290_25, e_290_28, e_290_29, e_290_30, e_290_31, e_290_32, e_290_33, e_290_36, e_290_39, e_290_42, e_290_43, e_290_44, e_290_47, e_290_49, e_290_50, e_290_51, e_290_52, e_290_53, e_290_54, e_290_55, e_290_58, e_290_59, e_290_60, e_290_63, e_290_64, e_290_65, e_290_68, e_290_70, e_290_71, e_290_72, e_290_73, e_290_74, e_290_75, nt, a3, wi, ee, a1, ct, fs_same, mdO_c, mdO_g0, mdO_k0, mdO_g1, mdO_k1, mdO_g2, mdO_k2, mdO_g3, mdO_k3, mdO_g4, mdO_k4, mdO_g5, mdO_k5, mdO_g6, mdO_k6, mdO_g7, mdO_k7, mdO_g8, mdO_k8, mdO_g9, mdO_k9, mdO_g10, mdO_k10, mdO_g11, mdO_k11, mdO_g12, mdO_k12, mdO_g13, mdO_k13, mdO_g14, mdO_k14, mdO_g15, mdO_k15, mdO_g16, mdO_k16, mdO_g17, mdO_k17, mdO_g18, mdO_k18, mdO_g19, mdO_k19, mdO_g20, mdO_k20, mdO_g21, mdO_k21, mdO_g22, mdO_k22, mdO_g23, mdO_k23, mdO_g24, mdO_k24, mdO_g25, mdO_k25, mdO_g26, mdO_k26, mdO_g27, mdO_k27, mdO_g28, mdO_k28, mdO_g29, mdO_k29, mdO_g30, mdO_k30, mdO_g31, mdO_k31, mdO_g32, mdO_k32, mdO_g33, mdO_k33, mdO_g34, mdO_k34, mdO_g35, mdO_k35, mdO_s0, mdO_s5, mdO_s6, mdO_s7, mdO_s8, mdO_s9, mdO_s10, mdO_s11, mdO_s12, mdO_s13, mdO_s14, mdO_s15, mdO_s19, mdO_s20, mdO_s25, mdO_s26, mdO_s31, mdO_s32, md_1, md_2, md_g71, md_g72, md_g73, md_g74, md_g75, md_g76, md_g77, md_g78, md_g79, md_g80, md_g81, md_g82, md_g83, md_g84, md_g85, md_g86, md_g87, md_g88, md_g89, md_out, md_u71, md_u72, md_u73, md_u74, md_u75, md_u76, md_u77, md_u78, md_u79, md_u80, md_u81, md_u82, md_u83, md_u84, md_u85, md_u86, md_u87, md_u88, md_u89, md_uo, iup_s, iup_n, aup_s, aup_n, ne_eq, not_false_eq_true, sh_0, sh_1, sh_2, sh_3, sh_4, sh_5, sh_8, sh_15, sh_16, sh_24, Int.reducePow, Int.cast_ofNat_Int, w_of, wl_of, ltT, ltF, leT, leF, eqT, eqF, okF_0, okF_s, gF_0, gF_s, consC_o, sF_0, sF_s, clsO_o, inA_i, ldA_i, stA_i, inJ_l, ldJ_l, stJ_l, inR_r, ldR_r, stR_r, tgR_r, lenA_i, lenA_l, lenA_r, lenA_ex, nl_i, nl_o, nl_l, nl_n, wd_n, wd_i, wd_l, wd_o, fit_i, fit_l, fit_o, K_v, K_n, true_and, and_true, Nat.reduceAdd, Nat.reduceLeDiff, Nat.reduceEqDiff, Nat.reduceMul, Nat.reduceLT, reduceIte, true_or, or_true, cmp_lt, cmp_gt, cmp_eq, wb_0, b_01, cmp_lt', cmp_gt', cmp_eq', b_0, b_1, wb_1, Int.reduceSub, Int.reduceToNat, List.getD_cons_succ, List.getD_cons_zero, Int.reduceLE, Int.reduceLT, Int.reduceEq, Int.reduceNeg, Int.reduceAdd, Int.reduceMul, and_self, em_b, ne_eq, not_false_eq_true, not_true_eq_false]
      · rw [if_neg q2]
        have t3 : (0 ≤ x ∧ x ≤ (l.length : Int) - 1) = False := eq_false (by omega)
        simp only [t3, if_false] at wi
        clear q2 t3
        refine ⟨iup i 0 0, A, q0 hM, fun d Q => ?_⟩
        simp (disch := omega) only [e_290_0, e_290_1, e_290_2, e_290_5, e_290_6, e_290_7, e_290_10, e_290_12, e_290_14, e_290_17, e_290_19, e_290_20, e_290_21, e_290_22, e_290_23, e_290_24, e_290_25, e_290_28, e_290_29, e_290_30, e_290_31, e_290_32, e_290_33, e_290_36, e_290_39, e_290_42, nt, a3, wi, mdO_c, mdO_g0, mdO_k0, mdO_g1, mdO_k1, mdO_g2, mdO_k2, mdO_g3, mdO_k3, mdO_g4, mdO_k4, mdO_g5, mdO_k5, mdO_g6, mdO_k6, mdO_g7, mdO_k7, mdO_g8, mdO_k8, mdO_g9, mdO_k9, mdO_g10, mdO_k10, mdO_g11, mdO_k11, mdO_g12, mdO_k12, mdO_g13, mdO_k13, mdO_g14, mdO_k14, mdO_g15, mdO_k15, mdO_g16, mdO_k16, mdO_g17, mdO_k17, mdO_g18, mdO_k18, mdO_g19, mdO_k19, mdO_g20, mdO_k20, mdO_g21, mdO_k21, mdO_g22, mdO_k22, mdO_g23, mdO_k23, mdO_g24, mdO_k24, mdO_g25, mdO_k25, mdO_g26, mdO_k26, mdO_g27, mdO_k27, mdO_g28, mdO_k28, mdO_g29, mdO_k29, mdO_g30, mdO_k30, mdO_g31, mdO_k31, mdO_g32, mdO_k32, mdO_g33, mdO_k33, mdO_g34, mdO_k34, mdO_g35, mdO_k35, mdO_s0, mdO_s5, mdO_s6, mdO_s7, mdO_s8, mdO_s9, mdO_s10, mdO_s11, mdO_s12, mdO_s13, mdO_s14, mdO_s15, mdO_s19, mdO_s20, mdO_s25, mdO_s26, mdO_s31, mdO_s32, md_1, md_2, md_g71, md_g72, md_g73, md_g74, md_g75, md_g76, md_g77, md_g78, md_g79, md_g80, md_g81, md_g82, md_g83, md_g84, md_g85, md_g86, md_g87, md_g88, md_g89, md_out, md_u71, md_u72, md_u73, md_u74, md_u75, md_u76, md_u77, md_u78, md_u79, md_u80, md_u81, md_u82, md_u83, md_u84, md_u85, md_u86, md_u87, md_u88, md_u89, md_uo, iup_s, iup_n, aup_s, aup_n, ne_eq, not_false_eq_true, sh_0, sh_1, sh_2, sh_3, sh_4, sh_5, sh_8, sh_15, sh_16, sh_24, Int.reducePow, Int.cast_ofNat_Int, w_of, wl_of, ltT, ltF, leT, leF, eqT, eqF, okF_0, okF_s, gF_0, gF_s, consC_o, sF_0, sF_s, clsO_o, inA_i, ldA_i, stA_i, inJ_l, ldJ_l, stJ_l, inR_r, ldR_r, stR_r, tgR_r, lenA_i, lenA_l, lenA_r, lenA_ex, nl_i, nl_o, nl_l, nl_n, wd_n, wd_i, wd_l, wd_o, fit_i, fit_l, fit_o, K_v, K_n, true_and, and_true, Nat.reduceAdd, Nat.reduceLeDiff, Nat.reduceEqDiff, Nat.reduceMul, Nat.reduceLT, reduceIte, true_or, or_true, cmp_lt, cmp_gt, cmp_eq, wb_0, b_01, cmp_lt', cmp_gt', cmp_eq', b_0, b_1, wb_1, Int.reduceSub, Int.reduceToNat, List.getD_cons_succ, List.getD_cons_zero, Int.reduceLE, Int.reduceLT, Int.reduceEq, Int.reduceNeg, Int.reduceAdd, Int.reduceMul, and_self, em_b, ne_eq, not_false_eq_true, not_true_eq_false]
  · have t2 := eq_false q
    simp only [t2, if_false] at nt ⊢
    clear q t2
    refine ⟨iup i 0 0, A, q0 hM, fun d Q => ?_⟩
    simp (disch := omega) only [e_290_0, e_290_1, e_290_2, e_290_5, e_290_6, e_290_7, e_290_10, e_290_12, e_290_14, e_290_17, e_290_19, e_290_20, nt, mdO_c, mdO_g0, mdO_k0, mdO_g1, mdO_k1, mdO_g2, mdO_k2, mdO_g3, mdO_k3, mdO_g4, mdO_k4, mdO_g5, mdO_k5, mdO_g6, mdO_k6, mdO_g7, mdO_k7, mdO_g8, mdO_k8, mdO_g9, mdO_k9, mdO_g10, mdO_k10, mdO_g11, mdO_k11, mdO_g12, mdO_k12, mdO_g13, mdO_k13, mdO_g14, mdO_k14, mdO_g15, mdO_k15, mdO_g16, mdO_k16, mdO_g17, mdO_k17, mdO_g18, mdO_k18, mdO_g19, mdO_k19, mdO_g20, mdO_k20, mdO_g21, mdO_k21, mdO_g22, mdO_k22, mdO_g23, mdO_k23, mdO_g24, mdO_k24, mdO_g25, mdO_k25, mdO_g26, mdO_k26, mdO_g27, mdO_k27, mdO_g28, mdO_k28, mdO_g29, mdO_k29, mdO_g30, mdO_k30, mdO_g31, mdO_k31, mdO_g32, mdO_k32, mdO_g33, mdO_k33, mdO_g34, mdO_k34, mdO_g35, mdO_k35, mdO_s0, mdO_s5, mdO_s6, mdO_s7, mdO_s8, mdO_s9, mdO_s10, mdO_s11, mdO_s12, mdO_s13, mdO_s14, mdO_s15, mdO_s19, mdO_s20, mdO_s25, mdO_s26, mdO_s31, mdO_s32, md_1, md_2, md_g71, md_g72, md_g73, md_g74, md_g75, md_g76, md_g77, md_g78, md_g79, md_g80, md_g81, md_g82, md_g83, md_g84, md_g85, md_g86, md_g87, md_g88, md_g89, md_out, md_u71, md_u72, md_u73, md_u74, md_u75, md_u76, md_u77, md_u78, md_u79, md_u80, md_u81, md_u82, md_u83, md_u84, md_u85, md_u86, md_u87, md_u88, md_u89, md_uo, iup_s, iup_n, aup_s, aup_n, ne_eq, not_false_eq_true, sh_0, sh_1, sh_2, sh_3, sh_4, sh_5, sh_8, sh_15, sh_16, sh_24, Int.reducePow, Int.cast_ofNat_Int, w_of, wl_of, ltT, ltF, leT, leF, eqT, eqF, okF_0, okF_s, gF_0, gF_s, consC_o, sF_0, sF_s, clsO_o, inA_i, ldA_i, stA_i, inJ_l, ldJ_l, stJ_l, inR_r, ldR_r, stR_r, tgR_r, lenA_i, lenA_l, lenA_r, lenA_ex, nl_i, nl_o, nl_l, nl_n, wd_n, wd_i, wd_l, wd_o, fit_i, fit_l, fit_o, K_v, K_n, true_and, and_true, Nat.reduceAdd, Nat.reduceLeDiff, Nat.reduceEqDiff, Nat.reduceMul, Nat.reduceLT, reduceIte, true_or, or_true, cmp_lt, cmp_gt, cmp_eq, wb_0, b_01, cmp_lt', cmp_gt', cmp_eq', b_0, b_1, wb_1, Int.reduceSub, Int.reduceToNat, List.getD_cons_succ, List.getD_cons_zero, Int.reduceLE, Int.reduceLT, Int.reduceEq, Int.reduceNeg, Int.reduceAdd, Int.reduceMul, and_self, em_b, ne_eq, not_false_eq_true, not_true_eq_false]
def fillL (so : Nat) : Nat → List Nat → List Int → List Int
  | _, [], l => l
  | k, d :: r, l => fillL so (k + 1) r (l.set k (cutV so (d : Int)))
noncomputable def listsF (o : Option (List Nat)) (M : MS) (t k p : Int) : Int × MS := if (0 ≤ t ∧ t ≤ 3) ∧ aimB (mC M) k p = true then (match mT M t.toNat with | none => (-6, M) | some (so, l) => (match o with | none => (-5, M) | some ds => ((min ds.length l.length : Nat), setT M (upT (mT M) t.toNat (some (so, fillL so 0 (ds.take l.length) l)))))) else (-2, M)
theorem R_lists {h : PH} {M : MS} {i : Nat → Int} {A : Nat → Int → Int} {t k p : Int} (hM : refM M i A) (h1 : -2147483648 ≤ t) (h2 : t < 2147483648) (hk1 : -2147483648 ≤ k) (hk2 : k < 2147483648) (hp1 : -2147483648 ≤ p) (hp2 : p < 2147483648) :
    ∃ o j B, (aimB (mC M) k p = true → (∃ so l, 0 ≤ t ∧ t ≤ 3 ∧ mT M t.toNat = some (so, l)) → comeA (mC M) (mZ M).2.1 (goalP (mC M) k.toNat p) (mZ M).1 o) ∧ refM (listsF o M t k p).2 j B ∧ ∀ d Q, WP (d + 9) 291 0 [some (vr 71), some (vi t), some (vi k), some (vi p), none, none, none, none] [] (mdH h i A) Q = Q (some (vi (listsF o M t k p).1)) (mdH h j B) := by
  have hq := hM.1
  have hO := hq.1
  have hN := hO.1.2.2
  have hP := hO.1.2.1
  have hT := hM.2.2.2.2.1
  have wi := fun (d : Nat) (h : PH) (Q : PQ) => r_within (d := d) (h := h) (Q := Q) (v := t) (lo := 0) (hi := 3) (by omega) (by omega) (by omega) (by omega) (by omega) (by omega)
  have ia := fun (d : Nat) (i : Nat → Int) (Q : PQ) => r_isAim (d := d) (h := h) (i := i) (A := A) (Q := Q) hO.1 hq.2.1 hk1 hk2 hp1 hp2
  have nt := fun (d : Nat) (i : Nat → Int) (Q : PQ) => r_noTray (d := d) (h := h) (i := i) (Q := Q) hT h1 h2
  unfold trayC at nt
  by_cases q : 0 ≤ t ∧ t ≤ 3
  · obtain ⟨tn, rfl⟩ : ∃ tn : Nat, t = tn := ⟨t.toNat, by omega⟩
    have t2 := eq_true q
    have ht4 : tn < 4 := by omega
    simp only [t2, if_true, Int.toNat_natCast] at nt wi ⊢
    by_cases ha : aimB (mC M) k p = true
    · simp only [ha, if_true] at ia
      obtain ⟨b1, b2⟩ := aimB_iff.mp ha
      cases e : mT M tn with
      | none =>
        rw [e] at nt
        refine ⟨none, iup i 0 0, A, (fun _ ⟨so, l, _, _, z⟩ => by cases z), ?_, fun d Q => ?_⟩
        · unfold listsF; rw [if_pos ⟨q, ha⟩, Int.toNat_natCast, e]; exact q0 hM
        · have ev : (listsF none M (tn : Int) k p).1 = -6 := by unfold listsF; rw [if_pos ⟨q, ha⟩, Int.toNat_natCast, e]
          rw [ev]
          simp (disch := omega) only [e_291_0, e_291_1, e_291_2, e_291_5, e_291_6, e_291_7, e_291_8, e_291_11, e_291_14, e_291_17, e_291_18, e_291_19, e_291_20, e_291_23, e_291_26, e_291_28, e_291_29, e_291_30, e_291_31, e_291_34, e_291_36, e_291_38, e_291_41, e_291_43, wi, ia, nt, mdO_c, mdO_g0, mdO_k0, mdO_g1, mdO_k1, mdO_g2, mdO_k2, mdO_g3, mdO_k3, mdO_g4, mdO_k4, mdO_g5, mdO_k5, mdO_g6, mdO_k6, mdO_g7, mdO_k7, mdO_g8, mdO_k8, mdO_g9, mdO_k9, mdO_g10, mdO_k10, mdO_g11, mdO_k11, mdO_g12, mdO_k12, mdO_g13, mdO_k13, mdO_g14, mdO_k14, mdO_g15, mdO_k15, mdO_g16, mdO_k16, mdO_g17, mdO_k17, mdO_g18, mdO_k18, mdO_g19, mdO_k19, mdO_g20, mdO_k20, mdO_g21, mdO_k21, mdO_g22, mdO_k22, mdO_g23, mdO_k23, mdO_g24, mdO_k24, mdO_g25, mdO_k25, mdO_g26, mdO_k26, mdO_g27, mdO_k27, mdO_g28, mdO_k28, mdO_g29, mdO_k29, mdO_g30, mdO_k30, mdO_g31, mdO_k31, mdO_g32, mdO_k32, mdO_g33, mdO_k33, mdO_g34, mdO_k34, mdO_g35, mdO_k35, mdO_s0, mdO_s5, mdO_s6, mdO_s7, mdO_s8, mdO_s9, mdO_s10, mdO_s11, mdO_s12, mdO_s13, mdO_s14, mdO_s15, mdO_s19, mdO_s20, mdO_s25, mdO_s26, mdO_s31, mdO_s32, md_1, md_2, md_g71, md_g72, md_g73, md_g74, md_g75, md_g76, md_g77, md_g78, md_g79, md_g80, md_g81, md_g82, md_g83, md_g84, md_g85, md_g86, md_g87, md_g88, md_g89, md_out, md_u71, md_u72, md_u73, md_u74, md_u75, md_u76, md_u77, md_u78, md_u79, md_u80, md_u81, md_u82, md_u83, md_u84, md_u85, md_u86, md_u87, md_u88, md_u89, md_uo, iup_s, iup_n, aup_s, aup_n, ne_eq, not_false_eq_true, sh_0, sh_1, sh_2, sh_3, sh_4, sh_5, sh_8, sh_15, sh_16, sh_24, Int.reducePow, Int.cast_ofNat_Int, w_of, wl_of, ltT, ltF, leT, leF, eqT, eqF, okF_0, okF_s, gF_0, gF_s, consC_o, sF_0, sF_s, clsO_o, inA_i, ldA_i, stA_i, inJ_l, ldJ_l, stJ_l, inR_r, ldR_r, stR_r, tgR_r, lenA_i, lenA_l, lenA_r, lenA_ex, nl_i, nl_o, nl_l, nl_n, wd_n, wd_i, wd_l, wd_o, fit_i, fit_l, fit_o, K_v, K_n, true_and, and_true, Nat.reduceAdd, Nat.reduceLeDiff, Nat.reduceEqDiff, Nat.reduceMul, Nat.reduceLT, reduceIte, true_or, or_true, cmp_lt, cmp_gt, cmp_eq, wb_0, b_01, cmp_lt', cmp_gt', cmp_eq', b_0, b_1, wb_1, Int.reduceSub, Int.reduceToNat, List.getD_cons_succ, List.getD_cons_zero, Int.reduceLE, Int.reduceLT, Int.reduceEq, Int.reduceNeg, Int.reduceAdd, Int.reduceMul, and_self, em_b, ne_eq, not_false_eq_true, not_true_eq_false]
      | some y =>
        obtain ⟨so, l⟩ := y
        rw [e] at nt
        dsimp only at nt
        obtain ⟨L, j, B, hL, hD, f1, f2, g⟩ := r_laysFar (h := h) (i := iup i 0 0) (q := k.toNat) (p := p) hq (by omega) (by omega) (by omega)
        rw [show ((k.toNat : Nat) : Int) = k by omega] at g
        obtain ⟨bf, o, o1, o2, o3, o4⟩ := far0D hL.2.1 hD
        have hT2 : traR (mT M) B := traR_x hT (f2 87 (by decide)) (f2 88 (by decide)) (f2 89 (by decide))
        obtain ⟨a1, a2, a3, a4, a5⟩ := traR_s hT2 ht4 e
        have hqq : qR i A j B := qR_of (frI_t (frI_u (ks := [0, 25]) (by decide)) (frI_w f1 (by decide))) f2 (by decide) (by decide)
        have hM2 := refM_q hM hqq
        cases o with
        | none =>
          have ez := o3.mp rfl
          refine ⟨none, j, B, fun _ _ => o1, ?_, fun d Q => ?_⟩
          · unfold listsF; rw [if_pos ⟨q, ha⟩, Int.toNat_natCast, e]; exact hM2
          · have ev : (listsF none M (tn : Int) k p).1 = -5 := by unfold listsF; rw [if_pos ⟨q, ha⟩, Int.toNat_natCast, e]
            rw [ev]
            rw [ez] at g
            simp (disch := omega) only [e_291_0, e_291_1, e_291_2, e_291_5, e_291_6, e_291_7, e_291_8, e_291_11, e_291_14, e_291_17, e_291_18, e_291_19, e_291_20, e_291_23, e_291_26, e_291_28, e_291_29, e_291_30, e_291_31, e_291_34, e_291_36, e_291_38, e_291_41, e_291_43, e_291_44, e_291_45, e_291_46, e_291_47, e_291_50, e_291_52, e_291_54, e_291_56, e_291_59, e_291_61, wi, ia, nt, g, mdO_c, mdO_g0, mdO_k0, mdO_g1, mdO_k1, mdO_g2, mdO_k2, mdO_g3, mdO_k3, mdO_g4, mdO_k4, mdO_g5, mdO_k5, mdO_g6, mdO_k6, mdO_g7, mdO_k7, mdO_g8, mdO_k8, mdO_g9, mdO_k9, mdO_g10, mdO_k10, mdO_g11, mdO_k11, mdO_g12, mdO_k12, mdO_g13, mdO_k13, mdO_g14, mdO_k14, mdO_g15, mdO_k15, mdO_g16, mdO_k16, mdO_g17, mdO_k17, mdO_g18, mdO_k18, mdO_g19, mdO_k19, mdO_g20, mdO_k20, mdO_g21, mdO_k21, mdO_g22, mdO_k22, mdO_g23, mdO_k23, mdO_g24, mdO_k24, mdO_g25, mdO_k25, mdO_g26, mdO_k26, mdO_g27, mdO_k27, mdO_g28, mdO_k28, mdO_g29, mdO_k29, mdO_g30, mdO_k30, mdO_g31, mdO_k31, mdO_g32, mdO_k32, mdO_g33, mdO_k33, mdO_g34, mdO_k34, mdO_g35, mdO_k35, mdO_s0, mdO_s5, mdO_s6, mdO_s7, mdO_s8, mdO_s9, mdO_s10, mdO_s11, mdO_s12, mdO_s13, mdO_s14, mdO_s15, mdO_s19, mdO_s20, mdO_s25, mdO_s26, mdO_s31, mdO_s32, md_1, md_2, md_g71, md_g72, md_g73, md_g74, md_g75, md_g76, md_g77, md_g78, md_g79, md_g80, md_g81, md_g82, md_g83, md_g84, md_g85, md_g86, md_g87, md_g88, md_g89, md_out, md_u71, md_u72, md_u73, md_u74, md_u75, md_u76, md_u77, md_u78, md_u79, md_u80, md_u81, md_u82, md_u83, md_u84, md_u85, md_u86, md_u87, md_u88, md_u89, md_uo, iup_s, iup_n, aup_s, aup_n, ne_eq, not_false_eq_true, sh_0, sh_1, sh_2, sh_3, sh_4, sh_5, sh_8, sh_15, sh_16, sh_24, Int.reducePow, Int.cast_ofNat_Int, w_of, wl_of, ltT, ltF, leT, leF, eqT, eqF, okF_0, okF_s, gF_0, gF_s, consC_o, sF_0, sF_s, clsO_o, inA_i, ldA_i, stA_i, inJ_l, ldJ_l, stJ_l, inR_r, ldR_r, stR_r, tgR_r, lenA_i, lenA_l, lenA_r, lenA_ex, nl_i, nl_o, nl_l, nl_n, wd_n, wd_i, wd_l, wd_o, fit_i, fit_l, fit_o, K_v, K_n, true_and, and_true, Nat.reduceAdd, Nat.reduceLeDiff, Nat.reduceEqDiff, Nat.reduceMul, Nat.reduceLT, reduceIte, true_or, or_true, cmp_lt, cmp_gt, cmp_eq, wb_0, b_01, cmp_lt', cmp_gt', cmp_eq', b_0, b_1, wb_1, Int.reduceSub, Int.reduceToNat, List.getD_cons_succ, List.getD_cons_zero, Int.reduceLE, Int.reduceLT, Int.reduceEq, Int.reduceNeg, Int.reduceAdd, Int.reduceMul, and_self, em_b, ne_eq, not_false_eq_true, not_true_eq_false]
        | some ds =>
          obtain ⟨ez, el⟩ := o4 ds rfl
          have lp : ∀ (r n : Nat) (l' : List Int) (T' : TT) (B' : Nat → Int → Int), n + r = min ds.length l.length → l'.length = l.length → T' tn = some (so, l') → traR T' B' → laidR (mC M) (mZ M).2.1 3 false (mZ M).1 L j B' → farD (mC M) (mZ M).2.1 (goalP (mC M) k.toNat p) L (B' 81) → ∃ B2, frA [89] B' B2 ∧ traR (upT T' tn (some (so, fillL so n ((ds.drop n).take r) l'))) B2 ∧ ∀ d Q, WP (d + 9) 291 89 [some (vr 71), some (vi (tn : Nat)), some (vi k), some (vi p), some (vi 0), some (vi (ds.length : Nat)), some (vi ((min ds.length l.length : Nat) : Int)), some (vi n)] [] (mdH h j B') Q = Q (some (vi ((min ds.length l.length : Nat) : Int))) (mdH h j B2) := by
            intro r
            induction r with
            | zero =>
              intro n l' T' B' hn hl' hTt hT' hL' hD'
              refine ⟨B', frA_r, ?_, fun d Q => ?_⟩
              · rw [List.take_zero]
                have : upT T' tn (some (so, fillL so n [] l')) = T' := by
                  funext x
                  unfold upT
                  by_cases w : x = tn
                  · rw [if_pos w, w, hTt]; rfl
                  · rw [if_neg w]
                rw [this]; exact hT'
              · have hn' : n = min ds.length l.length := by omega
                rw [e_291_89]
                simp (disch := omega) only [e_291_91, e_291_93, e_291_130, e_291_132, mdO_c, mdO_g0, mdO_k0, mdO_g1, mdO_k1, mdO_g2, mdO_k2, mdO_g3, mdO_k3, mdO_g4, mdO_k4, mdO_g5, mdO_k5, mdO_g6, mdO_k6, mdO_g7, mdO_k7, mdO_g8, mdO_k8, mdO_g9, mdO_k9, mdO_g10, mdO_k10, mdO_g11, mdO_k11, mdO_g12, mdO_k12, mdO_g13, mdO_k13, mdO_g14, mdO_k14, mdO_g15, mdO_k15, mdO_g16, mdO_k16, mdO_g17, mdO_k17, mdO_g18, mdO_k18, mdO_g19, mdO_k19, mdO_g20, mdO_k20, mdO_g21, mdO_k21, mdO_g22, mdO_k22, mdO_g23, mdO_k23, mdO_g24, mdO_k24, mdO_g25, mdO_k25, mdO_g26, mdO_k26, mdO_g27, mdO_k27, mdO_g28, mdO_k28, mdO_g29, mdO_k29, mdO_g30, mdO_k30, mdO_g31, mdO_k31, mdO_g32, mdO_k32, mdO_g33, mdO_k33, mdO_g34, mdO_k34, mdO_g35, mdO_k35, mdO_s0, mdO_s5, mdO_s6, mdO_s7, mdO_s8, mdO_s9, mdO_s10, mdO_s11, mdO_s12, mdO_s13, mdO_s14, mdO_s15, mdO_s19, mdO_s20, mdO_s25, mdO_s26, mdO_s31, mdO_s32, md_1, md_2, md_g71, md_g72, md_g73, md_g74, md_g75, md_g76, md_g77, md_g78, md_g79, md_g80, md_g81, md_g82, md_g83, md_g84, md_g85, md_g86, md_g87, md_g88, md_g89, md_out, md_u71, md_u72, md_u73, md_u74, md_u75, md_u76, md_u77, md_u78, md_u79, md_u80, md_u81, md_u82, md_u83, md_u84, md_u85, md_u86, md_u87, md_u88, md_u89, md_uo, iup_s, iup_n, aup_s, aup_n, ne_eq, not_false_eq_true, sh_0, sh_1, sh_2, sh_3, sh_4, sh_5, sh_8, sh_15, sh_16, sh_24, Int.reducePow, Int.cast_ofNat_Int, w_of, wl_of, ltT, ltF, leT, leF, eqT, eqF, okF_0, okF_s, gF_0, gF_s, consC_o, sF_0, sF_s, clsO_o, inA_i, ldA_i, stA_i, inJ_l, ldJ_l, stJ_l, inR_r, ldR_r, stR_r, tgR_r, lenA_i, lenA_l, lenA_r, lenA_ex, nl_i, nl_o, nl_l, nl_n, wd_n, wd_i, wd_l, wd_o, fit_i, fit_l, fit_o, K_v, K_n, true_and, and_true, Nat.reduceAdd, Nat.reduceLeDiff, Nat.reduceEqDiff, Nat.reduceMul, Nat.reduceLT, reduceIte, true_or, or_true, cmp_lt, cmp_gt, cmp_eq, wb_0, b_01, cmp_lt', cmp_gt', cmp_eq', b_0, b_1, wb_1, Int.reduceSub, Int.reduceToNat, List.getD_cons_succ, List.getD_cons_zero, Int.reduceLE, Int.reduceLT, Int.reduceEq, Int.reduceNeg, Int.reduceAdd, Int.reduceMul, and_self, em_b, ne_eq, not_false_eq_true, not_true_eq_false]
            | succ r ih =>
              intro n l' T' B' hn hl' hTt hT' hL' hD'
              have hnd : n < ds.length := by omega
              have hv : ds[n]? = some ds[n] := List.getElem?_eq_getElem hnd
              have hdr := drop_at hv
              generalize ds[n] = v at hv hdr
              obtain ⟨c1, c2, c3, c4, c5⟩ := traR_s hT' ht4 hTt
              have da := r_deedAt (h := h) (I := n) hO (by omega) hL' hD' o1
              have en : nthO (some ds) n = (v : Int) := by show nthA ds n = _; unfold nthA; rw [hv]
              rw [en] at da
              have ct := fun (d : Nat) (h : PH) (Q : PQ) => r_cut (d := d) (so := so) (h := h) (v := (v : Int)) (Q := Q) c2
              have hvb : v < 1000 := by
                rcases o1 with ⟨z, -⟩ | ⟨es, z, hg⟩
                · cases z
                · cases z
                  have : ∀ (es : List Nat) (x : ST), isGP (mC M) (mZ M).2.1 (goalP (mC M) k.toNat p) x es → ∀ u, u ∈ es → u < 1000 := by
                    intro es
                    induction es with
                    | nil => intro x _ u hu; cases hu
                    | cons a b ihb =>
                      rintro x ⟨m, -, w2, w3, w4⟩ u hu
                      rcases List.mem_cons.mp hu with z | z
                      · rw [z, w3]; have := w2.1; unfold deedM; split <;> (try split) <;> omega
                      · exact ihb _ w4 u z
                  exact this ds _ hg v (List.mem_of_getElem? hv)
              have ee : (40 : Int) * (tn : Int) + (n : Int) = ((40 * tn + n : Nat) : Int) := by omega
              obtain ⟨B2, f3, t3, g3⟩ := ih (n + 1) (l'.set n (cutV so (v : Int))) (upT T' tn (some (so, l'.set n (cutV so (v : Int))))) (aup B' 89 (fset (B' 89) ((40 * tn + n : Nat) : Int) (cutV so (v : Int)))) (by omega) (by rw [List.length_set]; exact hl') upT_s (traR_set hT' ht4 hTt (by omega) (cutV_64 ⟨by omega, by omega⟩) (aup_n (by omega)) (aup_n (by omega)) aup_s) (laidR_x hL' rfl (aup_n (by omega)) (aup_n (by omega)) (aup_n (by omega))) (by rw [aup_n (by omega)]; exact hD')
              refine ⟨B2, frA_t (frA_u (by decide)) f3, ?_, fun d Q => ?_⟩
              · rw [hdr, List.take_succ_cons]
                have : upT (upT T' tn (some (so, l'.set n (cutV so (v : Int))))) tn (some (so, fillL so (n + 1) ((ds.drop (n + 1)).take r) (l'.set n (cutV so (v : Int))))) = upT T' tn (some (so, fillL so n (v :: (ds.drop (n + 1)).take r) l')) := by
                  funext x
                  unfold upT
                  by_cases w : x = tn
                  · rw [if_pos w, if_pos w]; rfl
                  · rw [if_neg w, if_neg w, if_neg w]
                rw [← this]; exact t3
              · rw [← g3 d Q]
                rw [e_291_89]
                simp (disch := omega) only [e_291_91, e_291_93, e_291_96, e_291_97, e_291_100, e_291_102, e_291_103, e_291_104, e_291_106, e_291_107, e_291_108, e_291_110, e_291_113, e_291_114, e_291_115, e_291_118, e_291_119, e_291_120, e_291_123, e_291_124, e_291_127, ee, da, c1, ct, mdO_c, mdO_g0, mdO_k0, mdO_g1, mdO_k1, mdO_g2, mdO_k2, mdO_g3, mdO_k3, mdO_g4, mdO_k4, mdO_g5, mdO_k5, mdO_g6, mdO_k6, mdO_g7, mdO_k7, mdO_g8, mdO_k8, mdO_g9, mdO_k9, mdO_g10, mdO_k10, mdO_g11, mdO_k11, mdO_g12, mdO_k12, mdO_g13, mdO_k13, mdO_g14, mdO_k14, mdO_g15, mdO_k15, mdO_g16, mdO_k16, mdO_g17, mdO_k17, mdO_g18, mdO_k18, mdO_g19, mdO_k19, mdO_g20, mdO_k20, mdO_g21, mdO_k21, mdO_g22, mdO_k22, mdO_g23, mdO_k23, mdO_g24, mdO_k24, mdO_g25, mdO_k25, mdO_g26, mdO_k26, mdO_g27, mdO_k27, mdO_g28, mdO_k28, mdO_g29, mdO_k29, mdO_g30, mdO_k30, mdO_g31, mdO_k31, mdO_g32, mdO_k32, mdO_g33, mdO_k33, mdO_g34, mdO_k34, mdO_g35, mdO_k35, mdO_s0, mdO_s5, mdO_s6, mdO_s7, mdO_s8, mdO_s9, mdO_s10, mdO_s11, mdO_s12, mdO_s13, mdO_s14, mdO_s15, mdO_s19, mdO_s20, mdO_s25, mdO_s26, mdO_s31, mdO_s32, md_1, md_2, md_g71, md_g72, md_g73, md_g74, md_g75, md_g76, md_g77, md_g78, md_g79, md_g80, md_g81, md_g82, md_g83, md_g84, md_g85, md_g86, md_g87, md_g88, md_g89, md_out, md_u71, md_u72, md_u73, md_u74, md_u75, md_u76, md_u77, md_u78, md_u79, md_u80, md_u81, md_u82, md_u83, md_u84, md_u85, md_u86, md_u87, md_u88, md_u89, md_uo, iup_s, iup_n, aup_s, aup_n, ne_eq, not_false_eq_true, sh_0, sh_1, sh_2, sh_3, sh_4, sh_5, sh_8, sh_15, sh_16, sh_24, Int.reducePow, Int.cast_ofNat_Int, w_of, wl_of, ltT, ltF, leT, leF, eqT, eqF, okF_0, okF_s, gF_0, gF_s, consC_o, sF_0, sF_s, clsO_o, inA_i, ldA_i, stA_i, inJ_l, ldJ_l, stJ_l, inR_r, ldR_r, stR_r, tgR_r, lenA_i, lenA_l, lenA_r, lenA_ex, nl_i, nl_o, nl_l, nl_n, wd_n, wd_i, wd_l, wd_o, fit_i, fit_l, fit_o, K_v, K_n, true_and, and_true, Nat.reduceAdd, Nat.reduceLeDiff, Nat.reduceEqDiff, Nat.reduceMul, Nat.reduceLT, reduceIte, true_or, or_true, cmp_lt, cmp_gt, cmp_eq, wb_0, b_01, cmp_lt', cmp_gt', cmp_eq', b_0, b_1, wb_1, Int.reduceSub, Int.reduceToNat, List.getD_cons_succ, List.getD_cons_zero, Int.reduceLE, Int.reduceLT, Int.reduceEq, Int.reduceNeg, Int.reduceAdd, Int.reduceMul, and_self, em_b, ne_eq, not_false_eq_true, not_true_eq_false]
                try rfl
          obtain ⟨B2, f3, t3, g3⟩ := lp (min ds.length l.length) 0 l (mT M) B (by omega) rfl e hT2 hL hD
          rw [List.drop_zero] at t3
          have etk : ds.take (min ds.length l.length) = ds.take l.length := by
            by_cases w : l.length ≤ ds.length
            · rw [Nat.min_eq_right w]
            · rw [Nat.min_eq_left (by omega), List.take_of_length_le (Nat.le_refl _), List.take_of_length_le (by omega)]
          rw [etk] at t3
          refine ⟨some ds, j, B2, fun _ _ => o1, ?_, fun d Q => ?_⟩
          · unfold listsF
            rw [if_pos ⟨q, ha⟩, Int.toNat_natCast, e]
            exact refM_t hM2 (fun _ _ => rfl) (fun k hk => f3 k (by intro z; rw [List.mem_singleton] at z; subst z; exact absurd hk (by decide))) t3
          · have ev : (listsF (some ds) M (tn : Int) k p).1 = ((min ds.length l.length : Nat) : Int) := by unfold listsF; rw [if_pos ⟨q, ha⟩, Int.toNat_natCast, e]
            rw [ev]
            have g3' := g3 d Q
            rw [nc0] at g3'
            rw [← g3']
            rw [ez] at g
            by_cases w : ds.length < l.length
            · rw [Nat.min_eq_left (by omega)]
              simp (disch := omega) only [e_291_0, e_291_1, e_291_2, e_291_5, e_291_6, e_291_7, e_291_8, e_291_11, e_291_14, e_291_17, e_291_18, e_291_19, e_291_20, e_291_23, e_291_26, e_291_28, e_291_29, e_291_30, e_291_31, e_291_34, e_291_36, e_291_38, e_291_41, e_291_43, e_291_44, e_291_45, e_291_46, e_291_47, e_291_50, e_291_52, e_291_54, e_291_56, e_291_59, e_291_61, e_291_62, e_291_64, e_291_65, e_291_68, e_291_69, e_291_70, e_291_73, e_291_75, e_291_78, e_291_79, e_291_82, e_291_83, e_291_84, e_291_86, e_291_87, wi, ia, nt, g, a3, mdO_c, mdO_g0, mdO_k0, mdO_g1, mdO_k1, mdO_g2, mdO_k2, mdO_g3, mdO_k3, mdO_g4, mdO_k4, mdO_g5, mdO_k5, mdO_g6, mdO_k6, mdO_g7, mdO_k7, mdO_g8, mdO_k8, mdO_g9, mdO_k9, mdO_g10, mdO_k10, mdO_g11, mdO_k11, mdO_g12, mdO_k12, mdO_g13, mdO_k13, mdO_g14, mdO_k14, mdO_g15, mdO_k15, mdO_g16, mdO_k16, mdO_g17, mdO_k17, mdO_g18, mdO_k18, mdO_g19, mdO_k19, mdO_g20, mdO_k20, mdO_g21, mdO_k21, mdO_g22, mdO_k22, mdO_g23, mdO_k23, mdO_g24, mdO_k24, mdO_g25, mdO_k25, mdO_g26, mdO_k26, mdO_g27, mdO_k27, mdO_g28, mdO_k28, mdO_g29, mdO_k29, mdO_g30, mdO_k30, mdO_g31, mdO_k31, mdO_g32, mdO_k32, mdO_g33, mdO_k33, mdO_g34, mdO_k34, mdO_g35, mdO_k35, mdO_s0, mdO_s5, mdO_s6, mdO_s7, mdO_s8, mdO_s9, mdO_s10, mdO_s11, mdO_s12, mdO_s13, mdO_s14, mdO_s15, mdO_s19, mdO_s20, mdO_s25, mdO_s26, mdO_s31, mdO_s32, md_1, md_2, md_g71, md_g72, md_g73, md_g74, md_g75, md_g76, md_g77, md_g78, md_g79, md_g80, md_g81, md_g82, md_g83, md_g84, md_g85, md_g86, md_g87, md_g88, md_g89, md_out, md_u71, md_u72, md_u73, md_u74, md_u75, md_u76, md_u77, md_u78, md_u79, md_u80, md_u81, md_u82, md_u83, md_u84, md_u85, md_u86, md_u87, md_u88, md_u89, md_uo, iup_s, iup_n, aup_s, aup_n, ne_eq, not_false_eq_true, sh_0, sh_1, sh_2, sh_3, sh_4, sh_5, sh_8, sh_15, sh_16, sh_24, Int.reducePow, Int.cast_ofNat_Int, w_of, wl_of, ltT, ltF, leT, leF, eqT, eqF, okF_0, okF_s, gF_0, gF_s, consC_o, sF_0, sF_s, clsO_o, inA_i, ldA_i, stA_i, inJ_l, ldJ_l, stJ_l, inR_r, ldR_r, stR_r, tgR_r, lenA_i, lenA_l, lenA_r, lenA_ex, nl_i, nl_o, nl_l, nl_n, wd_n, wd_i, wd_l, wd_o, fit_i, fit_l, fit_o, K_v, K_n, true_and, and_true, Nat.reduceAdd, Nat.reduceLeDiff, Nat.reduceEqDiff, Nat.reduceMul, Nat.reduceLT, reduceIte, true_or, or_true, cmp_lt, cmp_gt, cmp_eq, wb_0, b_01, cmp_lt', cmp_gt', cmp_eq', b_0, b_1, wb_1, Int.reduceSub, Int.reduceToNat, List.getD_cons_succ, List.getD_cons_zero, Int.reduceLE, Int.reduceLT, Int.reduceEq, Int.reduceNeg, Int.reduceAdd, Int.reduceMul, and_self, em_b, ne_eq, not_false_eq_true, not_true_eq_false]
            · rw [Nat.min_eq_right (by omega)]
              simp (disch := omega) only [e_291_0, e_291_1, e_291_2, e_291_5, e_291_6, e_291_7, e_291_8, e_291_11, e_291_14, e_291_17, e_291_18, e_291_19, e_291_20, e_291_23, e_291_26, e_291_28, e_291_29, e_291_30, e_291_31, e_291_34, e_291_36, e_291_38, e_291_41, e_291_43, e_291_44, e_291_45, e_291_46, e_291_47, e_291_50, e_291_52, e_291_54, e_291_56, e_291_59, e_291_61, e_291_62, e_291_64, e_291_65, e_291_68, e_291_69, e_291_70, e_291_73, e_291_75, e_291_78, e_291_79, e_291_82, e_291_83, e_291_84, e_291_86, e_291_87, wi, ia, nt, g, a3, mdO_c, mdO_g0, mdO_k0, mdO_g1, mdO_k1, mdO_g2, mdO_k2, mdO_g3, mdO_k3, mdO_g4, mdO_k4, mdO_g5, mdO_k5, mdO_g6, mdO_k6, mdO_g7, mdO_k7, mdO_g8, mdO_k8, mdO_g9, mdO_k9, mdO_g10, mdO_k10, mdO_g11, mdO_k11, mdO_g12, mdO_k12, mdO_g13, mdO_k13, mdO_g14, mdO_k14, mdO_g15, mdO_k15, mdO_g16, mdO_k16, mdO_g17, mdO_k17, mdO_g18, mdO_k18, mdO_g19, mdO_k19, mdO_g20, mdO_k20, mdO_g21, mdO_k21, mdO_g22, mdO_k22, mdO_g23, mdO_k23, mdO_g24, mdO_k24, mdO_g25, mdO_k25, mdO_g26, mdO_k26, mdO_g27, mdO_k27, mdO_g28, mdO_k28, mdO_g29, mdO_k29, mdO_g30, mdO_k30, mdO_g31, mdO_k31, mdO_g32, mdO_k32, mdO_g33, mdO_k33, mdO_g34, mdO_k34, mdO_g35, mdO_k35, mdO_s0, mdO_s5, mdO_s6, mdO_s7, mdO_s8, mdO_s9, mdO_s10, mdO_s11, mdO_s12, mdO_s13, mdO_s14, mdO_s15, mdO_s19, mdO_s20, mdO_s25, mdO_s26, mdO_s31, mdO_s32, md_1, md_2, md_g71, md_g72, md_g73, md_g74, md_g75, md_g76, md_g77, md_g78, md_g79, md_g80, md_g81, md_g82, md_g83, md_g84, md_g85, md_g86, md_g87, md_g88, md_g89, md_out, md_u71, md_u72, md_u73, md_u74, md_u75, md_u76, md_u77, md_u78, md_u79, md_u80, md_u81, md_u82, md_u83, md_u84, md_u85, md_u86, md_u87, md_u88, md_u89, md_uo, iup_s, iup_n, aup_s, aup_n, ne_eq, not_false_eq_true, sh_0, sh_1, sh_2, sh_3, sh_4, sh_5, sh_8, sh_15, sh_16, sh_24, Int.reducePow, Int.cast_ofNat_Int, w_of, wl_of, ltT, ltF, leT, leF, eqT, eqF, okF_0, okF_s, gF_0, gF_s, consC_o, sF_0, sF_s, clsO_o, inA_i, ldA_i, stA_i, inJ_l, ldJ_l, stJ_l, inR_r, ldR_r, stR_r, tgR_r, lenA_i, lenA_l, lenA_r, lenA_ex, nl_i, nl_o, nl_l, nl_n, wd_n, wd_i, wd_l, wd_o, fit_i, fit_l, fit_o, K_v, K_n, true_and, and_true, Nat.reduceAdd, Nat.reduceLeDiff, Nat.reduceEqDiff, Nat.reduceMul, Nat.reduceLT, reduceIte, true_or, or_true, cmp_lt, cmp_gt, cmp_eq, wb_0, b_01, cmp_lt', cmp_gt', cmp_eq', b_0, b_1, wb_1, Int.reduceSub, Int.reduceToNat, List.getD_cons_succ, List.getD_cons_zero, Int.reduceLE, Int.reduceLT, Int.reduceEq, Int.reduceNeg, Int.reduceAdd, Int.reduceMul, and_self, em_b, ne_eq, not_false_eq_true, not_true_eq_false]
    · have ha' : aimB (mC M) k p = false := by simpa using ha
      simp only [ha', if_false, Bool.false_eq_true] at ia
      refine ⟨none, iup i 0 0, A, fun z => absurd z ha, ?_, fun d Q => ?_⟩
      · unfold listsF; rw [if_neg (fun z => ha z.2)]; exact q0 hM
      · have ev : (listsF none M (tn : Int) k p).1 = -2 := by unfold listsF; rw [if_neg (fun z => ha z.2)]
        rw [ev]
        simp (disch := omega) only [e_291_0, e_291_1, e_291_2, e_291_5, e_291_6, e_291_7, e_291_8, e_291_11, e_291_14, e_291_17, e_291_18, e_291_19, e_291_20, e_291_23, e_291_26, e_291_28, wi, ia, mdO_c, mdO_g0, mdO_k0, mdO_g1, mdO_k1, mdO_g2, mdO_k2, mdO_g3, mdO_k3, mdO_g4, mdO_k4, mdO_g5, mdO_k5, mdO_g6, mdO_k6, mdO_g7, mdO_k7, mdO_g8, mdO_k8, mdO_g9, mdO_k9, mdO_g10, mdO_k10, mdO_g11, mdO_k11, mdO_g12, mdO_k12, mdO_g13, mdO_k13, mdO_g14, mdO_k14, mdO_g15, mdO_k15, mdO_g16, mdO_k16, mdO_g17, mdO_k17, mdO_g18, mdO_k18, mdO_g19, mdO_k19, mdO_g20, mdO_k20, mdO_g21, mdO_k21, mdO_g22, mdO_k22, mdO_g23, mdO_k23, mdO_g24, mdO_k24, mdO_g25, mdO_k25, mdO_g26, mdO_k26, mdO_g27, mdO_k27, mdO_g28, mdO_k28, mdO_g29, mdO_k29, mdO_g30, mdO_k30, mdO_g31, mdO_k31, mdO_g32, mdO_k32, mdO_g33, mdO_k33, mdO_g34, mdO_k34, mdO_g35, mdO_k35, mdO_s0, mdO_s5, mdO_s6, mdO_s7, mdO_s8, mdO_s9, mdO_s10, mdO_s11, mdO_s12, mdO_s13, mdO_s14, mdO_s15, mdO_s19, mdO_s20, mdO_s25, mdO_s26, mdO_s31, mdO_s32, md_1, md_2, md_g71, md_g72, md_g73, md_g74, md_g75, md_g76, md_g77, md_g78, md_g79, md_g80, md_g81, md_g82, md_g83, md_g84, md_g85, md_g86, md_g87, md_g88, md_g89, md_out, md_u71, md_u72, md_u73, md_u74, md_u75, md_u76, md_u77, md_u78, md_u79, md_u80, md_u81, md_u82, md_u83, md_u84, md_u85, md_u86, md_u87, md_u88, md_u89, md_uo, iup_s, iup_n, aup_s, aup_n, ne_eq, not_false_eq_true, sh_0, sh_1, sh_2, sh_3, sh_4, sh_5, sh_8, sh_15, sh_16, sh_24, Int.reducePow, Int.cast_ofNat_Int, w_of, wl_of, ltT, ltF, leT, leF, eqT, eqF, okF_0, okF_s, gF_0, gF_s, consC_o, sF_0, sF_s, clsO_o, inA_i, ldA_i, stA_i, inJ_l, ldJ_l, stJ_l, inR_r, ldR_r, stR_r, tgR_r, lenA_i, lenA_l, lenA_r, lenA_ex, nl_i, nl_o, nl_l, nl_n, wd_n, wd_i, wd_l, wd_o, fit_i, fit_l, fit_o, K_v, K_n, true_and, and_true, Nat.reduceAdd, Nat.reduceLeDiff, Nat.reduceEqDiff, Nat.reduceMul, Nat.reduceLT, reduceIte, true_or, or_true, cmp_lt, cmp_gt, cmp_eq, wb_0, b_01, cmp_lt', cmp_gt', cmp_eq', b_0, b_1, wb_1, Int.reduceSub, Int.reduceToNat, List.getD_cons_succ, List.getD_cons_zero, Int.reduceLE, Int.reduceLT, Int.reduceEq, Int.reduceNeg, Int.reduceAdd, Int.reduceMul, and_self, em_b, ne_eq, not_false_eq_true, not_true_eq_false]
  · have t2 := eq_false q
    simp only [t2, if_false] at wi
    refine ⟨none, iup i 0 0, A, fun _ ⟨so, l, z1, z2, _⟩ => absurd ⟨z1, z2⟩ q, ?_, fun d Q => ?_⟩
    · unfold listsF; rw [if_neg (fun z => q z.1)]; exact q0 hM
    · have ev : (listsF none M t k p).1 = -2 := by unfold listsF; rw [if_neg (fun z => q z.1)]
      rw [ev]
      clear q t2
      simp (disch := omega) only [e_291_0, e_291_1, e_291_2, e_291_5, e_291_6, e_291_7, e_291_8, e_291_11, e_291_14, e_291_17, e_291_18, e_291_19, e_291_20, e_291_23, e_291_26, e_291_28, wi, mdO_c, mdO_g0, mdO_k0, mdO_g1, mdO_k1, mdO_g2, mdO_k2, mdO_g3, mdO_k3, mdO_g4, mdO_k4, mdO_g5, mdO_k5, mdO_g6, mdO_k6, mdO_g7, mdO_k7, mdO_g8, mdO_k8, mdO_g9, mdO_k9, mdO_g10, mdO_k10, mdO_g11, mdO_k11, mdO_g12, mdO_k12, mdO_g13, mdO_k13, mdO_g14, mdO_k14, mdO_g15, mdO_k15, mdO_g16, mdO_k16, mdO_g17, mdO_k17, mdO_g18, mdO_k18, mdO_g19, mdO_k19, mdO_g20, mdO_k20, mdO_g21, mdO_k21, mdO_g22, mdO_k22, mdO_g23, mdO_k23, mdO_g24, mdO_k24, mdO_g25, mdO_k25, mdO_g26, mdO_k26, mdO_g27, mdO_k27, mdO_g28, mdO_k28, mdO_g29, mdO_k29, mdO_g30, mdO_k30, mdO_g31, mdO_k31, mdO_g32, mdO_k32, mdO_g33, mdO_k33, mdO_g34, mdO_k34, mdO_g35, mdO_k35, mdO_s0, mdO_s5, mdO_s6, mdO_s7, mdO_s8, mdO_s9, mdO_s10, mdO_s11, mdO_s12, mdO_s13, mdO_s14, mdO_s15, mdO_s19, mdO_s20, mdO_s25, mdO_s26, mdO_s31, mdO_s32, md_1, md_2, md_g71, md_g72, md_g73, md_g74, md_g75, md_g76, md_g77, md_g78, md_g79, md_g80, md_g81, md_g82, md_g83, md_g84, md_g85, md_g86, md_g87, md_g88, md_g89, md_out, md_u71, md_u72, md_u73, md_u74, md_u75, md_u76, md_u77, md_u78, md_u79, md_u80, md_u81, md_u82, md_u83, md_u84, md_u85, md_u86, md_u87, md_u88, md_u89, md_uo, iup_s, iup_n, aup_s, aup_n, ne_eq, not_false_eq_true, sh_0, sh_1, sh_2, sh_3, sh_4, sh_5, sh_8, sh_15, sh_16, sh_24, Int.reducePow, Int.cast_ofNat_Int, w_of, wl_of, ltT, ltF, leT, leF, eqT, eqF, okF_0, okF_s, gF_0, gF_s, consC_o, sF_0, sF_s, clsO_o, inA_i, ldA_i, stA_i, inJ_l, ldJ_l, stJ_l, inR_r, ldR_r, stR_r, tgR_r, lenA_i, lenA_l, lenA_r, lenA_ex, nl_i, nl_o, nl_l, nl_n, wd_n, wd_i, wd_l, wd_o, fit_i, fit_l, fit_o, K_v, K_n, true_and, and_true, Nat.reduceAdd, Nat.reduceLeDiff, Nat.reduceEqDiff, Nat.reduceMul, Nat.reduceLT, reduceIte, true_or, or_true, cmp_lt, cmp_gt, cmp_eq, wb_0, b_01, cmp_lt', cmp_gt', cmp_eq', b_0, b_1, wb_1, Int.reduceSub, Int.reduceToNat, List.getD_cons_succ, List.getD_cons_zero, Int.reduceLE, Int.reduceLT, Int.reduceEq, Int.reduceNeg, Int.reduceAdd, Int.reduceMul, and_self, em_b, ne_eq, not_false_eq_true, not_true_eq_false]
