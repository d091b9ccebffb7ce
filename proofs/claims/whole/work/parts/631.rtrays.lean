/-! THE REFERENCE: numbers, write, lists, image, restore, feed -/
def upT (T : TT) (t : Nat) (v : Option (Nat × List Int)) : TT := fun k => if k = t then v else T k
theorem upT_s {T : TT} {t : Nat} {v : Option (Nat × List Int)} : upT T t v t = v := if_pos rfl
theorem upT_n {T : TT} {t k : Nat} {v : Option (Nat × List Int)} (h : k ≠ t) : upT T t v k = T k := if_neg h
def setT (M : MS) (T : TT) : MS := (mC M, mZ M, mP M, mI M, T, M.2.2.2.2.2)
theorem refM_t {M : MS} {i j : Nat → Int} {A B : Nat → Int → Int} {T : TT} (h : refM M i A) (hI : ∀ k, k ∈ [5, 13, 14] → j k = i k) (hA : ∀ k, k ∈ [72, 73, 74] → B k = A k) (hT : traR T B) : refM (setT M T) j B := by
  obtain ⟨h1, h2, h3, h4, h5, h6, h7, h8⟩ := h
  have e72 := hA 72 (by decide)
  refine ⟨refQ_x h1 e72, by rw [e72]; exact h2, h3, imgR_fr (hA 73 (by decide)) (fun k _ => by rw [e72]) h4, hT, ⟨by rw [hI 5 (by decide)]; exact h6.1, h6.2.1, by rw [hA 74 (by decide)]; exact h6.2.2⟩, by rw [hI 13 (by decide)]; exact h7, by rw [hI 14 (by decide)]; exact h8⟩
def numF (M : MS) (t sort n : Int) : Int × MS := if (0 ≤ t ∧ t ≤ 3) ∧ (0 ≤ sort ∧ sort ≤ 3) then (if 0 ≤ n ∧ n ≤ 40 then (0, setT M (upT (mT M) t.toNat (some (sort.toNat, List.replicate n.toNat 0)))) else (-3, M)) else (-2, M)
theorem R_numbers {h : PH} {M : MS} {i : Nat → Int} {A : Nat → Int → Int} {t sort n : Int} (hM : refM M i A) (h1 : -2147483648 ≤ t) (h2 : t < 2147483648) (h3 : -2147483648 ≤ sort) (h4 : sort < 2147483648) (h5 : -2147483648 ≤ n) (h6 : n < 2147483648) :
    ∃ j B, refM (numF M t sort n).2 j B ∧ ∀ d Q, WP (d + 9) 289 0 [some (vr 71), some (vi t), some (vi sort), some (vi n), none] [] (mdH h i A) Q = Q (some (vi (numF M t sort n).1)) (mdH h j B) := by
  have w1 := fun (d : Nat) (h : PH) (Q : PQ) => r_within (d := d) (h := h) (Q := Q) (v := t) (lo := 0) (hi := 3) (by omega) (by omega) (by omega) (by omega) (by omega) (by omega)
  have w2 := fun (d : Nat) (h : PH) (Q : PQ) => r_within (d := d) (h := h) (Q := Q) (v := sort) (lo := 0) (hi := 3) (by omega) (by omega) (by omega) (by omega) (by omega) (by omega)
  have w3 := fun (d : Nat) (h : PH) (Q : PQ) => r_within (d := d) (h := h) (Q := Q) (v := n) (lo := 0) (hi := 40) (by omega) (by omega) (by omega) (by omega) (by omega) (by omega)
  unfold numF
  by_cases q1 : 0 ≤ t ∧ t ≤ 3
  · have t1 := eq_true q1
    simp only [t1, if_true] at w1
    by_cases q2 : 0 ≤ sort ∧ sort ≤ 3
    · have t2 := eq_true q2
      simp only [t2, if_true] at w2
      rw [if_pos ⟨q1, q2⟩]
      by_cases q3 : 0 ≤ n ∧ n ≤ 40
      · have t3 := eq_true q3
        simp only [t3, if_true] at w3
        rw [if_pos q3]
        obtain ⟨tn, rfl⟩ : ∃ x : Nat, t = x := ⟨t.toNat, by omega⟩
        obtain ⟨sn, rfl⟩ : ∃ x : Nat, sort = x := ⟨sort.toNat, by omega⟩
        obtain ⟨nn, rfl⟩ : ∃ x : Nat, n = x := ⟨n.toNat, by omega⟩
        simp only [Int.toNat_natCast]
        have lp : ∀ (r k : Nat) (B : Nat → Int → Int), k + r = nn → (∀ m : Nat, m < k → B 89 ((40 * tn + m : Nat) : Int) = 0) → (∀ m : Nat, (m < 40 * tn ∨ 40 * tn + nn ≤ m) → B 89 (m : Int) = A 89 (m : Int)) → ∃ f : Int → Int, (∀ m : Nat, m < nn → f ((40 * tn + m : Nat) : Int) = 0) ∧ (∀ m : Nat, (m < 40 * tn ∨ 40 * tn + nn ≤ m) → f (m : Int) = A 89 (m : Int)) ∧ ∀ d Q, WP (d + 9) 289 64 [some (vr 71), some (vi (tn : Nat)), some (vi (sn : Nat)), some (vi (nn : Nat)), some (vi k)] [] (mdH h (iup i 0 0) B) Q = Q (some (vi 0)) (mdH h (iup i 0 0) (aup B 89 f)) := by
          intro r
          induction r with
          | zero =>
            intro k B hk hB1 hB2
            have : k = nn := by omega
            subst this
            refine ⟨B 89, hB1, hB2, fun d Q => ?_⟩
            rw [aup_id]
            rw [e_289_64]
            simp (disch := omega) only [e_289_66, e_289_67, e_289_89, e_289_90, mdO_c, mdO_g0, mdO_k0, mdO_g1, mdO_k1, mdO_g2, mdO_k2, mdO_g3, mdO_k3, mdO_g4, mdO_k4, mdO_g5, mdO_k5, mdO_g6, mdO_k6, mdO_g7, mdO_k7, mdO_g8, mdO_k8, mdO_g9, mdO_k9, mdO_g10, mdO_k10, mdO_g11, mdO_k11, mdO_g12, mdO_k12, mdO_g13, mdO_k13, mdO_g14, mdO_k14, mdO_g15, mdO_k15, mdO_g16, mdO_k16, mdO_g17, mdO_k17, mdO_g18, mdO_k18, mdO_g19, mdO_k19, mdO_g20, mdO_k20, mdO_g21, mdO_k21, mdO_g22, mdO_k22, mdO_g23, mdO_k23, mdO_g24, mdO_k24, mdO_g25, mdO_k25, mdO_g26, mdO_k26, mdO_g27, mdO_k27, mdO_g28, mdO_k28, mdO_g29, mdO_k29, mdO_g30, mdO_k30, mdO_g31, mdO_k31, mdO_g32, mdO_k32, mdO_g33, mdO_k33, mdO_g34, mdO_k34, mdO_g35, mdO_k35, mdO_s0, mdO_s5, mdO_s6, mdO_s7, mdO_s8, mdO_s9, mdO_s10, mdO_s11, mdO_s12, mdO_s13, mdO_s14, mdO_s15, mdO_s19, mdO_s20, mdO_s25, mdO_s26, mdO_s31, mdO_s32, md_1, md_2, md_g71, md_g72, md_g73, md_g74, md_g75, md_g76, md_g77, md_g78, md_g79, md_g80, md_g81, md_g82, md_g83, md_g84, md_g85, md_g86, md_g87, md_g88, md_g89, md_out, md_u71, md_u72, md_u73, md_u74, md_u75, md_u76, md_u77, md_u78, md_u79, md_u80, md_u81, md_u82, md_u83, md_u84, md_u85, md_u86, md_u87, md_u88, md_u89, md_uo, iup_s, iup_n, aup_s, aup_n, ne_eq, not_false_eq_true, sh_0, sh_1, sh_2, sh_3, sh_4, sh_5, sh_8, sh_15, sh_16, sh_24, Int.reducePow, Int.cast_ofNat_Int, w_of, wl_of, ltT, ltF, leT, leF, eqT, eqF, okF_0, okF_s, gF_0, gF_s, consC_o, sF_0, sF_s, clsO_o, inA_i, ldA_i, stA_i, inJ_l, ldJ_l, stJ_l, inR_r, ldR_r, stR_r, tgR_r, lenA_i, lenA_l, lenA_r, lenA_ex, nl_i, nl_o, nl_l, nl_n, wd_n, wd_i, wd_l, wd_o, fit_i, fit_l, fit_o, K_v, K_n, true_and, and_true, Nat.reduceAdd, Nat.reduceLeDiff, Nat.reduceEqDiff, Nat.reduceMul, Nat.reduceLT, reduceIte, true_or, or_true, cmp_lt, cmp_gt, cmp_eq, wb_0, b_01, cmp_lt', cmp_gt', cmp_eq', b_0, b_1, wb_1, Int.reduceSub, Int.reduceToNat, List.getD_cons_succ, List.getD_cons_zero, Int.reduceLE, Int.reduceLT, Int.reduceEq, Int.reduceNeg, Int.reduceAdd, Int.reduceMul, and_self, em_b, ne_eq, not_false_eq_true, not_true_eq_false]
          | succ r ih =>
            intro k B hk hB1 hB2
            have ee : (40 : Int) * (tn : Int) + (k : Int) = ((40 * tn + k : Nat) : Int) := by omega
            obtain ⟨f, f1, f2, g⟩ := ih (k + 1) (aup B 89 (fset (B 89) ((40 * tn + k : Nat) : Int) 0)) (by omega) (fun m hm => by
              rw [aup_s]
              by_cases w : m = k
              · rw [w, fs_same]
              · rw [fs_ne (by omega)]; exact hB1 m (by omega)) (fun m hm => by rw [aup_s, fs_ne (by omega)]; exact hB2 m hm)
            refine ⟨f, f1, f2, fun d Q => ?_⟩
            have g' := g d Q
            rw [aup_aup] at g'
            rw [← g']
            rw [e_289_64]
            simp (disch := omega) only [e_289_66, e_289_67, e_289_70, e_289_71, e_289_74, e_289_76, e_289_77, e_289_78, e_289_80, e_289_81, e_289_82, e_289_83, e_289_86, ee, mdO_c, mdO_g0, mdO_k0, mdO_g1, mdO_k1, mdO_g2, mdO_k2, mdO_g3, mdO_k3, mdO_g4, mdO_k4, mdO_g5, mdO_k5, mdO_g6, mdO_k6, mdO_g7, mdO_k7, mdO_g8, mdO_k8, mdO_g9, mdO_k9, mdO_g10, mdO_k10, mdO_g11, mdO_k11, mdO_g12, mdO_k12, mdO_g13, mdO_k13, mdO_g14, mdO_k14, mdO_g15, mdO_k15, mdO_g16, mdO_k16, mdO_g17, mdO_k17, mdO_g18, mdO_k18, mdO_g19, mdO_k19, mdO_g20, mdO_k20, mdO_g21, mdO_k21, mdO_g22, mdO_k22, mdO_g23, mdO_k23, mdO_g24, mdO_k24, mdO_g25, mdO_k25, mdO_g26, mdO_k26, mdO_g27, mdO_k27, mdO_g28, mdO_k28, mdO_g29, mdO_k29, mdO_g30, mdO_k30, mdO_g31, mdO_k31, mdO_g32, mdO_k32, mdO_g33, mdO_k33, mdO_g34, mdO_k34, mdO_g35, mdO_k35, mdO_s0, mdO_s5, mdO_s6, mdO_s7, mdO_s8, mdO_s9, mdO_s10, mdO_s11, mdO_s12, mdO_s13, mdO_s14, mdO_s15, mdO_s19, mdO_s20, mdO_s25, mdO_s26, mdO_s31, mdO_s32, md_1, md_2, md_g71, md_g72, md_g73, md_g74, md_g75, md_g76, md_g77, md_g78, md_g79, md_g80, md_g81, md_g82, md_g83, md_g84, md_g85, md_g86, md_g87, md_g88, md_g89, md_out, md_u71, md_u72, md_u73, md_u74, md_u75, md_u76, md_u77, md_u78, md_u79, md_u80, md_u81, md_u82, md_u83, md_u84, md_u85, md_u86, md_u87, md_u88, md_u89, md_uo, iup_s, iup_n, aup_s, aup_n, ne_eq, not_false_eq_true, sh_0, sh_1, sh_2, sh_3, sh_4, sh_5, sh_8, sh_15, sh_16, sh_24, Int.reducePow, Int.cast_ofNat_Int, w_of, wl_of, ltT, ltF, leT, leF, eqT, eqF, okF_0, okF_s, gF_0, gF_s, consC_o, sF_0, sF_s, clsO_o, inA_i, ldA_i, stA_i, inJ_l, ldJ_l, stJ_l, inR_r, ldR_r, stR_r, tgR_r, lenA_i, lenA_l, lenA_r, lenA_ex, nl_i, nl_o, nl_l, nl_n, wd_n, wd_i, wd_l, wd_o, fit_i, fit_l, fit_o, K_v, K_n, true_and, and_true, Nat.reduceAdd, Nat.reduceLeDiff, Nat.reduceEqDiff, Nat.reduceMul, Nat.reduceLT, reduceIte, true_or, or_true, cmp_lt, cmp_gt, cmp_eq, wb_0, b_01, cmp_lt', cmp_gt', cmp_eq', b_0, b_1, wb_1, Int.reduceSub, Int.reduceToNat, List.getD_cons_succ, List.getD_cons_zero, Int.reduceLE, Int.reduceLT, Int.reduceEq, Int.reduceNeg, Int.reduceAdd, Int.reduceMul, and_self, em_b, ne_eq, not_false_eq_true, not_true_eq_false]
            try rfl
        obtain ⟨f, f1, f2, g⟩ := lp nn 0 (aup (aup A 87 (fset (A 87) tn sn)) 88 (fset (A 88) tn nn)) (by omega) (fun m hm => absurd hm (by omega)) (fun m _ => by rw [aup_n (by omega), aup_n (by omega)])
        have hT := hM.2.2.2.2.1
        have hT2 : traR (upT (mT M) tn (some (sn, List.replicate nn 0))) (aup (aup (aup A 87 (fset (A 87) tn sn)) 88 (fset (A 88) tn nn)) 89 f) := by
          intro k hk
          by_cases w : k = tn
          · subst w
            rw [upT_s]
            refine ⟨by rw [aup_n (by omega), aup_n (by omega), aup_s, fs_same], by omega, by rw [aup_n (by omega), aup_s, fs_same, List.length_replicate], by rw [List.length_replicate]; omega, fun m x hx => ?_⟩
            have hml := (List.getElem?_eq_some_iff.mp hx).1
            rw [List.length_replicate] at hml
            have hx0 : x = 0 := by
              have := List.mem_of_getElem? hx
              exact List.eq_of_mem_replicate this
            rw [aup_s, hx0, f1 m hml]
            exact ⟨rfl, by unfold i64; omega⟩
          · rw [upT_n w]
            have hk' := hT k hk
            cases e : mT M k with
            | none =>
              rw [e] at hk'
              show aup _ 89 f 87 (k : Int) = -1
              rw [aup_n (by omega), aup_n (by omega), aup_s, fs_ne (by omega)]; exact hk'
            | some y =>
              obtain ⟨so, l⟩ := y
              rw [e] at hk'
              obtain ⟨a1, a2, a3, a4, a5⟩ := hk'
              refine ⟨by rw [aup_n (by omega), aup_n (by omega), aup_s, fs_ne (by omega)]; exact a1, a2, by rw [aup_n (by omega), aup_s, fs_ne (by omega)]; exact a3, a4, fun m x hx => ?_⟩
              have hml := (List.getElem?_eq_some_iff.mp hx).1
              rw [aup_s, f2 _ (by omega)]
              exact a5 m x hx
        refine ⟨iup i 0 0, _, refM_t hM (fun k hk => iup_n (by intro z; subst z; exact absurd hk (by decide))) (fun k hk => by
          have h1 : k ≠ 89 := by intro z; subst z; exact absurd hk (by decide)
          have h2 : k ≠ 88 := by intro z; subst z; exact absurd hk (by decide)
          have h3 : k ≠ 87 := by intro z; subst z; exact absurd hk (by decide)
          rw [aup_n h1, aup_n h2, aup_n h3]) hT2, fun d Q => ?_⟩
        have g' := g d Q
        rw [nc0] at g'
        try dsimp only
        rw [← g']
        simp (disch := omega) only [e_289_0, e_289_1, e_289_2, e_289_5, e_289_6, e_289_7, e_289_8, e_289_11, e_289_14, e_289_17, e_289_18, e_289_19, e_289_20, e_289_23, e_289_26, e_289_29, e_289_31, e_289_32, e_289_33, e_289_34, e_289_35, e_289_38, e_289_41, e_289_44, e_289_46, e_289_47, e_289_48, e_289_51, e_289_52, e_289_53, e_289_54, e_289_55, e_289_58, e_289_59, e_289_60, e_289_61, e_289_62, w1, w2, w3, mdO_c, mdO_g0, mdO_k0, mdO_g1, mdO_k1, mdO_g2, mdO_k2, mdO_g3, mdO_k3, mdO_g4, mdO_k4, mdO_g5, mdO_k5, mdO_g6, mdO_k6, mdO_g7, mdO_k7, mdO_g8, mdO_k8, mdO_g9, mdO_k9, mdO_g10, mdO_k10, mdO_g11, mdO_k11, mdO_g12, mdO_k12, mdO_g13, mdO_k13, mdO_g14, mdO_k14, mdO_g15, mdO_k15, mdO_g16, mdO_k16, mdO_g17, mdO_k17, mdO_g18, mdO_k18, mdO_g19, mdO_k19, mdO_g20, mdO_k20, mdO_g21, mdO_k21, mdO_g22, mdO_k22, mdO_g23, mdO_k23, mdO_g24, mdO_k24, mdO_g25, mdO_k25, mdO_g26, mdO_k26, mdO_g27, mdO_k27, mdO_g28, mdO_k28, mdO_g29, mdO_k29, mdO_g30, mdO_k30, mdO_g31, mdO_k31, mdO_g32, mdO_k32, mdO_g33, mdO_k33, mdO_g34, mdO_k34, mdO_g35, mdO_k35, mdO_s0, mdO_s5, mdO_s6, mdO_s7, mdO_s8, mdO_s9, mdO_s10, mdO_s11, mdO_s12, mdO_s13, mdO_s14, mdO_s15, mdO_s19, mdO_s20, mdO_s25, mdO_s26, mdO_s31, mdO_s32, md_1, md_2, md_g71, md_g72, md_g73, md_g74, md_g75, md_g76, md_g77, md_g78, md_g79, md_g80, md_g81, md_g82, md_g83, md_g84, md_g85, md_g86, md_g87, md_g88, md_g89, md_out, md_u71, md_u72, md_u73, md_u74, md_u75, md_u76, md_u77, md_u78, md_u79, md_u80, md_u81, md_u82, md_u83, md_u84, md_u85, md_u86, md_u87, md_u88, md_u89, md_uo, iup_s, iup_n, aup_s, aup_n, ne_eq, not_false_eq_true, sh_0, sh_1, sh_2, sh_3, sh_4, sh_5, sh_8, sh_15, sh_16, sh_24, Int.reducePow, Int.cast_ofNat_Int, w_of, wl_of, ltT, ltF, leT, leF, eqT, eqF, okF_0, okF_s, gF_0, gF_s, consC_o, sF_0, sF_s, clsO_o, inA_i, ldA_i, stA_i, inJ_l, ldJ_l, stJ_l, inR_r, ldR_r, stR_r, tgR_r, lenA_i, lenA_l, lenA_r, lenA_ex, nl_i, nl_o, nl_l, nl_n, wd_n, wd_i, wd_l, wd_o, fit_i, fit_l, fit_o, K_v, K_n, true_and, and_true, Nat.reduceAdd, Nat.reduceLeDiff, Nat.reduceEqDiff, Nat.reduceMul, Nat.reduceLT, reduceIte, true_or, or_true, cmp_lt, cmp_gt, cmp_eq, wb_0, b_01, cmp_lt', cmp_gt', cmp_eq', b_0, b_1, wb_1, Int.reduceSub, Int.reduceToNat, List.getD_cons_succ, List.getD_cons_zero, Int.reduceLE, Int.reduceLT, Int.reduceEq, Int.reduceNeg, Int.reduceAdd, Int.reduceMul, and_self, em_b, ne_eq, not_false_eq_true, not_true_eq_false]
      · have t3 := eq_false q3
        simp only [t3, if_false] at w3
        rw [if_neg q3]
        clear q3 t3
        refine ⟨iup i 0 0, A, q0 hM, fun d Q => ?_⟩
        simp (disch := omega) only [e_289_0, e_289_1, e_289_2, e_289_5, e_289_6, e_289_7, e_289_8, e_289_11, e_289_14, e_289_17, e_289_18, e_289_19, e_289_20, e_289_23, e_289_26, e_289_29, e_289_31, e_289_32, e_289_33, e_289_34, e_289_35, e_289_38, e_289_41, e_289_44, e_289_46, w1, w2, w3, mdO_c, mdO_g0, mdO_k0, mdO_g1, mdO_k1, mdO_g2, mdO_k2, mdO_g3, mdO_k3, mdO_g4, mdO_k4, mdO_g5, mdO_k5, mdO_g6, mdO_k6, mdO_g7, mdO_k7, mdO_g8, mdO_k8, mdO_g9, mdO_k9, mdO_g10, mdO_k10, mdO_g11, mdO_k11, mdO_g12, mdO_k12, mdO_g13, mdO_k13, mdO_g14, mdO_k14, mdO_g15, mdO_k15, mdO_g16, mdO_k16, mdO_g17, mdO_k17, mdO_g18, mdO_k18, mdO_g19, mdO_k19, mdO_g20, mdO_k20, mdO_g21, mdO_k21, mdO_g22, mdO_k22, mdO_g23, mdO_k23, mdO_g24, mdO_k24, mdO_g25, mdO_k25, mdO_g26, mdO_k26, mdO_g27, mdO_k27, mdO_g28, mdO_k28, mdO_g29, mdO_k29, mdO_g30, mdO_k30, mdO_g31, mdO_k31, mdO_g32, mdO_k32, mdO_g33, mdO_k33, mdO_g34, mdO_k34, mdO_g35, mdO_k35, mdO_s0, mdO_s5, mdO_s6, mdO_s7, mdO_s8, mdO_s9, mdO_s10, mdO_s11, mdO_s12, mdO_s13, mdO_s14, mdO_s15, mdO_s19, mdO_s20, mdO_s25, mdO_s26, mdO_s31, mdO_s32, md_1, md_2, md_g71, md_g72, md_g73, md_g74, md_g75, md_g76, md_g77, md_g78, md_g79, md_g80, md_g81, md_g82, md_g83, md_g84, md_g85, md_g86, md_g87, md_g88, md_g89, md_out, md_u71, md_u72, md_u73, md_u74, md_u75, md_u76, md_u77, md_u78, md_u79, md_u80, md_u81, md_u82, md_u83, md_u84, md_u85, md_u86, md_u87, md_u88, md_u89, md_uo, iup_s, iup_n, aup_s, aup_n, ne_eq, not_false_eq_true, sh_0, sh_1, sh_2, sh_3, sh_4, sh_5, sh_8, sh_15, sh_16, sh_24, Int.reducePow, Int.cast_ofNat_Int, w_of, wl_of, ltT, ltF, leT, leF, eqT, eqF, okF_0, okF_s, gF_0, gF_s, consC_o, sF_0, sF_s, clsO_o, inA_i, ldA_i, stA_i, inJ_l, ldJ_l, stJ_l, inR_r, ldR_r, stR_r, tgR_r, lenA_i, lenA_l, lenA_r, lenA_ex, nl_i, nl_o, nl_l, nl_n, wd_n, wd_i, wd_l, wd_o, fit_i, fit_l, fit_o, K_v, K_n, true_and, and_true, Nat.reduceAdd, Nat.reduceLeDiff, Nat.reduceEqDiff, Nat.reduceMul, Nat.reduceLT, reduceIte, true_or, or_true, cmp_lt, cmp_gt, cmp_eq, wb_0, b_01, cmp_lt', cmp_gt', cmp_eq', b_0, b_1, wb_1, Int.reduceSub, Int.reduceToNat, List.getD_cons_succ, List.getD_cons_zero, Int.reduceLE, Int.reduceLT, Int.reduceEq, Int.reduceNeg, Int.reduceAdd, Int.reduceMul, and_self, em_b, ne_eq, not_false_eq_true, not_true_eq_false]
    · have t2 := eq_false q2
      simp only [t2, if_false] at w2
      rw [if_neg (fun z => q2 z.2)]
      clear q2 t2
      refine ⟨iup i 0 0, A, q0 hM, fun d Q => ?_⟩
      simp (disch := omega) only [e_289_0, e_289_1, e_289_2, e_289_5, e_289_6, e_289_7, e_289_8, e_289_11, e_289_14, e_289_17, e_289_18, e_289_19, e_289_20, e_289_23, e_289_26, e_289_29, e_289_31, w1, w2, mdO_c, mdO_g0, mdO_k0, mdO_g1, mdO_k1, mdO_g2, mdO_k2, mdO_g3, mdO_k3, mdO_g4, mdO_k4, mdO_g5, mdO_k5, mdO_g6, mdO_k6, mdO_g7, mdO_k7, mdO_g8, mdO_k8, mdO_g9, mdO_k9, mdO_g10, mdO_k10, mdO_g11, mdO_k11, mdO_g12, mdO_k12, mdO_g13, mdO_k13, mdO_g14, mdO_k14, mdO_g15, mdO_k15, mdO_g16, mdO_k16, mdO_g17, mdO_k17, mdO_g18, mdO_k18, mdO_g19, mdO_k19, mdO_g20, mdO_k20, mdO_g21, mdO_k21, mdO_g22, mdO_k22, mdO_g23, mdO_k23, mdO_g24, mdO_k24, mdO_g25, mdO_k25, mdO_g26, mdO_k26, mdO_g27, mdO_k27, mdO_g28, mdO_k28, mdO_g29, mdO_k29, mdO_g30, mdO_k30, mdO_g31, mdO_k31, mdO_g32, mdO_k32, mdO_g33, mdO_k33, mdO_g34, mdO_k34, mdO_g35, mdO_k35, mdO_s0, mdO_s5, mdO_s6, mdO_s7, mdO_s8, mdO_s9, mdO_s10, mdO_s11, mdO_s12, mdO_s13, mdO_s14, mdO_s15, mdO_s19, mdO_s20, mdO_s25, mdO_s26, mdO_s31, mdO_s32, md_1, md_2, md_g71, md_g72, md_g73, md_g74, md_g75, md_g76, md_g77, md_g78, md_g79, md_g80, md_g81, md_g82, md_g83, md_g84, md_g85, md_g86, md_g87, md_g88, md_g89, md_out, md_u71, md_u72, md_u73, md_u74, md_u75, md_u76, md_u77, md_u78, md_u79, md_u80, md_u81, md_u82, md_u83, md_u84, md_u85, md_u86, md_u87, md_u88, md_u89, md_uo, iup_s, iup_n, aup_s, aup_n, ne_eq, not_false_eq_true, sh_0, sh_1, sh_2, sh_3, sh_4, sh_5, sh_8, sh_15, sh_16, sh_24, Int.reducePow, Int.cast_ofNat_Int, w_of, wl_of, ltT, ltF, leT, leF, eqT, eqF, okF_0, okF_s, gF_0, gF_s, consC_o, sF_0, sF_s, clsO_o, inA_i, ldA_i, stA_i, inJ_l, ldJ_l, stJ_l, inR_r, ldR_r, stR_r, tgR_r, lenA_i, lenA_l, lenA_r, lenA_ex, nl_i, nl_o, nl_l, nl_n, wd_n, wd_i, wd_l, wd_o, fit_i, fit_l, fit_o, K_v, K_n, true_and, and_true, Nat.reduceAdd, Nat.reduceLeDiff, Nat.reduceEqDiff, Nat.reduceMul, Nat.reduceLT, reduceIte, true_or, or_true, cmp_lt, cmp_gt, cmp_eq, wb_0, b_01, cmp_lt', cmp_gt', cmp_eq', b_0, b_1, wb_1, Int.reduceSub, Int.reduceToNat, List.getD_cons_succ, List.getD_cons_zero, Int.reduceLE, Int.reduceLT, Int.reduceEq, Int.reduceNeg, Int.reduceAdd, Int.reduceMul, and_self, em_b, ne_eq, not_false_eq_true, not_true_eq_false]
  · have t1 := eq_false q1
    simp only [t1, if_false] at w1
    rw [if_neg (fun z => q1 z.1)]
    clear q1 t1
    refine ⟨iup i 0 0, A, q0 hM, fun d Q => ?_⟩
    simp (disch := omega) only [e_289_0, e_289_1, e_289_2, e_289_5, e_289_6, e_289_7, e_289_8, e_289_11, e_289_14, e_289_17, e_289_18, e_289_19, e_289_20, e_289_23, e_289_26, e_289_29, e_289_31, w1, mdO_c, mdO_g0, mdO_k0, mdO_g1, mdO_k1, mdO_g2, mdO_k2, mdO_g3, mdO_k3, mdO_g4, mdO_k4, mdO_g5, mdO_k5, mdO_g6, mdO_k6, mdO_g7, mdO_k7, mdO_g8, mdO_k8, mdO_g9, mdO_k9, mdO_g10, mdO_k10, mdO_g11, mdO_k11, mdO_g12, mdO_k12, mdO_g13, mdO_k13, mdO_g14, mdO_k14, mdO_g15, mdO_k15, mdO_g16, mdO_k16, mdO_g17, mdO_k17, mdO_g18, mdO_k18, mdO_g19, mdO_k19, mdO_g20, mdO_k20, mdO_g21, mdO_k21, mdO_g22, mdO_k22, mdO_g23, mdO_k23, mdO_g24, mdO_k24, mdO_g25, mdO_k25, mdO_g26, mdO_k26, mdO_g27, mdO_k27, mdO_g28, mdO_k28, mdO_g29, mdO_k29, mdO_g30, mdO_k30, mdO_g31, mdO_k31, mdO_g32, mdO_k32, mdO_g33, mdO_k33, mdO_g34, mdO_k34, mdO_g35, mdO_k35, mdO_s0, mdO_s5, mdO_s6, mdO_s7, mdO_s8, mdO_s9, mdO_s10, mdO_s11, mdO_s12, mdO_s13, mdO_s14, mdO_s15, mdO_s19, mdO_s20, mdO_s25, mdO_s26, mdO_s31, mdO_s32, md_1, md_2, md_g71, md_g72, md_g73, md_g74, md_g75, md_g76, md_g77, md_g78, md_g79, md_g80, md_g81, md_g82, md_g83, md_g84, md_g85, md_g86, md_g87, md_g88, md_g89, md_out, md_u71, md_u72, md_u73, md_u74, md_u75, md_u76, md_u77, md_u78, md_u79, md_u80, md_u81, md_u82, md_u83, md_u84, md_u85, md_u86, md_u87, md_u88, md_u89, md_uo, iup_s, iup_n, aup_s, aup_n, ne_eq, not_false_eq_true, sh_0, sh_1, sh_2, sh_3, sh_4, sh_5, sh_8, sh_15, sh_16, sh_24, Int.reducePow, Int.cast_ofNat_Int, w_of, wl_of, ltT, ltF, leT, leF, eqT, eqF, okF_0, okF_s, gF_0, gF_s, consC_o, sF_0, sF_s, clsO_o, inA_i, ldA_i, stA_i, inJ_l, ldJ_l, stJ_l, inR_r, ldR_r, stR_r, tgR_r, lenA_i, lenA_l, lenA_r, lenA_ex, nl_i, nl_o, nl_l, nl_n, wd_n, wd_i, wd_l, wd_o, fit_i, fit_l, fit_o, K_v, K_n, true_and, and_true, Nat.reduceAdd, Nat.reduceLeDiff, Nat.reduceEqDiff, Nat.reduceMul, Nat.reduceLT, reduceIte, true_or, or_true, cmp_lt, cmp_gt, cmp_eq, wb_0, b_01, cmp_lt', cmp_gt', cmp_eq', b_0, b_1, wb_1, Int.reduceSub, Int.reduceToNat, List.getD_cons_succ, List.getD_cons_zero, Int.reduceLE, Int.reduceLT, Int.reduceEq, Int.reduceNeg, Int.reduceAdd, Int.reduceMul, and_self, em_b, ne_eq, not_false_eq_true, not_true_eq_false]
def cutV (so : Nat) (v : Int) : Int := if so = 0 then Int.bmod v 256 else if so = 1 then Int.bmod v 65536 else if so = 2 then w v else v
theorem bmod_b (v : Int) : (-128 ≤ Int.bmod v 256 ∧ Int.bmod v 256 < 128) ∧ (-32768 ≤ Int.bmod v 65536 ∧ Int.bmod v 65536 < 32768) := by
  rw [Int.bmod_def, Int.bmod_def]
  constructor <;> split <;> omega
theorem cutV_64 {so : Nat} {v : Int} (h : i64 v) : i64 (cutV so v) := by
  have hb := bmod_b v
  have h1 := w_lo v
  have h2 := w_hi v
  unfold i64 at h
  unfold cutV i64
  split
  · omega
  · split
    · omega
    · split <;> omega
theorem r_cut {d so : Nat} {h : PH} {v : Int} {Q : PQ} (hs : so < 4) : WP d 288 0 [some (vl v), none, some (vi so)] [] h Q = Q (some (vl (cutV so v))) h := by
  have hb := bmod_b v
  have h1 := w_lo v
  have h2 := w_hi v
  unfold cutV
  rcases (by omega : so = 0 ∨ so = 1 ∨ so = 2 ∨ so = 3) with q | q | q | q <;> subst q
  · simp (disch := omega) only [e_288_0, e_288_1, e_288_4, e_288_5, e_288_6, e_288_7, e_288_8, e_288_11, e_288_12, e_288_13, e_288_16, e_288_17, e_288_18, e_288_19, e_288_20, e_288_23, e_288_24, e_288_25, e_288_28, e_288_29, e_288_30, e_288_31, e_288_34, e_288_35, nc0, sh_0, sh_1, sh_2, sh_3, sh_4, sh_5, sh_8, sh_15, sh_16, sh_24, Int.reducePow, Int.cast_ofNat_Int, w_of, wl_of, ltT, ltF, leT, leF, eqT, eqF, okF_0, okF_s, gF_0, gF_s, consC_o, sF_0, sF_s, clsO_o, inA_i, ldA_i, stA_i, inJ_l, ldJ_l, stJ_l, inR_r, ldR_r, stR_r, tgR_r, lenA_i, lenA_l, lenA_r, lenA_ex, nl_i, nl_o, nl_l, nl_n, wd_n, wd_i, wd_l, wd_o, fit_i, fit_l, fit_o, K_v, K_n, true_and, and_true, Nat.reduceAdd, Nat.reduceLeDiff, Nat.reduceEqDiff, Nat.reduceMul, Nat.reduceLT, reduceIte, true_or, or_true, cmp_lt, cmp_gt, cmp_eq, wb_0, b_01, cmp_lt', cmp_gt', cmp_eq', b_0, b_1, wb_1, Int.reduceSub, Int.reduceToNat, List.getD_cons_succ, List.getD_cons_zero, Int.reduceLE, Int.reduceLT, Int.reduceEq, Int.reduceNeg, Int.reduceAdd, Int.reduceMul, and_self, em_b, ne_eq, not_false_eq_true, not_true_eq_false]
  · simp (disch := omega) only [e_288_0, e_288_1, e_288_4, e_288_5, e_288_6, e_288_7, e_288_8, e_288_11, e_288_12, e_288_13, e_288_16, e_288_17, e_288_18, e_288_19, e_288_20, e_288_23, e_288_24, e_288_25, e_288_28, e_288_29, e_288_30, e_288_31, e_288_34, e_288_35, nc1, sh_0, sh_1, sh_2, sh_3, sh_4, sh_5, sh_8, sh_15, sh_16, sh_24, Int.reducePow, Int.cast_ofNat_Int, w_of, wl_of, ltT, ltF, leT, leF, eqT, eqF, okF_0, okF_s, gF_0, gF_s, consC_o, sF_0, sF_s, clsO_o, inA_i, ldA_i, stA_i, inJ_l, ldJ_l, stJ_l, inR_r, ldR_r, stR_r, tgR_r, lenA_i, lenA_l, lenA_r, lenA_ex, nl_i, nl_o, nl_l, nl_n, wd_n, wd_i, wd_l, wd_o, fit_i, fit_l, fit_o, K_v, K_n, true_and, and_true, Nat.reduceAdd, Nat.reduceLeDiff, Nat.reduceEqDiff, Nat.reduceMul, Nat.reduceLT, reduceIte, true_or, or_true, cmp_lt, cmp_gt, cmp_eq, wb_0, b_01, cmp_lt', cmp_gt', cmp_eq', b_0, b_1, wb_1, Int.reduceSub, Int.reduceToNat, List.getD_cons_succ, List.getD_cons_zero, Int.reduceLE, Int.reduceLT, Int.reduceEq, Int.reduceNeg, Int.reduceAdd, Int.reduceMul, and_self, em_b, ne_eq, not_false_eq_true, not_true_eq_false]
  · have e2 : ((2 : Nat) : Int) = 2 := rfl
    rw [e2]
    simp (disch := omega) only [e_288_0, e_288_1, e_288_4, e_288_5, e_288_6, e_288_7, e_288_8, e_288_11, e_288_12, e_288_13, e_288_16, e_288_17, e_288_18, e_288_19, e_288_20, e_288_23, e_288_24, e_288_25, e_288_28, e_288_29, e_288_30, e_288_31, e_288_34, e_288_35, w_of (x := (2 : Int)), w_of (x := (0 : Int)), w_of (x := (1 : Int)), okF_0, okF_s, gF_0, gF_s, consC_o, sF_0, sF_s, clsO_o, inA_i, ldA_i, stA_i, inJ_l, ldJ_l, stJ_l, inR_r, ldR_r, stR_r, tgR_r, lenA_i, lenA_l, lenA_r, lenA_ex, nl_i, nl_o, nl_l, nl_n, wd_n, wd_i, wd_l, wd_o, fit_i, fit_l, fit_o, K_v, K_n, true_and, and_true, Nat.reduceAdd, Nat.reduceLeDiff, Nat.reduceEqDiff, Nat.reduceMul, Nat.reduceLT, reduceIte, true_or, or_true, cmp_lt, cmp_gt, cmp_eq, wb_0, b_01, cmp_lt', cmp_gt', cmp_eq', b_0, b_1, wb_1, Int.reduceSub, Int.reduceToNat, List.getD_cons_succ, List.getD_cons_zero, Int.reduceLE, Int.reduceLT, Int.reduceEq, Int.reduceNeg, Int.reduceAdd, Int.reduceMul, and_self, em_b, ne_eq, not_false_eq_true, not_true_eq_false]
    try rfl
  · have e3 : ((3 : Nat) : Int) = 3 := rfl
    rw [e3]
    simp (disch := omega) only [e_288_0, e_288_1, e_288_4, e_288_5, e_288_6, e_288_7, e_288_8, e_288_11, e_288_12, e_288_13, e_288_16, e_288_17, e_288_18, e_288_19, e_288_20, e_288_23, e_288_24, e_288_25, e_288_28, e_288_29, e_288_30, e_288_31, e_288_34, e_288_35, sh_0, sh_1, sh_2, sh_3, sh_4, sh_5, sh_8, sh_15, sh_16, sh_24, Int.reducePow, Int.cast_ofNat_Int, w_of, wl_of, ltT, ltF, leT, leF, eqT, eqF, okF_0, okF_s, gF_0, gF_s, consC_o, sF_0, sF_s, clsO_o, inA_i, ldA_i, stA_i, inJ_l, ldJ_l, stJ_l, inR_r, ldR_r, stR_r, tgR_r, lenA_i, lenA_l, lenA_r, lenA_ex, nl_i, nl_o, nl_l, nl_n, wd_n, wd_i, wd_l, wd_o, fit_i, fit_l, fit_o, K_v, K_n, true_and, and_true, Nat.reduceAdd, Nat.reduceLeDiff, Nat.reduceEqDiff, Nat.reduceMul, Nat.reduceLT, reduceIte, true_or, or_true, cmp_lt, cmp_gt, cmp_eq, wb_0, b_01, cmp_lt', cmp_gt', cmp_eq', b_0, b_1, wb_1, Int.reduceSub, Int.reduceToNat, List.getD_cons_succ, List.getD_cons_zero, Int.reduceLE, Int.reduceLT, Int.reduceEq, Int.reduceNeg, Int.reduceAdd, Int.reduceMul, and_self, em_b, ne_eq, not_false_eq_true, not_true_eq_false]
    try rfl
