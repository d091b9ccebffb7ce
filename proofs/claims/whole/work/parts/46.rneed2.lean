/-! THE REFERENCE: needed -/
noncomputable def prB (P : Prop) : Bool := @decide P (Classical.propDecidable P)
theorem prB_iff {P : Prop} : prB P = true ↔ P := by unfold prB; exact @decide_eq_true_iff P (Classical.propDecidable P)
theorem prB_T {P : Prop} (h : P) : prB P = true := prB_iff.mpr h
theorem prB_F {P : Prop} (h : ¬ P) : prB P = false := by
  cases q : prB P with
  | false => rfl
  | true => exact absurd (prB_iff.mp q) h
theorem r_ckH {h : PH} {c : KC} {sky b N : Nat} {s : ST} {L : List ST} {i : Nat → Int} {l1 : Int} (hO : okC c) (hN : N ≤ 20) :
    ∀ (r n : Nat) (A : Nat → Int → Int) (any : Bool) (o5 o6 o7 : Option PV), n + r = N → ctyR (A 72) c → laidR c sky b false s L i A → zer L (A 84) → (∀ k : Nat, k < L.length → 0 ≤ A 83 k ∧ A 83 k < 9223372036854775808) → ((∃ (k : Nat) (x : ST), L[k]? = some x ∧ 0 < A 83 k ∧ surv c sky b r x) ↔ surv c sky b N s) → (any = true ↔ ∃ k : Nat, k < L.length ∧ 0 < A 83 k) →
    ∃ (f g : Int → Int), ∀ d Q, WP (d + 3) 254 15 [some (vr 71), some (vi l1), some (vi N), some (vi (if any then 1 else 0)), some (vi n), o5, o6, o7] [] (mdH h i A) Q = Q (some (vi (if prB (surv c sky b N s) then 1 else 0))) (mdH h i (aup (aup A 83 f) 84 g)) := by
  have hK := hO.1
  intro r
  induction r with
  | zero =>
    intro n A any o5 o6 o7 hn hR hL hz hb hI hany
    have hn' : n = N := by omega
    refine ⟨A 83, A 84, fun d Q => ?_⟩
    rw [aup_id, aup_id]
    have e : prB (surv c sky b N s) = any := by
      cases any with
      | true =>
        obtain ⟨k, h1, h2⟩ := hany.mp rfl
        exact prB_T (hI.mp ⟨k, _, List.getElem?_eq_getElem h1, h2, trivial⟩)
      | false =>
        refine prB_F (fun z => ?_)
        obtain ⟨k, x, h1, h2, -⟩ := hI.mpr z
        have := hany.mpr ⟨k, (List.getElem?_eq_some_iff.mp h1).1, h2⟩
        cases this
    rw [e]
    cases any <;> simp only [if_true, if_false, Bool.false_eq_true]
    · rw [e_254_15]
      simp (disch := omega) only [e_254_17, e_254_18, e_254_21, e_254_22, e_254_126, e_254_127, mdO_c, mdO_g0, mdO_k0, mdO_g1, mdO_k1, mdO_g2, mdO_k2, mdO_g3, mdO_k3, mdO_g4, mdO_k4, mdO_g5, mdO_k5, mdO_g6, mdO_k6, mdO_g7, mdO_k7, mdO_g8, mdO_k8, mdO_g9, mdO_k9, mdO_g10, mdO_k10, mdO_g11, mdO_k11, mdO_g12, mdO_k12, mdO_g13, mdO_k13, mdO_g14, mdO_k14, mdO_g15, mdO_k15, mdO_g16, mdO_k16, mdO_g17, mdO_k17, mdO_g18, mdO_k18, mdO_g19, mdO_k19, mdO_g20, mdO_k20, mdO_g21, mdO_k21, mdO_g22, mdO_k22, mdO_g23, mdO_k23, mdO_g24, mdO_k24, mdO_g25, mdO_k25, mdO_g26, mdO_k26, mdO_g27, mdO_k27, mdO_g28, mdO_k28, mdO_g29, mdO_k29, mdO_g30, mdO_k30, mdO_g31, mdO_k31, mdO_g32, mdO_k32, mdO_g33, mdO_k33, mdO_g34, mdO_k34, mdO_g35, mdO_k35, mdO_s0, mdO_s5, mdO_s6, mdO_s7, mdO_s8, mdO_s9, mdO_s10, mdO_s11, mdO_s12, mdO_s13, mdO_s14, mdO_s15, mdO_s19, mdO_s20, mdO_s25, mdO_s26, mdO_s31, mdO_s32, md_1, md_2, md_g71, md_g72, md_g73, md_g74, md_g75, md_g76, md_g77, md_g78, md_g79, md_g80, md_g81, md_g82, md_g83, md_g84, md_g85, md_g86, md_g87, md_g88, md_g89, md_out, md_u71, md_u72, md_u73, md_u74, md_u75, md_u76, md_u77, md_u78, md_u79, md_u80, md_u81, md_u82, md_u83, md_u84, md_u85, md_u86, md_u87, md_u88, md_u89, md_uo, iup_s, iup_n, aup_s, aup_n, ne_eq, not_false_eq_true, sh_0, sh_1, sh_2, sh_3, sh_4, sh_5, sh_8, sh_15, sh_16, sh_24, Int.reducePow, Int.cast_ofNat_Int, w_of, wl_of, ltT, ltF, leT, leF, eqT, eqF, okF_0, okF_s, gF_0, gF_s, consC_o, sF_0, sF_s, clsO_o, inA_i, ldA_i, stA_i, inJ_l, ldJ_l, stJ_l, inR_r, ldR_r, stR_r, tgR_r, lenA_i, lenA_l, lenA_r, lenA_ex, nl_i, nl_o, nl_l, nl_n, wd_n, wd_i, wd_l, wd_o, fit_i, fit_l, fit_o, K_v, K_n, true_and, and_true, Nat.reduceAdd, Nat.reduceLeDiff, Nat.reduceEqDiff, Nat.reduceMul, Nat.reduceLT, reduceIte, true_or, or_true, cmp_lt, cmp_gt, cmp_eq, wb_0, b_01, cmp_lt', cmp_gt', cmp_eq', b_0, b_1, wb_1, Int.reduceSub, Int.reduceToNat, List.getD_cons_succ, List.getD_cons_zero, Int.reduceLE, Int.reduceLT, Int.reduceEq, Int.reduceNeg, Int.reduceAdd, Int.reduceMul, and_self, em_b, ne_eq, not_false_eq_true, not_true_eq_false]
    · rw [e_254_15]
      simp (disch := omega) only [e_254_17, e_254_18, e_254_21, e_254_22, e_254_126, e_254_127, mdO_c, mdO_g0, mdO_k0, mdO_g1, mdO_k1, mdO_g2, mdO_k2, mdO_g3, mdO_k3, mdO_g4, mdO_k4, mdO_g5, mdO_k5, mdO_g6, mdO_k6, mdO_g7, mdO_k7, mdO_g8, mdO_k8, mdO_g9, mdO_k9, mdO_g10, mdO_k10, mdO_g11, mdO_k11, mdO_g12, mdO_k12, mdO_g13, mdO_k13, mdO_g14, mdO_k14, mdO_g15, mdO_k15, mdO_g16, mdO_k16, mdO_g17, mdO_k17, mdO_g18, mdO_k18, mdO_g19, mdO_k19, mdO_g20, mdO_k20, mdO_g21, mdO_k21, mdO_g22, mdO_k22, mdO_g23, mdO_k23, mdO_g24, mdO_k24, mdO_g25, mdO_k25, mdO_g26, mdO_k26, mdO_g27, mdO_k27, mdO_g28, mdO_k28, mdO_g29, mdO_k29, mdO_g30, mdO_k30, mdO_g31, mdO_k31, mdO_g32, mdO_k32, mdO_g33, mdO_k33, mdO_g34, mdO_k34, mdO_g35, mdO_k35, mdO_s0, mdO_s5, mdO_s6, mdO_s7, mdO_s8, mdO_s9, mdO_s10, mdO_s11, mdO_s12, mdO_s13, mdO_s14, mdO_s15, mdO_s19, mdO_s20, mdO_s25, mdO_s26, mdO_s31, mdO_s32, md_1, md_2, md_g71, md_g72, md_g73, md_g74, md_g75, md_g76, md_g77, md_g78, md_g79, md_g80, md_g81, md_g82, md_g83, md_g84, md_g85, md_g86, md_g87, md_g88, md_g89, md_out, md_u71, md_u72, md_u73, md_u74, md_u75, md_u76, md_u77, md_u78, md_u79, md_u80, md_u81, md_u82, md_u83, md_u84, md_u85, md_u86, md_u87, md_u88, md_u89, md_uo, iup_s, iup_n, aup_s, aup_n, ne_eq, not_false_eq_true, sh_0, sh_1, sh_2, sh_3, sh_4, sh_5, sh_8, sh_15, sh_16, sh_24, Int.reducePow, Int.cast_ofNat_Int, w_of, wl_of, ltT, ltF, leT, leF, eqT, eqF, okF_0, okF_s, gF_0, gF_s, consC_o, sF_0, sF_s, clsO_o, inA_i, ldA_i, stA_i, inJ_l, ldJ_l, stJ_l, inR_r, ldR_r, stR_r, tgR_r, lenA_i, lenA_l, lenA_r, lenA_ex, nl_i, nl_o, nl_l, nl_n, wd_n, wd_i, wd_l, wd_o, fit_i, fit_l, fit_o, K_v, K_n, true_and, and_true, Nat.reduceAdd, Nat.reduceLeDiff, Nat.reduceEqDiff, Nat.reduceMul, Nat.reduceLT, reduceIte, true_or, or_true, cmp_lt, cmp_gt, cmp_eq, wb_0, b_01, cmp_lt', cmp_gt', cmp_eq', b_0, b_1, wb_1, Int.reduceSub, Int.reduceToNat, List.getD_cons_succ, List.getD_cons_zero, Int.reduceLE, Int.reduceLT, Int.reduceEq, Int.reduceNeg, Int.reduceAdd, Int.reduceMul, and_self, em_b, ne_eq, not_false_eq_true, not_true_eq_false]
  | succ r ih =>
    intro n A any o5 o6 o7 hn hR hL hz hb hI hany
    have h25 := hL.1.1
    have hlen := stkR_len hK hL.1
    cases any with
    | false =>
      refine ⟨A 83, A 84, fun d Q => ?_⟩
      rw [aup_id, aup_id]
      have e : prB (surv c sky b N s) = false := prB_F (fun z => by
        obtain ⟨k, x, h1, h2, -⟩ := hI.mpr z
        have := hany.mpr ⟨k, (List.getElem?_eq_some_iff.mp h1).1, h2⟩
        cases this)
      rw [e]
      simp only [if_false, Bool.false_eq_true]
      rw [e_254_15]
      simp (disch := omega) only [e_254_17, e_254_18, e_254_21, e_254_22, e_254_126, e_254_127, mdO_c, mdO_g0, mdO_k0, mdO_g1, mdO_k1, mdO_g2, mdO_k2, mdO_g3, mdO_k3, mdO_g4, mdO_k4, mdO_g5, mdO_k5, mdO_g6, mdO_k6, mdO_g7, mdO_k7, mdO_g8, mdO_k8, mdO_g9, mdO_k9, mdO_g10, mdO_k10, mdO_g11, mdO_k11, mdO_g12, mdO_k12, mdO_g13, mdO_k13, mdO_g14, mdO_k14, mdO_g15, mdO_k15, mdO_g16, mdO_k16, mdO_g17, mdO_k17, mdO_g18, mdO_k18, mdO_g19, mdO_k19, mdO_g20, mdO_k20, mdO_g21, mdO_k21, mdO_g22, mdO_k22, mdO_g23, mdO_k23, mdO_g24, mdO_k24, mdO_g25, mdO_k25, mdO_g26, mdO_k26, mdO_g27, mdO_k27, mdO_g28, mdO_k28, mdO_g29, mdO_k29, mdO_g30, mdO_k30, mdO_g31, mdO_k31, mdO_g32, mdO_k32, mdO_g33, mdO_k33, mdO_g34, mdO_k34, mdO_g35, mdO_k35, mdO_s0, mdO_s5, mdO_s6, mdO_s7, mdO_s8, mdO_s9, mdO_s10, mdO_s11, mdO_s12, mdO_s13, mdO_s14, mdO_s15, mdO_s19, mdO_s20, mdO_s25, mdO_s26, mdO_s31, mdO_s32, md_1, md_2, md_g71, md_g72, md_g73, md_g74, md_g75, md_g76, md_g77, md_g78, md_g79, md_g80, md_g81, md_g82, md_g83, md_g84, md_g85, md_g86, md_g87, md_g88, md_g89, md_out, md_u71, md_u72, md_u73, md_u74, md_u75, md_u76, md_u77, md_u78, md_u79, md_u80, md_u81, md_u82, md_u83, md_u84, md_u85, md_u86, md_u87, md_u88, md_u89, md_uo, iup_s, iup_n, aup_s, aup_n, ne_eq, not_false_eq_true, sh_0, sh_1, sh_2, sh_3, sh_4, sh_5, sh_8, sh_15, sh_16, sh_24, Int.reducePow, Int.cast_ofNat_Int, w_of, wl_of, ltT, ltF, leT, leF, eqT, eqF, okF_0, okF_s, gF_0, gF_s, consC_o, sF_0, sF_s, clsO_o, inA_i, ldA_i, stA_i, inJ_l, ldJ_l, stJ_l, inR_r, ldR_r, stR_r, tgR_r, lenA_i, lenA_l, lenA_r, lenA_ex, nl_i, nl_o, nl_l, nl_n, wd_n, wd_i, wd_l, wd_o, fit_i, fit_l, fit_o, K_v, K_n, true_and, and_true, Nat.reduceAdd, Nat.reduceLeDiff, Nat.reduceEqDiff, Nat.reduceMul, Nat.reduceLT, reduceIte, true_or, or_true, cmp_lt, cmp_gt, cmp_eq, wb_0, b_01, cmp_lt', cmp_gt', cmp_eq', b_0, b_1, wb_1, Int.reduceSub, Int.reduceToNat, List.getD_cons_succ, List.getD_cons_zero, Int.reduceLE, Int.reduceLT, Int.reduceEq, Int.reduceNeg, Int.reduceAdd, Int.reduceMul, and_self, em_b, ne_eq, not_false_eq_true, not_true_eq_false]
    | true =>
      have hI0 : mrkI c sky b L (A 83) (A 84) 0 0 false := by
        refine ⟨fun t y hy => Or.inr ⟨hz t (List.getElem?_eq_some_iff.mp hy).1, ?_⟩, (fun z => by cases z), ?_⟩
        · rintro ⟨k, m, x, h1, -⟩; omega
        · rintro ⟨t, h1, h2⟩; rw [hz t h1] at h2; omega
      obtain ⟨g0, any', l6, l7, k1, k2⟩ := r_ckK (h := h) (l1 := l1) (l2 := (N : Int)) (l4 := (n : Int)) hO hb L.length 0 A false o6 o7 (by omega) hR hL rfl hI0
      obtain ⟨f1, g1, t1, t2, t3⟩ := r_isThen (h := h) (L := L) h25 hlen (aup A 84 g0)
      rw [aup_s] at t1
      have hg01 : ∀ k : Nat, k < L.length → 0 ≤ g0 k ∧ g0 k ≤ 1 := fun k hk => by
        rcases k1.1 k _ (List.getElem?_eq_getElem hk) with ⟨h1, -⟩ | ⟨h1, -⟩ <;> omega
      have eA : ∀ f g, aup (aup (aup (aup (aup A 84 g0) 83 f1) 84 g1) 83 f) 84 g = aup (aup A 83 f) 84 g := fun f g => by
        funext n
        unfold aup
        by_cases q : n = 84
        · simp [q]
        · by_cases q2 : n = 83 <;> simp [q, q2]
      obtain ⟨f, g, u⟩ := ih (n + 1) (aup (aup (aup A 84 g0) 83 f1) 84 g1) any' (some (vi L.length)) l6 l7 (by omega) (ctyR_x hR (by rw [aup_n (by omega), aup_n (by omega), aup_n (by omega)])) (laidR_x hL rfl (by rw [aup_n (by omega), aup_n (by omega), aup_n (by omega)]) (by rw [aup_n (by omega), aup_n (by omega), aup_n (by omega)]) (by rw [aup_n (by omega), aup_n (by omega), aup_n (by omega)])) (by rw [aup_s]; exact t2) (by rw [aup_n (by omega), aup_s]; intro k hk; rw [t1 k hk]; have := hg01 k hk; omega) (by
        rw [aup_n (by omega), aup_s, ← hI]
        constructor
        · rintro ⟨t, y, h1, h2, h3⟩
          rw [t1 t (List.getElem?_eq_some_iff.mp h1).1] at h2
          rcases k1.1 t y h1 with ⟨-, k, m, x, -, m2, m3, m4, m5, m6, m7⟩ | ⟨h4, -⟩
          · refine ⟨k, x, m2, m3, surv_m.mpr ⟨m, m4, m5, by rw [m6]; exact m7, by rw [m6]; exact h3⟩⟩
          · omega
        · rintro ⟨k, x, h1, h2, h3⟩
          obtain ⟨m, m1, m2, m3, m4⟩ := surv_m.mp h3
          have hkl := (List.getElem?_eq_some_iff.mp h1).1
          rcases hL.2.2.1 k m hkl m1 x h1 with ⟨-, t, -, ht, -⟩ | ⟨hal, -⟩
          · refine ⟨t, _, ht, ?_, m4⟩
            rw [t1 t (List.getElem?_eq_some_iff.mp ht).1]
            rcases k1.1 t _ ht with ⟨e, -⟩ | ⟨-, e⟩
            · omega
            · exact absurd ⟨k, m, x, Or.inl hkl, h1, h2, m1, m2, rfl, m3⟩ e
          · rw [m2] at hal; cases hal) (by
        rw [aup_n (by omega), aup_s, k1.2]
        constructor
        · rintro ⟨t, h1, h2⟩; exact ⟨t, h1, by rw [t1 t h1]; omega⟩
        · rintro ⟨t, h1, h2⟩
          rw [t1 t h1] at h2
          have := hg01 t h1
          exact ⟨t, h1, by omega⟩)
      refine ⟨f, g, fun d Q => ?_⟩
      have u' := u d Q
      rw [eA] at u'
      rw [← u']
      have k2' := k2 d Q
      simp only [if_false, Bool.false_eq_true, nc0] at k2'
      simp only [if_true]
      rw [e_254_15]
      simp (disch := omega) only [e_254_17, e_254_18, e_254_21, e_254_22, e_254_25, e_254_26, e_254_27, e_254_28, mdO_c, mdO_g0, mdO_k0, mdO_g1, mdO_k1, mdO_g2, mdO_k2, mdO_g3, mdO_k3, mdO_g4, mdO_k4, mdO_g5, mdO_k5, mdO_g6, mdO_k6, mdO_g7, mdO_k7, mdO_g8, mdO_k8, mdO_g9, mdO_k9, mdO_g10, mdO_k10, mdO_g11, mdO_k11, mdO_g12, mdO_k12, mdO_g13, mdO_k13, mdO_g14, mdO_k14, mdO_g15, mdO_k15, mdO_g16, mdO_k16, mdO_g17, mdO_k17, mdO_g18, mdO_k18, mdO_g19, mdO_k19, mdO_g20, mdO_k20, mdO_g21, mdO_k21, mdO_g22, mdO_k22, mdO_g23, mdO_k23, mdO_g24, mdO_k24, mdO_g25, mdO_k25, mdO_g26, mdO_k26, mdO_g27, mdO_k27, mdO_g28, mdO_k28, mdO_g29, mdO_k29, mdO_g30, mdO_k30, mdO_g31, mdO_k31, mdO_g32, mdO_k32, mdO_g33, mdO_k33, mdO_g34, mdO_k34, mdO_g35, mdO_k35, mdO_s0, mdO_s5, mdO_s6, mdO_s7, mdO_s8, mdO_s9, mdO_s10, mdO_s11, mdO_s12, mdO_s13, mdO_s14, mdO_s15, mdO_s19, mdO_s20, mdO_s25, mdO_s26, mdO_s31, mdO_s32, md_1, md_2, md_g71, md_g72, md_g73, md_g74, md_g75, md_g76, md_g77, md_g78, md_g79, md_g80, md_g81, md_g82, md_g83, md_g84, md_g85, md_g86, md_g87, md_g88, md_g89, md_out, md_u71, md_u72, md_u73, md_u74, md_u75, md_u76, md_u77, md_u78, md_u79, md_u80, md_u81, md_u82, md_u83, md_u84, md_u85, md_u86, md_u87, md_u88, md_u89, md_uo, iup_s, iup_n, aup_s, aup_n, ne_eq, not_false_eq_true, sh_0, sh_1, sh_2, sh_3, sh_4, sh_5, sh_8, sh_15, sh_16, sh_24, Int.reducePow, Int.cast_ofNat_Int, w_of, wl_of, ltT, ltF, leT, leF, eqT, eqF, okF_0, okF_s, gF_0, gF_s, consC_o, sF_0, sF_s, clsO_o, inA_i, ldA_i, stA_i, inJ_l, ldJ_l, stJ_l, inR_r, ldR_r, stR_r, tgR_r, lenA_i, lenA_l, lenA_r, lenA_ex, nl_i, nl_o, nl_l, nl_n, wd_n, wd_i, wd_l, wd_o, fit_i, fit_l, fit_o, K_v, K_n, true_and, and_true, Nat.reduceAdd, Nat.reduceLeDiff, Nat.reduceEqDiff, Nat.reduceMul, Nat.reduceLT, reduceIte, true_or, or_true, cmp_lt, cmp_gt, cmp_eq, wb_0, b_01, cmp_lt', cmp_gt', cmp_eq', b_0, b_1, wb_1, Int.reduceSub, Int.reduceToNat, List.getD_cons_succ, List.getD_cons_zero, Int.reduceLE, Int.reduceLT, Int.reduceEq, Int.reduceNeg, Int.reduceAdd, Int.reduceMul, and_self, em_b, ne_eq, not_false_eq_true, not_true_eq_false]
      refine Eq.trans k2' ?_
      simp (disch := omega) only [e_254_116, e_254_117, e_254_120, e_254_123, t3, mdO_c, mdO_g0, mdO_k0, mdO_g1, mdO_k1, mdO_g2, mdO_k2, mdO_g3, mdO_k3, mdO_g4, mdO_k4, mdO_g5, mdO_k5, mdO_g6, mdO_k6, mdO_g7, mdO_k7, mdO_g8, mdO_k8, mdO_g9, mdO_k9, mdO_g10, mdO_k10, mdO_g11, mdO_k11, mdO_g12, mdO_k12, mdO_g13, mdO_k13, mdO_g14, mdO_k14, mdO_g15, mdO_k15, mdO_g16, mdO_k16, mdO_g17, mdO_k17, mdO_g18, mdO_k18, mdO_g19, mdO_k19, mdO_g20, mdO_k20, mdO_g21, mdO_k21, mdO_g22, mdO_k22, mdO_g23, mdO_k23, mdO_g24, mdO_k24, mdO_g25, mdO_k25, mdO_g26, mdO_k26, mdO_g27, mdO_k27, mdO_g28, mdO_k28, mdO_g29, mdO_k29, mdO_g30, mdO_k30, mdO_g31, mdO_k31, mdO_g32, mdO_k32, mdO_g33, mdO_k33, mdO_g34, mdO_k34, mdO_g35, mdO_k35, mdO_s0, mdO_s5, mdO_s6, mdO_s7, mdO_s8, mdO_s9, mdO_s10, mdO_s11, mdO_s12, mdO_s13, mdO_s14, mdO_s15, mdO_s19, mdO_s20, mdO_s25, mdO_s26, mdO_s31, mdO_s32, md_1, md_2, md_g71, md_g72, md_g73, md_g74, md_g75, md_g76, md_g77, md_g78, md_g79, md_g80, md_g81, md_g82, md_g83, md_g84, md_g85, md_g86, md_g87, md_g88, md_g89, md_out, md_u71, md_u72, md_u73, md_u74, md_u75, md_u76, md_u77, md_u78, md_u79, md_u80, md_u81, md_u82, md_u83, md_u84, md_u85, md_u86, md_u87, md_u88, md_u89, md_uo, iup_s, iup_n, aup_s, aup_n, ne_eq, not_false_eq_true, sh_0, sh_1, sh_2, sh_3, sh_4, sh_5, sh_8, sh_15, sh_16, sh_24, Int.reducePow, Int.cast_ofNat_Int, w_of, wl_of, ltT, ltF, leT, leF, eqT, eqF, okF_0, okF_s, gF_0, gF_s, consC_o, sF_0, sF_s, clsO_o, inA_i, ldA_i, stA_i, inJ_l, ldJ_l, stJ_l, inR_r, ldR_r, stR_r, tgR_r, lenA_i, lenA_l, lenA_r, lenA_ex, nl_i, nl_o, nl_l, nl_n, wd_n, wd_i, wd_l, wd_o, fit_i, fit_l, fit_o, K_v, K_n, true_and, and_true, Nat.reduceAdd, Nat.reduceLeDiff, Nat.reduceEqDiff, Nat.reduceMul, Nat.reduceLT, reduceIte, true_or, or_true, cmp_lt, cmp_gt, cmp_eq, wb_0, b_01, cmp_lt', cmp_gt', cmp_eq', b_0, b_1, wb_1, Int.reduceSub, Int.reduceToNat, List.getD_cons_succ, List.getD_cons_zero, Int.reduceLE, Int.reduceLT, Int.reduceEq, Int.reduceNeg, Int.reduceAdd, Int.reduceMul, and_self, em_b, ne_eq, not_false_eq_true, not_true_eq_false]
      try rfl
theorem r_canKeep {h : PH} {c : KC} {s : ST} {sky hrs b N : Nat} {i : Nat → Int} {A : Nat → Int → Int} (hq : refQ c s sky hrs A) (hb : b ≤ 3) (hN : N ≤ 20) :
    ∃ j B, frI [25] i j ∧ frA [76, 77, 79, 80, 82, 83, 84] A B ∧ ∀ d Q, WP (d + 7) 254 0 [some (vr 71), some (vi b), some (vi N), none, none, none, none, none] [] (mdH h i A) Q = Q (some (vi (if prB (surv c sky b N s) then 1 else 0))) (mdH h j B) := by
  obtain ⟨hO, hR, hS, hs, hsky⟩ := hq
  obtain ⟨L, j, B, hL, f1, f2, g⟩ := r_lays (h := h) (b := b) (bt := false) (i := i) hO hsky hb hR hS hs
  simp only [if_false, Bool.false_eq_true] at g
  obtain ⟨fm, fz, b1, b2, b3⟩ := r_beginsMany (h := h) (i := j) (L := L) hL.1.1 (stkR_len hO.1 hL.1) B
  have h0 := (List.getElem?_eq_some_iff.mp hL.2.1).1
  obtain ⟨f, g', u⟩ := r_ckH (h := h) (c := c) (sky := sky) (b := b) (N := N) (s := s) (L := L) (i := j) (l1 := (b : Int)) hO hN N 0 (aup (aup B 83 fm) 84 fz) true none none none (by omega) (ctyR_x hR (by rw [aup_n (by omega), aup_n (by omega), f2 72 (by decide)])) (laidR_x hL rfl (by rw [aup_n (by omega), aup_n (by omega)]) (by rw [aup_n (by omega), aup_n (by omega)]) (by rw [aup_n (by omega), aup_n (by omega)])) (by rw [aup_s]; exact b2) (by rw [aup_n (by omega), aup_s]; intro k hk; rw [b1 k hk]; split <;> omega) (by
    rw [aup_n (by omega), aup_s]
    constructor
    · rintro ⟨k, x, h1, h2, h3⟩
      rw [b1 k (List.getElem?_eq_some_iff.mp h1).1] at h2
      by_cases q : k = 0
      · subst q; rw [hL.2.1] at h1; cases h1; exact h3
      · rw [if_neg q] at h2; omega
    · intro z
      exact ⟨0, s, hL.2.1, by rw [b1 0 h0]; decide, z⟩) (by
    rw [aup_n (by omega), aup_s]
    exact ⟨fun _ => ⟨0, h0, by rw [b1 0 h0]; decide⟩, fun _ => rfl⟩)
  have eA : aup (aup (aup (aup B 83 fm) 84 fz) 83 f) 84 g' = aup (aup B 83 f) 84 g' := by
    funext n
    unfold aup
    by_cases q : n = 84
    · simp [q]
    · by_cases q2 : n = 83 <;> simp [q, q2]
  refine ⟨j, aup (aup B 83 f) 84 g', f1, frA_t (frA_w f2 (by decide)) (frA_t (frA_u (by decide)) (frA_u (by decide))), fun d Q => ?_⟩
  have u' := u (d + 4) Q
  rw [eA, nc0] at u'
  simp only [if_true] at u'
  rw [← u']
  simp (disch := omega) only [e_254_0, e_254_1, e_254_2, e_254_3, e_254_6, e_254_7, e_254_10, e_254_11, e_254_12, e_254_13, g, b3, mdO_c, mdO_g0, mdO_k0, mdO_g1, mdO_k1, mdO_g2, mdO_k2, mdO_g3, mdO_k3, mdO_g4, mdO_k4, mdO_g5, mdO_k5, mdO_g6, mdO_k6, mdO_g7, mdO_k7, mdO_g8, mdO_k8, mdO_g9, mdO_k9, mdO_g10, mdO_k10, mdO_g11, mdO_k11, mdO_g12, mdO_k12, mdO_g13, mdO_k13, mdO_g14, mdO_k14, mdO_g15, mdO_k15, mdO_g16, mdO_k16, mdO_g17, mdO_k17, mdO_g18, mdO_k18, mdO_g19, mdO_k19, mdO_g20, mdO_k20, mdO_g21, mdO_k21, mdO_g22, mdO_k22, mdO_g23, mdO_k23, mdO_g24, mdO_k24, mdO_g25, mdO_k25, mdO_g26, mdO_k26, mdO_g27, mdO_k27, mdO_g28, mdO_k28, mdO_g29, mdO_k29, mdO_g30, mdO_k30, mdO_g31, mdO_k31, mdO_g32, mdO_k32, mdO_g33, mdO_k33, mdO_g34, mdO_k34, mdO_g35, mdO_k35, mdO_s0, mdO_s5, mdO_s6, mdO_s7, mdO_s8, mdO_s9, mdO_s10, mdO_s11, mdO_s12, mdO_s13, mdO_s14, mdO_s15, mdO_s19, mdO_s20, mdO_s25, mdO_s26, mdO_s31, mdO_s32, md_1, md_2, md_g71, md_g72, md_g73, md_g74, md_g75, md_g76, md_g77, md_g78, md_g79, md_g80, md_g81, md_g82, md_g83, md_g84, md_g85, md_g86, md_g87, md_g88, md_g89, md_out, md_u71, md_u72, md_u73, md_u74, md_u75, md_u76, md_u77, md_u78, md_u79, md_u80, md_u81, md_u82, md_u83, md_u84, md_u85, md_u86, md_u87, md_u88, md_u89, md_uo, iup_s, iup_n, aup_s, aup_n, ne_eq, not_false_eq_true, sh_0, sh_1, sh_2, sh_3, sh_4, sh_5, sh_8, sh_15, sh_16, sh_24, Int.reducePow, Int.cast_ofNat_Int, w_of, wl_of, ltT, ltF, leT, leF, eqT, eqF, okF_0, okF_s, gF_0, gF_s, consC_o, sF_0, sF_s, clsO_o, inA_i, ldA_i, stA_i, inJ_l, ldJ_l, stJ_l, inR_r, ldR_r, stR_r, tgR_r, lenA_i, lenA_l, lenA_r, lenA_ex, nl_i, nl_o, nl_l, nl_n, wd_n, wd_i, wd_l, wd_o, fit_i, fit_l, fit_o, K_v, K_n, true_and, and_true, Nat.reduceAdd, Nat.reduceLeDiff, Nat.reduceEqDiff, Nat.reduceMul, Nat.reduceLT, reduceIte, true_or, or_true, cmp_lt, cmp_gt, cmp_eq, wb_0, b_01, cmp_lt', cmp_gt', cmp_eq', b_0, b_1, wb_1, Int.reduceSub, Int.reduceToNat, List.getD_cons_succ, List.getD_cons_zero, Int.reduceLE, Int.reduceLT, Int.reduceEq, Int.reduceNeg, Int.reduceAdd, Int.reduceMul, and_self, em_b, ne_eq, not_false_eq_true, not_true_eq_false]
noncomputable def needV (c : KC) (sky N : Nat) (s : ST) : Nat := if prB (surv c sky 3 N s) then bitsF (kN c) (fun p => !prB (surv c sky p N s)) else 0
def ansN (c : KC) (sky : Nat) (s : ST) (x v : Int) : Prop := (¬ (1 ≤ x ∧ x ≤ 20) ∧ v = -3) ∨ ((1 ≤ x ∧ x ≤ 20) ∧ downB c s = true ∧ v = -5) ∨ ((1 ≤ x ∧ x ≤ 20) ∧ downB c s = false ∧ v = needV c sky x.toNat s)
theorem ansN_uniq {c : KC} {sky : Nat} {s : ST} {x u v : Int} (h : ansN c sky s x u) (g : ansN c sky s x v) : u = v := by
  rcases h with ⟨h1, h2⟩ | ⟨h1, h2, h3⟩ | ⟨h1, h2, h3⟩ <;> rcases g with ⟨g1, g2⟩ | ⟨g1, g2, g3⟩ | ⟨g1, g2, g3⟩
  · rw [h2, g2]
  · exact absurd g1 h1
  · exact absurd g1 h1
  · exact absurd h1 g1
  · rw [h3, g3]
  · rw [h2] at g2; cases g2
  · exact absurd h1 g1
  · rw [h2] at g2; cases g2
  · rw [h3, g3]
theorem ior_0 {a : Nat} (h : a < 2147483648) : ior (a : Int) 0 = (a : Int) := by
  have := ior_nat (a := a) (b := 0) h (by omega)
  rw [Nat.or_zero] at this
  exact this
theorem refQ_x {c : KC} {s : ST} {sky hrs : Nat} {A B : Nat → Int → Int} (h : refQ c s sky hrs A) (e : B 72 = A 72) : refQ c s sky hrs B := ⟨h.1, ctyR_x h.2.1 e, stdR_x h.2.2.1 e, h.2.2.2⟩
theorem R_needed {h : PH} {c : KC} {s : ST} {sky hrs : Nat} {i : Nat → Int} {A : Nat → Int → Int} {x : Int} (hq : refQ c s sky hrs A) (hx1 : -2147483648 ≤ x) (hx2 : x < 2147483648) :
    ∃ v j B, ansN c sky s x v ∧ qR i A j B ∧ ∀ d Q, WP (d + 9) 255 0 [some (vr 71), some (vi x), none, none] [] (mdH h i A) Q = Q (some (vi v)) (mdH h j B) := by
  have hq' := hq
  obtain ⟨hO, hR, hS, hs, hsky⟩ := hq
  have hN3 := hO.1.2.2
  have wi := fun (d : Nat) (h : PH) (Q : PQ) => r_within (d := d) (h := h) (Q := Q) (v := x) (lo := 1) (hi := 20) (by omega) (by omega) (by omega) (by omega) (by omega) (by omega)
  have dn := fun (d : Nat) (Q : PQ) (i : Nat → Int) => r_downNow (d := d) (h := h) (i := i) (Q := Q) hO.1 hR hS hs
  have q0 : qR i A (iup i 0 0) A := qR_of (frI_u (ks := [0]) (by decide)) (frA_r (ks := [])) (by decide) (by decide)
  by_cases hb : 1 ≤ x ∧ x ≤ 20
  · have hb' := eq_true hb
    simp only [hb', if_true] at wi
    have ex : ((x.toNat : Nat) : Int) = x := by omega
    by_cases hd : downB c s = true
    · simp only [hd, if_true] at dn
      refine ⟨-5, iup i 0 0, A, Or.inr (Or.inl ⟨hb, hd, rfl⟩), q0, fun d Q => ?_⟩
      simp (disch := omega) only [e_255_0, e_255_1, e_255_2, e_255_5, e_255_6, e_255_7, e_255_8, e_255_11, e_255_14, e_255_17, e_255_19, e_255_20, e_255_21, e_255_24, e_255_27, e_255_29, wi, dn, mdO_c, mdO_g0, mdO_k0, mdO_g1, mdO_k1, mdO_g2, mdO_k2, mdO_g3, mdO_k3, mdO_g4, mdO_k4, mdO_g5, mdO_k5, mdO_g6, mdO_k6, mdO_g7, mdO_k7, mdO_g8, mdO_k8, mdO_g9, mdO_k9, mdO_g10, mdO_k10, mdO_g11, mdO_k11, mdO_g12, mdO_k12, mdO_g13, mdO_k13, mdO_g14, mdO_k14, mdO_g15, mdO_k15, mdO_g16, mdO_k16, mdO_g17, mdO_k17, mdO_g18, mdO_k18, mdO_g19, mdO_k19, mdO_g20, mdO_k20, mdO_g21, mdO_k21, mdO_g22, mdO_k22, mdO_g23, mdO_k23, mdO_g24, mdO_k24, mdO_g25, mdO_k25, mdO_g26, mdO_k26, mdO_g27, mdO_k27, mdO_g28, mdO_k28, mdO_g29, mdO_k29, mdO_g30, mdO_k30, mdO_g31, mdO_k31, mdO_g32, mdO_k32, mdO_g33, mdO_k33, mdO_g34, mdO_k34, mdO_g35, mdO_k35, mdO_s0, mdO_s5, mdO_s6, mdO_s7, mdO_s8, mdO_s9, mdO_s10, mdO_s11, mdO_s12, mdO_s13, mdO_s14, mdO_s15, mdO_s19, mdO_s20, mdO_s25, mdO_s26, mdO_s31, mdO_s32, md_1, md_2, md_g71, md_g72, md_g73, md_g74, md_g75, md_g76, md_g77, md_g78, md_g79, md_g80, md_g81, md_g82, md_g83, md_g84, md_g85, md_g86, md_g87, md_g88, md_g89, md_out, md_u71, md_u72, md_u73, md_u74, md_u75, md_u76, md_u77, md_u78, md_u79, md_u80, md_u81, md_u82, md_u83, md_u84, md_u85, md_u86, md_u87, md_u88, md_u89, md_uo, iup_s, iup_n, aup_s, aup_n, ne_eq, not_false_eq_true, sh_0, sh_1, sh_2, sh_3, sh_4, sh_5, sh_8, sh_15, sh_16, sh_24, Int.reducePow, Int.cast_ofNat_Int, w_of, wl_of, ltT, ltF, leT, leF, eqT, eqF, okF_0, okF_s, gF_0, gF_s, consC_o, sF_0, sF_s, clsO_o, inA_i, ldA_i, stA_i, inJ_l, ldJ_l, stJ_l, inR_r, ldR_r, stR_r, tgR_r, lenA_i, lenA_l, lenA_r, lenA_ex, nl_i, nl_o, nl_l, nl_n, wd_n, wd_i, wd_l, wd_o, fit_i, fit_l, fit_o, K_v, K_n, true_and, and_true, Nat.reduceAdd, Nat.reduceLeDiff, Nat.reduceEqDiff, Nat.reduceMul, Nat.reduceLT, reduceIte, true_or, or_true, cmp_lt, cmp_gt, cmp_eq, wb_0, b_01, cmp_lt', cmp_gt', cmp_eq', b_0, b_1, wb_1, Int.reduceSub, Int.reduceToNat, List.getD_cons_succ, List.getD_cons_zero, Int.reduceLE, Int.reduceLT, Int.reduceEq, Int.reduceNeg, Int.reduceAdd, Int.reduceMul, and_self, em_b, ne_eq, not_false_eq_true, not_true_eq_false]
    · have hd' : downB c s = false := by simpa using hd
      simp only [hd', if_false, Bool.false_eq_true] at dn
      obtain ⟨j, B, f1, f2, g⟩ := r_canKeep (h := h) (i := iup i 0 0) (b := 3) (N := x.toNat) hq' (by omega) (by omega)
      rw [ex] at g
      simp only [nc3] at g
      have fi : frI [0, 25] i j := frI_t (frI_u (by decide)) (frI_w f1 (by decide))
      by_cases hk : prB (surv c sky 3 x.toNat s) = true
      · simp only [hk, if_true] at g
        have lp : ∀ (r p : Nat) (j : Nat → Int) (B : Nat → Int → Int), p + r = kN c → refQ c s sky hrs B → ∃ j' B', frI [25] j j' ∧ frA [76, 77, 79, 80, 82, 83, 84] B B' ∧ ∀ d Q, WP (d + 9) 255 45 [some (vr 71), some (vi x), some (vi (bitsF p (fun p => !prB (surv c sky p x.toNat s)))), some (vi p)] [] (mdH h j B) Q = Q (some (vi (bitsF (kN c) (fun p => !prB (surv c sky p x.toNat s))))) (mdH h j' B') := by
          intro r
          induction r with
          | zero =>
            intro p j B hp hqB
            have hn := hqB.2.1.2.2.1
            have hp' : p = kN c := by omega
            subst hp'
            refine ⟨j, B, frI_r, frA_r, fun d Q => ?_⟩
            rw [e_255_45]
            simp (disch := omega) only [e_255_46, e_255_47, e_255_50, e_255_51, e_255_52, e_255_80, e_255_81, hn, mdO_c, mdO_g0, mdO_k0, mdO_g1, mdO_k1, mdO_g2, mdO_k2, mdO_g3, mdO_k3, mdO_g4, mdO_k4, mdO_g5, mdO_k5, mdO_g6, mdO_k6, mdO_g7, mdO_k7, mdO_g8, mdO_k8, mdO_g9, mdO_k9, mdO_g10, mdO_k10, mdO_g11, mdO_k11, mdO_g12, mdO_k12, mdO_g13, mdO_k13, mdO_g14, mdO_k14, mdO_g15, mdO_k15, mdO_g16, mdO_k16, mdO_g17, mdO_k17, mdO_g18, mdO_k18, mdO_g19, mdO_k19, mdO_g20, mdO_k20, mdO_g21, mdO_k21, mdO_g22, mdO_k22, mdO_g23, mdO_k23, mdO_g24, mdO_k24, mdO_g25, mdO_k25, mdO_g26, mdO_k26, mdO_g27, mdO_k27, mdO_g28, mdO_k28, mdO_g29, mdO_k29, mdO_g30, mdO_k30, mdO_g31, mdO_k31, mdO_g32, mdO_k32, mdO_g33, mdO_k33, mdO_g34, mdO_k34, mdO_g35, mdO_k35, mdO_s0, mdO_s5, mdO_s6, mdO_s7, mdO_s8, mdO_s9, mdO_s10, mdO_s11, mdO_s12, mdO_s13, mdO_s14, mdO_s15, mdO_s19, mdO_s20, mdO_s25, mdO_s26, mdO_s31, mdO_s32, md_1, md_2, md_g71, md_g72, md_g73, md_g74, md_g75, md_g76, md_g77, md_g78, md_g79, md_g80, md_g81, md_g82, md_g83, md_g84, md_g85, md_g86, md_g87, md_g88, md_g89, md_out, md_u71, md_u72, md_u73, md_u74, md_u75, md_u76, md_u77, md_u78, md_u79, md_u80, md_u81, md_u82, md_u83, md_u84, md_u85, md_u86, md_u87, md_u88, md_u89, md_uo, iup_s, iup_n, aup_s, aup_n, ne_eq, not_false_eq_true, sh_0, sh_1, sh_2, sh_3, sh_4, sh_5, sh_8, sh_15, sh_16, sh_24, Int.reducePow, Int.cast_ofNat_Int, w_of, wl_of, ltT, ltF, leT, leF, eqT, eqF, okF_0, okF_s, gF_0, gF_s, consC_o, sF_0, sF_s, clsO_o, inA_i, ldA_i, stA_i, inJ_l, ldJ_l, stJ_l, inR_r, ldR_r, stR_r, tgR_r, lenA_i, lenA_l, lenA_r, lenA_ex, nl_i, nl_o, nl_l, nl_n, wd_n, wd_i, wd_l, wd_o, fit_i, fit_l, fit_o, K_v, K_n, true_and, and_true, Nat.reduceAdd, Nat.reduceLeDiff, Nat.reduceEqDiff, Nat.reduceMul, Nat.reduceLT, reduceIte, true_or, or_true, cmp_lt, cmp_gt, cmp_eq, wb_0, b_01, cmp_lt', cmp_gt', cmp_eq', b_0, b_1, wb_1, Int.reduceSub, Int.reduceToNat, List.getD_cons_succ, List.getD_cons_zero, Int.reduceLE, Int.reduceLT, Int.reduceEq, Int.reduceNeg, Int.reduceAdd, Int.reduceMul, and_self, em_b, ne_eq, not_false_eq_true, not_true_eq_false]
          | succ r ih =>
            intro p j B hp hqB
            have hn := hqB.2.1.2.2.1
            obtain ⟨j1, B1, e1, e2, e3⟩ := r_canKeep (h := h) (i := j) (b := p) (N := x.toNat) hqB (by omega) (by omega)
            rw [ex] at e3
            obtain ⟨j2, B2, k1, k2, k3⟩ := ih (p + 1) j1 B1 (by omega) (refQ_x hqB (e2 72 (by decide)))
            refine ⟨j2, B2, frI_t e1 k1, frA_t e2 k2, fun d Q => ?_⟩
            rw [← k3 d Q, ← bitsF_s (by omega)]
            have hbl := bitsF_lt (n := p) (f := fun p => !prB (surv c sky p x.toNat s))
            have h8 : 2 ^ p ≤ 2 ^ 3 := Nat.pow_le_pow_right (by decide) (by omega)
            have hi0 := ior_0 (a := bitsF p (fun p => !prB (surv c sky p x.toNat s))) (by omega)
            by_cases q : prB (surv c sky p x.toNat s) = true
            · simp only [q, if_true, Bool.not_true, if_false, Bool.false_eq_true] at e3 ⊢
              rw [e_255_45]
              simp (disch := omega) only [e_255_46, e_255_47, e_255_50, e_255_51, e_255_52, e_255_55, e_255_56, e_255_57, e_255_58, e_255_59, e_255_62, e_255_65, e_255_66, e_255_69, e_255_70, e_255_71, e_255_72, e_255_73, e_255_74, e_255_77, hn, e3, hi0, mdO_c, mdO_g0, mdO_k0, mdO_g1, mdO_k1, mdO_g2, mdO_k2, mdO_g3, mdO_k3, mdO_g4, mdO_k4, mdO_g5, mdO_k5, mdO_g6, mdO_k6, mdO_g7, mdO_k7, mdO_g8, mdO_k8, mdO_g9, mdO_k9, mdO_g10, mdO_k10, mdO_g11, mdO_k11, mdO_g12, mdO_k12, mdO_g13, mdO_k13, mdO_g14, mdO_k14, mdO_g15, mdO_k15, mdO_g16, mdO_k16, mdO_g17, mdO_k17, mdO_g18, mdO_k18, mdO_g19, mdO_k19, mdO_g20, mdO_k20, mdO_g21, mdO_k21, mdO_g22, mdO_k22, mdO_g23, mdO_k23, mdO_g24, mdO_k24, mdO_g25, mdO_k25, mdO_g26, mdO_k26, mdO_g27, mdO_k27, mdO_g28, mdO_k28, mdO_g29, mdO_k29, mdO_g30, mdO_k30, mdO_g31, mdO_k31, mdO_g32, mdO_k32, mdO_g33, mdO_k33, mdO_g34, mdO_k34, mdO_g35, mdO_k35, mdO_s0, mdO_s5, mdO_s6, mdO_s7, mdO_s8, mdO_s9, mdO_s10, mdO_s11, mdO_s12, mdO_s13, mdO_s14, mdO_s15, mdO_s19, mdO_s20, mdO_s25, mdO_s26, mdO_s31, mdO_s32, md_1, md_2, md_g71, md_g72, md_g73, md_g74, md_g75, md_g76, md_g77, md_g78, md_g79, md_g80, md_g81, md_g82, md_g83, md_g84, md_g85, md_g86, md_g87, md_g88, md_g89, md_out, md_u71, md_u72, md_u73, md_u74, md_u75, md_u76, md_u77, md_u78, md_u79, md_u80, md_u81, md_u82, md_u83, md_u84, md_u85, md_u86, md_u87, md_u88, md_u89, md_uo, iup_s, iup_n, aup_s, aup_n, ne_eq, not_false_eq_true, sh_0, sh_1, sh_2, sh_3, sh_4, sh_5, sh_8, sh_15, sh_16, sh_24, Int.reducePow, Int.cast_ofNat_Int, w_of, wl_of, ltT, ltF, leT, leF, eqT, eqF, okF_0, okF_s, gF_0, gF_s, consC_o, sF_0, sF_s, clsO_o, inA_i, ldA_i, stA_i, inJ_l, ldJ_l, stJ_l, inR_r, ldR_r, stR_r, tgR_r, lenA_i, lenA_l, lenA_r, lenA_ex, nl_i, nl_o, nl_l, nl_n, wd_n, wd_i, wd_l, wd_o, fit_i, fit_l, fit_o, K_v, K_n, true_and, and_true, Nat.reduceAdd, Nat.reduceLeDiff, Nat.reduceEqDiff, Nat.reduceMul, Nat.reduceLT, reduceIte, true_or, or_true, cmp_lt, cmp_gt, cmp_eq, wb_0, b_01, cmp_lt', cmp_gt', cmp_eq', b_0, b_1, wb_1, Int.reduceSub, Int.reduceToNat, List.getD_cons_succ, List.getD_cons_zero, Int.reduceLE, Int.reduceLT, Int.reduceEq, Int.reduceNeg, Int.reduceAdd, Int.reduceMul, and_self, em_b, ne_eq, not_false_eq_true, not_true_eq_false]
              try rfl
            · have q' : prB (surv c sky p x.toNat s) = false := by simpa using q
              simp only [q', if_true, Bool.not_false, if_false, Bool.false_eq_true] at e3 ⊢
              rw [e_255_45]
              simp (disch := omega) only [e_255_46, e_255_47, e_255_50, e_255_51, e_255_52, e_255_55, e_255_56, e_255_57, e_255_58, e_255_59, e_255_62, e_255_65, e_255_66, e_255_69, e_255_70, e_255_71, e_255_72, e_255_73, e_255_74, e_255_77, hn, e3, hi0, mdO_c, mdO_g0, mdO_k0, mdO_g1, mdO_k1, mdO_g2, mdO_k2, mdO_g3, mdO_k3, mdO_g4, mdO_k4, mdO_g5, mdO_k5, mdO_g6, mdO_k6, mdO_g7, mdO_k7, mdO_g8, mdO_k8, mdO_g9, mdO_k9, mdO_g10, mdO_k10, mdO_g11, mdO_k11, mdO_g12, mdO_k12, mdO_g13, mdO_k13, mdO_g14, mdO_k14, mdO_g15, mdO_k15, mdO_g16, mdO_k16, mdO_g17, mdO_k17, mdO_g18, mdO_k18, mdO_g19, mdO_k19, mdO_g20, mdO_k20, mdO_g21, mdO_k21, mdO_g22, mdO_k22, mdO_g23, mdO_k23, mdO_g24, mdO_k24, mdO_g25, mdO_k25, mdO_g26, mdO_k26, mdO_g27, mdO_k27, mdO_g28, mdO_k28, mdO_g29, mdO_k29, mdO_g30, mdO_k30, mdO_g31, mdO_k31, mdO_g32, mdO_k32, mdO_g33, mdO_k33, mdO_g34, mdO_k34, mdO_g35, mdO_k35, mdO_s0, mdO_s5, mdO_s6, mdO_s7, mdO_s8, mdO_s9, mdO_s10, mdO_s11, mdO_s12, mdO_s13, mdO_s14, mdO_s15, mdO_s19, mdO_s20, mdO_s25, mdO_s26, mdO_s31, mdO_s32, md_1, md_2, md_g71, md_g72, md_g73, md_g74, md_g75, md_g76, md_g77, md_g78, md_g79, md_g80, md_g81, md_g82, md_g83, md_g84, md_g85, md_g86, md_g87, md_g88, md_g89, md_out, md_u71, md_u72, md_u73, md_u74, md_u75, md_u76, md_u77, md_u78, md_u79, md_u80, md_u81, md_u82, md_u83, md_u84, md_u85, md_u86, md_u87, md_u88, md_u89, md_uo, iup_s, iup_n, aup_s, aup_n, ne_eq, not_false_eq_true, sh_0, sh_1, sh_2, sh_3, sh_4, sh_5, sh_8, sh_15, sh_16, sh_24, Int.reducePow, Int.cast_ofNat_Int, w_of, wl_of, ltT, ltF, leT, leF, eqT, eqF, okF_0, okF_s, gF_0, gF_s, consC_o, sF_0, sF_s, clsO_o, inA_i, ldA_i, stA_i, inJ_l, ldJ_l, stJ_l, inR_r, ldR_r, stR_r, tgR_r, lenA_i, lenA_l, lenA_r, lenA_ex, nl_i, nl_o, nl_l, nl_n, wd_n, wd_i, wd_l, wd_o, fit_i, fit_l, fit_o, K_v, K_n, true_and, and_true, Nat.reduceAdd, Nat.reduceLeDiff, Nat.reduceEqDiff, Nat.reduceMul, Nat.reduceLT, reduceIte, true_or, or_true, cmp_lt, cmp_gt, cmp_eq, wb_0, b_01, cmp_lt', cmp_gt', cmp_eq', b_0, b_1, wb_1, Int.reduceSub, Int.reduceToNat, List.getD_cons_succ, List.getD_cons_zero, Int.reduceLE, Int.reduceLT, Int.reduceEq, Int.reduceNeg, Int.reduceAdd, Int.reduceMul, and_self, em_b, ne_eq, not_false_eq_true, not_true_eq_false]
              try rfl
        obtain ⟨j2, B2, k1, k2, k3⟩ := lp (kN c) 0 j B (by omega) (refQ_x hq' (f2 72 (by decide)))
        have e0 : (bitsF 0 (fun p => !prB (surv c sky p x.toNat s)) : Int) = 0 := rfl
        refine ⟨needV c sky x.toNat s, j2, B2, Or.inr (Or.inr ⟨hb, hd', rfl⟩), qR_of (frI_t fi (frI_w k1 (by decide))) (frA_t f2 k2) (by decide) (by decide), fun d Q => ?_⟩
        have k3' := k3 d Q
        rw [e0, nc0] at k3'
        have en : needV c sky x.toNat s = bitsF (kN c) (fun p => !prB (surv c sky p x.toNat s)) := by unfold needV; rw [if_pos hk]
        rw [en, ← k3']
        simp (disch := omega) only [e_255_0, e_255_1, e_255_2, e_255_5, e_255_6, e_255_7, e_255_8, e_255_11, e_255_14, e_255_17, e_255_19, e_255_20, e_255_21, e_255_24, e_255_27, e_255_29, e_255_30, e_255_31, e_255_32, e_255_33, e_255_34, e_255_35, e_255_38, e_255_41, e_255_42, e_255_43, e_255_44, wi, dn, g, mdO_c, mdO_g0, mdO_k0, mdO_g1, mdO_k1, mdO_g2, mdO_k2, mdO_g3, mdO_k3, mdO_g4, mdO_k4, mdO_g5, mdO_k5, mdO_g6, mdO_k6, mdO_g7, mdO_k7, mdO_g8, mdO_k8, mdO_g9, mdO_k9, mdO_g10, mdO_k10, mdO_g11, mdO_k11, mdO_g12, mdO_k12, mdO_g13, mdO_k13, mdO_g14, mdO_k14, mdO_g15, mdO_k15, mdO_g16, mdO_k16, mdO_g17, mdO_k17, mdO_g18, mdO_k18, mdO_g19, mdO_k19, mdO_g20, mdO_k20, mdO_g21, mdO_k21, mdO_g22, mdO_k22, mdO_g23, mdO_k23, mdO_g24, mdO_k24, mdO_g25, mdO_k25, mdO_g26, mdO_k26, mdO_g27, mdO_k27, mdO_g28, mdO_k28, mdO_g29, mdO_k29, mdO_g30, mdO_k30, mdO_g31, mdO_k31, mdO_g32, mdO_k32, mdO_g33, mdO_k33, mdO_g34, mdO_k34, mdO_g35, mdO_k35, mdO_s0, mdO_s5, mdO_s6, mdO_s7, mdO_s8, mdO_s9, mdO_s10, mdO_s11, mdO_s12, mdO_s13, mdO_s14, mdO_s15, mdO_s19, mdO_s20, mdO_s25, mdO_s26, mdO_s31, mdO_s32, md_1, md_2, md_g71, md_g72, md_g73, md_g74, md_g75, md_g76, md_g77, md_g78, md_g79, md_g80, md_g81, md_g82, md_g83, md_g84, md_g85, md_g86, md_g87, md_g88, md_g89, md_out, md_u71, md_u72, md_u73, md_u74, md_u75, md_u76, md_u77, md_u78, md_u79, md_u80, md_u81, md_u82, md_u83, md_u84, md_u85, md_u86, md_u87, md_u88, md_u89, md_uo, iup_s, iup_n, aup_s, aup_n, ne_eq, not_false_eq_true, sh_0, sh_1, sh_2, sh_3, sh_4, sh_5, sh_8, sh_15, sh_16, sh_24, Int.reducePow, Int.cast_ofNat_Int, w_of, wl_of, ltT, ltF, leT, leF, eqT, eqF, okF_0, okF_s, gF_0, gF_s, consC_o, sF_0, sF_s, clsO_o, inA_i, ldA_i, stA_i, inJ_l, ldJ_l, stJ_l, inR_r, ldR_r, stR_r, tgR_r, lenA_i, lenA_l, lenA_r, lenA_ex, nl_i, nl_o, nl_l, nl_n, wd_n, wd_i, wd_l, wd_o, fit_i, fit_l, fit_o, K_v, K_n, true_and, and_true, Nat.reduceAdd, Nat.reduceLeDiff, Nat.reduceEqDiff, Nat.reduceMul, Nat.reduceLT, reduceIte, true_or, or_true, cmp_lt, cmp_gt, cmp_eq, wb_0, b_01, cmp_lt', cmp_gt', cmp_eq', b_0, b_1, wb_1, Int.reduceSub, Int.reduceToNat, List.getD_cons_succ, List.getD_cons_zero, Int.reduceLE, Int.reduceLT, Int.reduceEq, Int.reduceNeg, Int.reduceAdd, Int.reduceMul, and_self, em_b, ne_eq, not_false_eq_true, not_true_eq_false]
      · have hk' : prB (surv c sky 3 x.toNat s) = false := by simpa using hk
        simp only [hk', if_false, Bool.false_eq_true] at g
        refine ⟨needV c sky x.toNat s, j, B, Or.inr (Or.inr ⟨hb, hd', rfl⟩), qR_of fi f2 (by decide) (by decide), fun d Q => ?_⟩
        have en : needV c sky x.toNat s = 0 := by unfold needV; rw [hk']; rfl
        rw [en]
        simp (disch := omega) only [e_255_0, e_255_1, e_255_2, e_255_5, e_255_6, e_255_7, e_255_8, e_255_11, e_255_14, e_255_17, e_255_19, e_255_20, e_255_21, e_255_24, e_255_27, e_255_29, e_255_30, e_255_31, e_255_32, e_255_33, e_255_34, e_255_35, e_255_38, e_255_41, e_255_42, wi, dn, g, mdO_c, mdO_g0, mdO_k0, mdO_g1, mdO_k1, mdO_g2, mdO_k2, mdO_g3, mdO_k3, mdO_g4, mdO_k4, mdO_g5, mdO_k5, mdO_g6, mdO_k6, mdO_g7, mdO_k7, mdO_g8, mdO_k8, mdO_g9, mdO_k9, mdO_g10, mdO_k10, mdO_g11, mdO_k11, mdO_g12, mdO_k12, mdO_g13, mdO_k13, mdO_g14, mdO_k14, mdO_g15, mdO_k15, mdO_g16, mdO_k16, mdO_g17, mdO_k17, mdO_g18, mdO_k18, mdO_g19, mdO_k19, mdO_g20, mdO_k20, mdO_g21, mdO_k21, mdO_g22, mdO_k22, mdO_g23, mdO_k23, mdO_g24, mdO_k24, mdO_g25, mdO_k25, mdO_g26, mdO_k26, mdO_g27, mdO_k27, mdO_g28, mdO_k28, mdO_g29, mdO_k29, mdO_g30, mdO_k30, mdO_g31, mdO_k31, mdO_g32, mdO_k32, mdO_g33, mdO_k33, mdO_g34, mdO_k34, mdO_g35, mdO_k35, mdO_s0, mdO_s5, mdO_s6, mdO_s7, mdO_s8, mdO_s9, mdO_s10, mdO_s11, mdO_s12, mdO_s13, mdO_s14, mdO_s15, mdO_s19, mdO_s20, mdO_s25, mdO_s26, mdO_s31, mdO_s32, md_1, md_2, md_g71, md_g72, md_g73, md_g74, md_g75, md_g76, md_g77, md_g78, md_g79, md_g80, md_g81, md_g82, md_g83, md_g84, md_g85, md_g86, md_g87, md_g88, md_g89, md_out, md_u71, md_u72, md_u73, md_u74, md_u75, md_u76, md_u77, md_u78, md_u79, md_u80, md_u81, md_u82, md_u83, md_u84, md_u85, md_u86, md_u87, md_u88, md_u89, md_uo, iup_s, iup_n, aup_s, aup_n, ne_eq, not_false_eq_true, sh_0, sh_1, sh_2, sh_3, sh_4, sh_5, sh_8, sh_15, sh_16, sh_24, Int.reducePow, Int.cast_ofNat_Int, w_of, wl_of, ltT, ltF, leT, leF, eqT, eqF, okF_0, okF_s, gF_0, gF_s, consC_o, sF_0, sF_s, clsO_o, inA_i, ldA_i, stA_i, inJ_l, ldJ_l, stJ_l, inR_r, ldR_r, stR_r, tgR_r, lenA_i, lenA_l, lenA_r, lenA_ex, nl_i, nl_o, nl_l, nl_n, wd_n, wd_i, wd_l, wd_o, fit_i, fit_l, fit_o, K_v, K_n, true_and, and_true, Nat.reduceAdd, Nat.reduceLeDiff, Nat.reduceEqDiff, Nat.reduceMul, Nat.reduceLT, reduceIte, true_or, or_true, cmp_lt, cmp_gt, cmp_eq, wb_0, b_01, cmp_lt', cmp_gt', cmp_eq', b_0, b_1, wb_1, Int.reduceSub, Int.reduceToNat, List.getD_cons_succ, List.getD_cons_zero, Int.reduceLE, Int.reduceLT, Int.reduceEq, Int.reduceNeg, Int.reduceAdd, Int.reduceMul, and_self, em_b, ne_eq, not_false_eq_true, not_true_eq_false]
        try rfl
  · have hb' := eq_false hb
    simp only [hb', if_false] at wi
    refine ⟨-3, iup i 0 0, A, Or.inl ⟨hb, rfl⟩, q0, fun d Q => ?_⟩
    clear hb hb'
    simp (disch := omega) only [e_255_0, e_255_1, e_255_2, e_255_5, e_255_6, e_255_7, e_255_8, e_255_11, e_255_14, e_255_17, e_255_19, wi, mdO_c, mdO_g0, mdO_k0, mdO_g1, mdO_k1, mdO_g2, mdO_k2, mdO_g3, mdO_k3, mdO_g4, mdO_k4, mdO_g5, mdO_k5, mdO_g6, mdO_k6, mdO_g7, mdO_k7, mdO_g8, mdO_k8, mdO_g9, mdO_k9, mdO_g10, mdO_k10, mdO_g11, mdO_k11, mdO_g12, mdO_k12, mdO_g13, mdO_k13, mdO_g14, mdO_k14, mdO_g15, mdO_k15, mdO_g16, mdO_k16, mdO_g17, mdO_k17, mdO_g18, mdO_k18, mdO_g19, mdO_k19, mdO_g20, mdO_k20, mdO_g21, mdO_k21, mdO_g22, mdO_k22, mdO_g23, mdO_k23, mdO_g24, mdO_k24, mdO_g25, mdO_k25, mdO_g26, mdO_k26, mdO_g27, mdO_k27, mdO_g28, mdO_k28, mdO_g29, mdO_k29, mdO_g30, mdO_k30, mdO_g31, mdO_k31, mdO_g32, mdO_k32, mdO_g33, mdO_k33, mdO_g34, mdO_k34, mdO_g35, mdO_k35, mdO_s0, mdO_s5, mdO_s6, mdO_s7, mdO_s8, mdO_s9, mdO_s10, mdO_s11, mdO_s12, mdO_s13, mdO_s14, mdO_s15, mdO_s19, mdO_s20, mdO_s25, mdO_s26, mdO_s31, mdO_s32, md_1, md_2, md_g71, md_g72, md_g73, md_g74, md_g75, md_g76, md_g77, md_g78, md_g79, md_g80, md_g81, md_g82, md_g83, md_g84, md_g85, md_g86, md_g87, md_g88, md_g89, md_out, md_u71, md_u72, md_u73, md_u74, md_u75, md_u76, md_u77, md_u78, md_u79, md_u80, md_u81, md_u82, md_u83, md_u84, md_u85, md_u86, md_u87, md_u88, md_u89, md_uo, iup_s, iup_n, aup_s, aup_n, ne_eq, not_false_eq_true, sh_0, sh_1, sh_2, sh_3, sh_4, sh_5, sh_8, sh_15, sh_16, sh_24, Int.reducePow, Int.cast_ofNat_Int, w_of, wl_of, ltT, ltF, leT, leF, eqT, eqF, okF_0, okF_s, gF_0, gF_s, consC_o, sF_0, sF_s, clsO_o, inA_i, ldA_i, stA_i, inJ_l, ldJ_l, stJ_l, inR_r, ldR_r, stR_r, tgR_r, lenA_i, lenA_l, lenA_r, lenA_ex, nl_i, nl_o, nl_l, nl_n, wd_n, wd_i, wd_l, wd_o, fit_i, fit_l, fit_o, K_v, K_n, true_and, and_true, Nat.reduceAdd, Nat.reduceLeDiff, Nat.reduceEqDiff, Nat.reduceMul, Nat.reduceLT, reduceIte, true_or, or_true, cmp_lt, cmp_gt, cmp_eq, wb_0, b_01, cmp_lt', cmp_gt', cmp_eq', b_0, b_1, wb_1, Int.reduceSub, Int.reduceToNat, List.getD_cons_succ, List.getD_cons_zero, Int.reduceLE, Int.reduceLT, Int.reduceEq, Int.reduceNeg, Int.reduceAdd, Int.reduceMul, and_self, em_b, ne_eq, not_false_eq_true, not_true_eq_false]
