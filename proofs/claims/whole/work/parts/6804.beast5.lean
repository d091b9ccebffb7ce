/-! THE CLASS: the Beast, solve -/
def beI (c : KC) (sky : Nat) (W : Int → Int) : Prop := ∃ M : List ST, (∀ x, x ∈ M → okS c x) ∧ clsB c sky M ∧ (∀ x, x ∈ M → bfI c sky W x) ∧ ∀ x, okS c x → ¬ x ∈ M → W (encC c x) = 0
def beaW (ow : Nat → Nat) (h : PH) (wA n : Nat) : Prop := ow wA = 6 ∧ 59 < wA ∧ wA < h.1 ∧ n ≤ 24000
/-- solved for a county, a weather and a stand -/
def BeaS (ow : Nat → Nat) (h : PH) (ca : Nat) (c : KC) (sky n : Nat) (s : ST) : Prop := ∃ (i : Nat → Int) (wA : Nat) (W : Int → Int), hp h 59 = beO i (vr ca) (vr wA) ∧ hp h wA = aI 0 n W ∧ beaW ow h wA n ∧ szC c ≤ n ∧ i 2 = (sky : Int) ∧ beI c sky W ∧ W (encC c s) ≠ 0
def BeaP (kc : Nat → KC) (ow : Nat → Nat) (h : PH) (n : Nat) : Prop := ∃ (i : Nat → Int) (cca wA : Nat) (W : Int → Int), hp h 59 = beO i (vr cca) (vr wA) ∧ hp h wA = aI 0 n W ∧ beaW ow h wA n ∧ 10 ≤ cca ∧ (-2147483648 ≤ i 2 ∧ i 2 < 2147483648) ∧ ((n = 0 ∧ 1 ≤ szC (kc cca)) ∨ (szC (kc cca) ≤ n ∧ ∃ sky : Nat, i 2 = (sky : Int) ∧ beI (kc cca) sky W))
theorem BeaS_P {kc : Nat → KC} {ow : Nat → Nat} {h : PH} {ca : Nat} {c : KC} {sky n : Nat} {s : ST} (hca : 10 ≤ ca) (hsky : sky < 10) (hkc : kc ca = c) (hV : BeaS ow h ca c sky n s) : BeaP kc ow h n := by
  obtain ⟨i, wA, W, v1, v2, v3, v4, v5, v6, v7⟩ := hV
  exact ⟨i, ca, wA, W, v1, v2, v3, hca, ⟨by omega, by omega⟩, Or.inr ⟨by rw [hkc]; exact v4, sky, v5, by rw [hkc]; exact v6⟩⟩
theorem BeaP_e {kc : Nat → KC} {ow ow' : Nat → Nat} {h h' : PH} {n : Nat} {T : List Nat} (hF : owF ow h) (hx : extO ow h ow' h' T) (ht : ¬ 6 ∈ T) (hP : BeaP kc ow h n) : BeaP kc ow' h' n := by
  obtain ⟨i, cca, wA, W, v1, v2, ⟨w1, w2, w3, w4⟩, v4⟩ := hP
  have h90 := hF.1
  exact ⟨i, cca, wA, W, by rw [hx.2.2 59 (by omega) (by rw [show ow 59 = 6 from hF.2 59 (by omega)]; exact ht)]; exact v1, by rw [hx.2.2 wA w3 (by rw [w1]; exact ht)]; exact v2, ⟨by rw [hx.2.1 wA w3]; exact w1, w2, Nat.lt_of_lt_of_le w3 hx.1, w4⟩, v4⟩
theorem Be_meetAll {ow : Nat → Nat} {h : PH} {c : KC} {ca sky e dl dx wA n nd : Nat} {pm : PV} {i : Nat → Int} {W fl O : Int → Int} {s : ST} (hO : okC c) (hF : owF ow h) (hH : HoP ow h ca c sky e) (hn : szC c ≤ n) (hn1 : n ≤ 24000) (hn2 : szC c ≤ nd) (hn3 : nd ≤ 24000) (ow6 : ow wA = 6) (ol : ow dl = 2) (ox : ow dx = 2) (q1 : 59 < wA) (q3 : 34 < dl) (q2 : 34 < dx) (q4 : dl ≠ dx) (hs : okS c s) (h34 : hp h 34 = dkO (vr dl) (vr dx) pm) (h59 : hp h 59 = beO i (vr ca) (vr wA)) (hi : i 2 = (sky : Int)) (hw : hp h wA = aI 0 n W) (hfl : hp h dl = aI 0 nd fl) (hdx : hp h dx = aI 0 nd O) (h0 : ∀ x, okS c x → W (encC c x) = 0) :
    ∃ (h' : PH) (M' : List ST) (O' : Int → Int), s ∈ M' ∧ chx ow [59, wA, dl, dx] h h' ∧ HoP ow h' ca c sky e ∧ MtS c h' ca sky dl dx wA n nd pm M' ∧ hp h' dx = aI 0 nd O' ∧ (∀ x, x ∈ M' → O' (encC c x) = -1) ∧ clsB c sky M' ∧ ∀ d Q, WP (d + 9) 5 0 [some (vr 59), some (vr 27), some (vi (encC c s)), none, none, none, none, none] [] h Q = Q none h' := by
  have hK := hO.1
  have t59 : ow 59 = 6 := hF.2 59 (by omega)
  have x59 : dx ≠ 59 := fun z => by rw [z, t59] at ox; omega
  have l59 : dl ≠ 59 := fun z => by rw [z, t59] at ol; omega
  have xw : dx ≠ wA := fun z => by rw [z, ow6] at ox; omega
  have c0 : chg ow [6] h (hup h 59 (beO (iup i 4 0) (vr ca) (vr wA))) := chg_up t59 (by decide)
  have hF0 := chg_F c0 hF
  have hS0 : MtS c (hup h 59 (beO (iup i 4 0) (vr ca) (vr wA))) ca sky dl dx wA n nd pm [] := ⟨iup i 4 0, W, fl, by rw [hp_upn (by omega)]; exact h34, hp_up1, iup_s, by rw [iup_n (by omega)]; exact hi, by rw [hp_upn (by omega)]; exact hw, by rw [hp_upn l59]; exact hfl, (fun j s hj => by simp at hj), (fun x hx => Or.inr ⟨by simp, h0 x hx⟩), (fun x hx => by cases hx), by simp⟩
  obtain ⟨h1, E, b1, b2, b3, b4⟩ := Be_meet hK hF0 hn hn1 hn2 hn3 ow6 ol q1 q3 hS0 hs
  have hc1 := chs_b hF0 ow6 ol b1
  have hF1 := chg_F hc1 hF0
  have hH1 := HoP_c hF0 hc1 (by decide) (by decide) (HoP_c hF c0 (by decide) (by decide) hH)
  obtain ⟨h', M', O', d1, d2, d3, d4, d5, d6, d7, d8⟩ := Be_iLp (ow := ow) (x2 := (encC c s : Int)) hO hn hn1 hn2 hn3 ow6 ol ox q1 q3 q2 q4 24001 0 h1 ([] ++ E) O none none none none (by omega) (by omega) hF1 hH1 b2 (by rw [b1.2.2 dx (by simp; exact ⟨x59, xw, fun z => q4 z.symm⟩), hp_upn x59]; exact hdx) (fun q x hq => by omega)
  refine ⟨h', M', O', d1 s b3, chx_t (chx_t (chx_up (by simp)) (chx_w (chs_x b1) (by intro t ht; simp at ht ⊢; omega))) d2, d3, d4, d5, d6, d7, fun d Q => ?_⟩
  have d8' := d8 d Q
  rw [nc0] at d8'
  rw [← d8']
  have b4' := fun (d : Nat) (Q : PQ) => b4 d Q
  simp (disch := omega) only [e_5_0, e_5_1, e_5_2, e_5_5, e_5_6, e_5_7, e_5_10, e_5_11, h59, b4', true_and, beO_c, beO_g0, beO_k0, beO_g1, beO_k1, beO_s1, beO_g2, beO_k2, beO_s2, beO_g3, beO_k3, beO_s3, beO_g4, beO_k4, beO_s4, dkO_c, dkO_g0, dkO_k0, dkO_s0, dkO_g1, dkO_k1, dkO_s1, dkO_g2, dkO_k2, dkO_s2, hoO_c, hoO_g0, hoO_k0, hoO_s0, hoO_g1, hoO_k1, hoO_s1, hoO_g2, hoO_k2, hoO_s2, hoO_g3, hoO_k3, hoO_g4, hoO_k4, hoO_g5, hoO_k5, hoO_g6, hoO_k6, hoO_g7, hoO_k7, hoO_g8, hoO_k8, hoO_g9, hoO_k9, hoO_s9, iup_s, iup_n, hp_up1, hp_upn, ne_eq, not_false_eq_true, sh_0, sh_1, sh_2, sh_3, sh_4, sh_5, sh_8, sh_15, sh_16, sh_24, Int.reducePow, Int.cast_ofNat_Int, w_of, wl_of, ltT, ltF, leT, leF, eqT, eqF, okF_0, okF_s, gF_0, gF_s, consC_o, sF_0, sF_s, clsO_o, inA_i, ldA_i, stA_i, inJ_l, ldJ_l, stJ_l, inR_r, ldR_r, stR_r, tgR_r, lenA_i, lenA_l, lenA_r, lenA_ex, nl_i, nl_o, nl_l, nl_n, wd_n, wd_i, wd_l, wd_o, fit_i, fit_l, fit_o, K_v, K_n, true_and, and_true, Nat.reduceAdd, Nat.reduceLeDiff, Nat.reduceEqDiff, Nat.reduceMul, Nat.reduceLT, reduceIte, true_or, or_true, cmp_lt, cmp_gt, cmp_eq, wb_0, b_01, cmp_lt', cmp_gt', cmp_eq', b_0, b_1, wb_1, Int.reduceSub, Int.reduceToNat, List.getD_cons_succ, List.getD_cons_zero, Int.reduceLE, Int.reduceLT, Int.reduceEq, Int.reduceNeg, Int.reduceAdd, Int.reduceMul, and_self, em_b, ne_eq, not_false_eq_true, not_true_eq_false]
  try rfl
theorem Be_solve {kc : Nat → KC} {ow : Nat → Nat} {h : PH} {ca : Nat} {c : KC} {sky e n nd : Nat} {s : ST} (hF : owF ow h) (hH : HoP ow h ca c sky e) (hkc : kc ca = c) (hD : DesP ow h nd) (hP : BeaP kc ow h n) (hs : okS c s) :
    ∃ (h' : PH) (ow' : Nat → Nat) (n' nd' d1 d2 : Nat), extO ow h ow' h' [1, 2, 6] ∧ ((nd' = nd ∧ d1 = 0) ∨ (nd < nd' ∧ nd' = szC c ∧ d1 = 1)) ∧ ((n' = n ∧ d2 = 0) ∨ (n < n' ∧ n' = szC c ∧ d2 = 1)) ∧ h'.1 = h.1 + 3 * d1 + d2 ∧ h'.2.1 = h.2.1 + (3 * d1 + d2) * szC c ∧ HoP ow' h' ca c sky e ∧ DesP ow' h' nd' ∧ BeaS ow' h' ca c sky n' s ∧ ∀ d Q, WP (d + 11) 3 0 [some (vr 59), some (vr 27), some (vi (encC c s)), none, none, none] [] h Q = Q none h' := by
  have hKC := hH
  obtain ⟨ih, A, a1, a2, a3, a4, a5, a6, a7, a8, hKC⟩ := hKC
  have hO := hKC.2.1
  have hK := hO.1
  have h24 := szC_le hK
  have hsl := encC_lt hK hs
  have h90 := hF.1
  have h1s := a8.1
  have hsky := a8.2.2.2.2.1
  have hcn := hKC.2.2.2.1
  obtain ⟨y4, y5, y6, y7, y8, y9, y10, y11, y14, y15, y17, hA⟩ := KCty_sz hKC
  obtain ⟨i, cca, wA, W, v1, v2, hbw, v4, v5, v6⟩ := hP
  have hbw' := hbw
  obtain ⟨w1, w2, w3, w4⟩ := hbw
  have t59 : ow 59 = 6 := hF.2 59 (by omega)
  have tca : ow ca = 0 := hKC.2.2.1 0 (by omega)
  have ca59 : ca ≠ 59 := fun z => by rw [z, t59] at tca; omega
  have caw : ca ≠ wA := fun z => by rw [z, w1] at tca; omega
  have hcl : ca < h.1 := by have := hKC.2.2.2.2; omega
  by_cases hfast : cca = ca ∧ i 2 = (sky : Int) ∧ n ≠ 0 ∧ W (encC c s) ≠ 0
  · obtain ⟨g1, g2, g3, g4⟩ := hfast
    subst g1
    rcases v6 with ⟨z, -⟩ | ⟨z1, sky', z2, z3⟩
    · exact absurd z g3
    · rw [hkc] at z1 z3
      have es : sky' = sky := by omega
      subst es
      have hwb : -1 ≤ W (encC c s) ∧ W (encC c s) ≤ 2147483647 := by
        obtain ⟨M, m1, m2, m3, m4⟩ := z3
        by_cases q : s ∈ M
        · rcases m3 s q with ⟨u1, -⟩ | ⟨v, u1, -, u2⟩ <;> omega
        · rw [m4 s hs q]; omega
      refine ⟨h, ow, n, nd, 0, 0, ext_r, Or.inl ⟨rfl, rfl⟩, Or.inl ⟨rfl, rfl⟩, by omega, by omega, hH, hD, ⟨i, wA, W, v1, v2, hbw', z1, g2, z3, g4⟩, fun d Q => ?_⟩
      simp (disch := omega) only [e_3_0, e_3_1, e_3_4, e_3_5, e_3_8, e_3_11, e_3_12, e_3_15, e_3_16, e_3_19, e_3_22, e_3_23, e_3_26, e_3_27, e_3_28, e_3_29, e_3_32, e_3_33, e_3_34, e_3_37, e_3_38, e_3_41, e_3_42, e_3_45, e_3_46, e_3_47, e_3_50, v1, v2, a1, h1s, g2, okR_s, v4, true_and, beO_c, beO_g0, beO_k0, beO_g1, beO_k1, beO_s1, beO_g2, beO_k2, beO_s2, beO_g3, beO_k3, beO_s3, beO_g4, beO_k4, beO_s4, dkO_c, dkO_g0, dkO_k0, dkO_s0, dkO_g1, dkO_k1, dkO_s1, dkO_g2, dkO_k2, dkO_s2, hoO_c, hoO_g0, hoO_k0, hoO_s0, hoO_g1, hoO_k1, hoO_s1, hoO_g2, hoO_k2, hoO_s2, hoO_g3, hoO_k3, hoO_g4, hoO_k4, hoO_g5, hoO_k5, hoO_g6, hoO_k6, hoO_g7, hoO_k7, hoO_g8, hoO_k8, hoO_g9, hoO_k9, hoO_s9, iup_s, iup_n, hp_up1, hp_upn, ne_eq, not_false_eq_true, sh_0, sh_1, sh_2, sh_3, sh_4, sh_5, sh_8, sh_15, sh_16, sh_24, Int.reducePow, Int.cast_ofNat_Int, w_of, wl_of, ltT, ltF, leT, leF, eqT, eqF, okF_0, okF_s, gF_0, gF_s, consC_o, sF_0, sF_s, clsO_o, inA_i, ldA_i, stA_i, inJ_l, ldJ_l, stJ_l, inR_r, ldR_r, stR_r, tgR_r, lenA_i, lenA_l, lenA_r, lenA_ex, nl_i, nl_o, nl_l, nl_n, wd_n, wd_i, wd_l, wd_o, fit_i, fit_l, fit_o, K_v, K_n, true_and, and_true, Nat.reduceAdd, Nat.reduceLeDiff, Nat.reduceEqDiff, Nat.reduceMul, Nat.reduceLT, reduceIte, true_or, or_true, cmp_lt, cmp_gt, cmp_eq, wb_0, b_01, cmp_lt', cmp_gt', cmp_eq', b_0, b_1, wb_1, Int.reduceSub, Int.reduceToNat, List.getD_cons_succ, List.getD_cons_zero, Int.reduceLE, Int.reduceLT, Int.reduceEq, Int.reduceNeg, Int.reduceAdd, Int.reduceMul, and_self, em_b, ne_eq, not_false_eq_true, not_true_eq_false]
      try rfl
  · -- to pc 51
    have ns : ∃ x3 : Int, ∀ d Q, WP (d + 11) 3 0 [some (vr 59), some (vr 27), some (vi (encC c s)), none, none, none] [] h Q = WP (d + 11) 3 51 [some (vr 59), some (vr 27), some (vi (encC c s)), some (vi x3), none, none] [] h Q := by
      by_cases n1 : cca = ca
      · subst n1
        by_cases n2 : i 2 = (sky : Int)
        · refine ⟨1, fun d Q => ?_⟩
          rcases v6 with ⟨z, -⟩ | ⟨z1, sky', z2, z3⟩
          · subst z
            have ez : ((0 : Nat) : Int) = 0 := rfl
            simp (disch := omega) only [e_3_0, e_3_1, e_3_4, e_3_5, e_3_8, e_3_11, e_3_12, e_3_15, e_3_16, e_3_19, e_3_22, e_3_23, e_3_26, e_3_27, e_3_28, e_3_29, e_3_32, e_3_33, e_3_34, e_3_37, e_3_38, v1, v2, a1, h1s, n2, okR_s, v4, true_and, ez, beO_c, beO_g0, beO_k0, beO_g1, beO_k1, beO_s1, beO_g2, beO_k2, beO_s2, beO_g3, beO_k3, beO_s3, beO_g4, beO_k4, beO_s4, dkO_c, dkO_g0, dkO_k0, dkO_s0, dkO_g1, dkO_k1, dkO_s1, dkO_g2, dkO_k2, dkO_s2, hoO_c, hoO_g0, hoO_k0, hoO_s0, hoO_g1, hoO_k1, hoO_s1, hoO_g2, hoO_k2, hoO_s2, hoO_g3, hoO_k3, hoO_g4, hoO_k4, hoO_g5, hoO_k5, hoO_g6, hoO_k6, hoO_g7, hoO_k7, hoO_g8, hoO_k8, hoO_g9, hoO_k9, hoO_s9, iup_s, iup_n, hp_up1, hp_upn, ne_eq, not_false_eq_true, sh_0, sh_1, sh_2, sh_3, sh_4, sh_5, sh_8, sh_15, sh_16, sh_24, Int.reducePow, Int.cast_ofNat_Int, w_of, wl_of, ltT, ltF, leT, leF, eqT, eqF, okF_0, okF_s, gF_0, gF_s, consC_o, sF_0, sF_s, clsO_o, inA_i, ldA_i, stA_i, inJ_l, ldJ_l, stJ_l, inR_r, ldR_r, stR_r, tgR_r, lenA_i, lenA_l, lenA_r, lenA_ex, nl_i, nl_o, nl_l, nl_n, wd_n, wd_i, wd_l, wd_o, fit_i, fit_l, fit_o, K_v, K_n, true_and, and_true, Nat.reduceAdd, Nat.reduceLeDiff, Nat.reduceEqDiff, Nat.reduceMul, Nat.reduceLT, reduceIte, true_or, or_true, cmp_lt, cmp_gt, cmp_eq, wb_0, b_01, cmp_lt', cmp_gt', cmp_eq', b_0, b_1, wb_1, Int.reduceSub, Int.reduceToNat, List.getD_cons_succ, List.getD_cons_zero, Int.reduceLE, Int.reduceLT, Int.reduceEq, Int.reduceNeg, Int.reduceAdd, Int.reduceMul, and_self, em_b, ne_eq, not_false_eq_true, not_true_eq_false]
            try rfl
          · rw [hkc] at z1
            have hpos := szC_pos (c := c)
            have n4 : W (encC c s) = 0 := Classical.byContradiction (fun y => hfast ⟨rfl, n2, by omega, y⟩)
            simp (disch := omega) only [e_3_0, e_3_1, e_3_4, e_3_5, e_3_8, e_3_11, e_3_12, e_3_15, e_3_16, e_3_19, e_3_22, e_3_23, e_3_26, e_3_27, e_3_28, e_3_29, e_3_32, e_3_33, e_3_34, e_3_37, e_3_38, e_3_41, e_3_42, e_3_45, e_3_46, e_3_47, v1, v2, a1, h1s, n2, okR_s, v4, true_and, n4, beO_c, beO_g0, beO_k0, beO_g1, beO_k1, beO_s1, beO_g2, beO_k2, beO_s2, beO_g3, beO_k3, beO_s3, beO_g4, beO_k4, beO_s4, dkO_c, dkO_g0, dkO_k0, dkO_s0, dkO_g1, dkO_k1, dkO_s1, dkO_g2, dkO_k2, dkO_s2, hoO_c, hoO_g0, hoO_k0, hoO_s0, hoO_g1, hoO_k1, hoO_s1, hoO_g2, hoO_k2, hoO_s2, hoO_g3, hoO_k3, hoO_g4, hoO_k4, hoO_g5, hoO_k5, hoO_g6, hoO_k6, hoO_g7, hoO_k7, hoO_g8, hoO_k8, hoO_g9, hoO_k9, hoO_s9, iup_s, iup_n, hp_up1, hp_upn, ne_eq, not_false_eq_true, sh_0, sh_1, sh_2, sh_3, sh_4, sh_5, sh_8, sh_15, sh_16, sh_24, Int.reducePow, Int.cast_ofNat_Int, w_of, wl_of, ltT, ltF, leT, leF, eqT, eqF, okF_0, okF_s, gF_0, gF_s, consC_o, sF_0, sF_s, clsO_o, inA_i, ldA_i, stA_i, inJ_l, ldJ_l, stJ_l, inR_r, ldR_r, stR_r, tgR_r, lenA_i, lenA_l, lenA_r, lenA_ex, nl_i, nl_o, nl_l, nl_n, wd_n, wd_i, wd_l, wd_o, fit_i, fit_l, fit_o, K_v, K_n, true_and, and_true, Nat.reduceAdd, Nat.reduceLeDiff, Nat.reduceEqDiff, Nat.reduceMul, Nat.reduceLT, reduceIte, true_or, or_true, cmp_lt, cmp_gt, cmp_eq, wb_0, b_01, cmp_lt', cmp_gt', cmp_eq', b_0, b_1, wb_1, Int.reduceSub, Int.reduceToNat, List.getD_cons_succ, List.getD_cons_zero, Int.reduceLE, Int.reduceLT, Int.reduceEq, Int.reduceNeg, Int.reduceAdd, Int.reduceMul, and_self, em_b, ne_eq, not_false_eq_true, not_true_eq_false]
            try rfl
        · refine ⟨0, fun d Q => ?_⟩
          simp (disch := omega) only [e_3_0, e_3_1, e_3_4, e_3_5, e_3_8, e_3_11, e_3_12, e_3_15, e_3_16, e_3_19, e_3_22, e_3_23, e_3_26, e_3_27, e_3_28, e_3_29, v1, v2, a1, h1s, n2, okR_s, v4, true_and, beO_c, beO_g0, beO_k0, beO_g1, beO_k1, beO_s1, beO_g2, beO_k2, beO_s2, beO_g3, beO_k3, beO_s3, beO_g4, beO_k4, beO_s4, dkO_c, dkO_g0, dkO_k0, dkO_s0, dkO_g1, dkO_k1, dkO_s1, dkO_g2, dkO_k2, dkO_s2, hoO_c, hoO_g0, hoO_k0, hoO_s0, hoO_g1, hoO_k1, hoO_s1, hoO_g2, hoO_k2, hoO_s2, hoO_g3, hoO_k3, hoO_g4, hoO_k4, hoO_g5, hoO_k5, hoO_g6, hoO_k6, hoO_g7, hoO_k7, hoO_g8, hoO_k8, hoO_g9, hoO_k9, hoO_s9, iup_s, iup_n, hp_up1, hp_upn, ne_eq, not_false_eq_true, sh_0, sh_1, sh_2, sh_3, sh_4, sh_5, sh_8, sh_15, sh_16, sh_24, Int.reducePow, Int.cast_ofNat_Int, w_of, wl_of, ltT, ltF, leT, leF, eqT, eqF, okF_0, okF_s, gF_0, gF_s, consC_o, sF_0, sF_s, clsO_o, inA_i, ldA_i, stA_i, inJ_l, ldJ_l, stJ_l, inR_r, ldR_r, stR_r, tgR_r, lenA_i, lenA_l, lenA_r, lenA_ex, nl_i, nl_o, nl_l, nl_n, wd_n, wd_i, wd_l, wd_o, fit_i, fit_l, fit_o, K_v, K_n, true_and, and_true, Nat.reduceAdd, Nat.reduceLeDiff, Nat.reduceEqDiff, Nat.reduceMul, Nat.reduceLT, reduceIte, true_or, or_true, cmp_lt, cmp_gt, cmp_eq, wb_0, b_01, cmp_lt', cmp_gt', cmp_eq', b_0, b_1, wb_1, Int.reduceSub, Int.reduceToNat, List.getD_cons_succ, List.getD_cons_zero, Int.reduceLE, Int.reduceLT, Int.reduceEq, Int.reduceNeg, Int.reduceAdd, Int.reduceMul, and_self, em_b, ne_eq, not_false_eq_true, not_true_eq_false]
          try rfl
      · refine ⟨0, fun d Q => ?_⟩
        simp (disch := omega) only [e_3_0, e_3_1, e_3_4, e_3_5, e_3_8, e_3_11, e_3_12, e_3_15, e_3_16, e_3_19, e_3_22, e_3_23, e_3_26, e_3_27, e_3_28, e_3_29, v1, v2, a1, h1s, n1, okR_s, v4, hcn, true_and, and_true, Option.some.injEq, beO_c, beO_g0, beO_k0, beO_g1, beO_k1, beO_s1, beO_g2, beO_k2, beO_s2, beO_g3, beO_k3, beO_s3, beO_g4, beO_k4, beO_s4, dkO_c, dkO_g0, dkO_k0, dkO_s0, dkO_g1, dkO_k1, dkO_s1, dkO_g2, dkO_k2, dkO_s2, hoO_c, hoO_g0, hoO_k0, hoO_s0, hoO_g1, hoO_k1, hoO_s1, hoO_g2, hoO_k2, hoO_s2, hoO_g3, hoO_k3, hoO_g4, hoO_k4, hoO_g5, hoO_k5, hoO_g6, hoO_k6, hoO_g7, hoO_k7, hoO_g8, hoO_k8, hoO_g9, hoO_k9, hoO_s9, iup_s, iup_n, hp_up1, hp_upn, ne_eq, not_false_eq_true, sh_0, sh_1, sh_2, sh_3, sh_4, sh_5, sh_8, sh_15, sh_16, sh_24, Int.reducePow, Int.cast_ofNat_Int, w_of, wl_of, ltT, ltF, leT, leF, eqT, eqF, okF_0, okF_s, gF_0, gF_s, consC_o, sF_0, sF_s, clsO_o, inA_i, ldA_i, stA_i, inJ_l, ldJ_l, stJ_l, inR_r, ldR_r, stR_r, tgR_r, lenA_i, lenA_l, lenA_r, lenA_ex, nl_i, nl_o, nl_l, nl_n, wd_n, wd_i, wd_l, wd_o, fit_i, fit_l, fit_o, K_v, K_n, true_and, and_true, Nat.reduceAdd, Nat.reduceLeDiff, Nat.reduceEqDiff, Nat.reduceMul, Nat.reduceLT, reduceIte, true_or, or_true, cmp_lt, cmp_gt, cmp_eq, wb_0, b_01, cmp_lt', cmp_gt', cmp_eq', b_0, b_1, wb_1, Int.reduceSub, Int.reduceToNat, List.getD_cons_succ, List.getD_cons_zero, Int.reduceLE, Int.reduceLT, Int.reduceEq, Int.reduceNeg, Int.reduceAdd, Int.reduceMul, and_self, em_b, ne_eq, not_false_eq_true, not_true_eq_false]
        try rfl
    obtain ⟨xs, ns⟩ := ns
    clear v6 hfast
    have c0 : chg ow [6] h (hup h 59 (beO (iup i 2 sky) (vr ca) (vr wA))) := chg_up t59 (by decide)
    have hF0 := chg_F c0 hF
    have hH0 := HoP_c hF c0 (by decide) (by decide) hH
    have hD0 := DesP_e hF (ext_c c0) (by decide) hD
    obtain ⟨h1, ow1, nd1, f1, f2, f3, f4, f5, f6⟩ := D_fit (z := szC c) hF0 hD0 h24
    have hF1 := ext_F f1 hF0
    have hH1 := HoP_e hF0 f1 (by decide) (by decide) hH0
    have u59 : ow1 59 = 6 := hF1.2 59 (by omega)
    have e59 : hp h1 59 = beO (iup i 2 sky) (vr ca) (vr wA) := by rw [f1.2.2 59 (by show 59 < h.1; omega) (by rw [t59]; decide), hp_up1]
    have ew : hp h1 wA = aI 0 n W := by rw [f1.2.2 wA w3 (by rw [w1]; decide), hp_upn (by omega)]; exact v2
    have w1' : ow1 wA = 6 := by rw [f1.2.1 wA w3]; exact w1
    have eA : hp h1 ca = hp h ca := by rw [f1.2.2 ca hcl (by rw [tca]; decide), hp_upn ca59]
    rw [hA] at eA
    have hl1 : h.1 ≤ h1.1 := f1.1
    obtain ⟨p1, p2, p3, d34⟩ : ∃ a b c, hp h 34 = dkO a b c := by obtain ⟨l, o, m, _, _, _, ⟨z, _⟩, _⟩ := hD; exact ⟨_, _, _, z⟩
    -- the worths are cleared, or made anew: pc 128
    have hclr : ∃ (h2 : PH) (ow2 : Nat → Nat) (n2 d2 wB : Nat) (W2 : Int → Int), extO ow1 h1 ow2 h2 [6] ∧ ((n2 = n ∧ d2 = 0) ∨ (n < n2 ∧ n2 = szC c ∧ d2 = 1)) ∧ h2.1 = h1.1 + d2 ∧ h2.2.1 = h1.2.1 + d2 * szC c ∧ hp h2 59 = beO (iup i 2 sky) (vr ca) (vr wB) ∧ hp h2 wB = aI 0 n2 W2 ∧ beaW ow2 h2 wB n2 ∧ szC c ≤ n2 ∧ (∀ x, okS c x → W2 (encC c x) = 0) ∧ ∀ d Q (x3 : Int), WP (d + 11) 3 51 [some (vr 59), some (vr 27), some (vi (encC c s)), some (vi x3), none, none] [] h Q = WP (d + 11) 3 128 [some (vr 59), some (vr 27), some (vi (encC c s)), some (vi x3), none, none] [] h2 Q := by
      have f6' := fun (d : Nat) (Q : PQ) => f6 d Q
      by_cases hn : szC c ≤ n
      · have hch : chg ow1 [6] h1 (hup h1 wA (aI 0 n (fillF W 0 (szC c : Nat) 0))) := chg_up w1' (by decide)
        refine ⟨_, ow1, n, 0, wA, _, ext_c hch, Or.inl ⟨rfl, rfl⟩, rfl, by show h1.2.1 = h1.2.1 + 0 * szC c; omega, by rw [hp_upn (by omega)]; exact e59, hp_up1, ⟨w1', w2, by show wA < h1.1; omega, w4⟩, hn, fun x hx => ?_, fun d Q x3 => ?_⟩
        · have := encC_lt hK hx
          unfold fillF
          rw [if_pos ⟨by omega, by omega⟩]
        · have fi := fun (d : Nat) (Q : PQ) => j_fill (d := d) (Q := Q) (h := h1) (r := wA) (a := 0) (b := szC c) (v := 0) (by omega) (by omega) hn (by omega) ew (by omega) (by omega)
          rw [nc0] at fi
          simp (disch := omega) only [e_3_51, e_3_52, e_3_53, e_3_56, e_3_59, e_3_60, e_3_61, e_3_64, e_3_67, e_3_68, e_3_71, e_3_72, e_3_75, e_3_78, e_3_81, e_3_82, e_3_85, e_3_86, e_3_87, e_3_90, e_3_93, e_3_112, e_3_113, e_3_116, e_3_117, e_3_118, e_3_121, e_3_124, e_3_125, v1, a1, h1s, hA, d34, f6', e59, eA, ew, fi, hup_tt, true_and, beO_c, beO_g0, beO_k0, beO_g1, beO_k1, beO_s1, beO_g2, beO_k2, beO_s2, beO_g3, beO_k3, beO_s3, beO_g4, beO_k4, beO_s4, dkO_c, dkO_g0, dkO_k0, dkO_s0, dkO_g1, dkO_k1, dkO_s1, dkO_g2, dkO_k2, dkO_s2, hoO_c, hoO_g0, hoO_k0, hoO_s0, hoO_g1, hoO_k1, hoO_s1, hoO_g2, hoO_k2, hoO_s2, hoO_g3, hoO_k3, hoO_g4, hoO_k4, hoO_g5, hoO_k5, hoO_g6, hoO_k6, hoO_g7, hoO_k7, hoO_g8, hoO_k8, hoO_g9, hoO_k9, hoO_s9, iup_s, iup_n, hp_up1, hp_upn, ne_eq, not_false_eq_true, sh_0, sh_1, sh_2, sh_3, sh_4, sh_5, sh_8, sh_15, sh_16, sh_24, Int.reducePow, Int.cast_ofNat_Int, w_of, wl_of, ltT, ltF, leT, leF, eqT, eqF, okF_0, okF_s, gF_0, gF_s, consC_o, sF_0, sF_s, clsO_o, inA_i, ldA_i, stA_i, inJ_l, ldJ_l, stJ_l, inR_r, ldR_r, stR_r, tgR_r, lenA_i, lenA_l, lenA_r, lenA_ex, nl_i, nl_o, nl_l, nl_n, wd_n, wd_i, wd_l, wd_o, fit_i, fit_l, fit_o, K_v, K_n, true_and, and_true, Nat.reduceAdd, Nat.reduceLeDiff, Nat.reduceEqDiff, Nat.reduceMul, Nat.reduceLT, reduceIte, true_or, or_true, cmp_lt, cmp_gt, cmp_eq, wb_0, b_01, cmp_lt', cmp_gt', cmp_eq', b_0, b_1, wb_1, Int.reduceSub, Int.reduceToNat, List.getD_cons_succ, List.getD_cons_zero, Int.reduceLE, Int.reduceLT, Int.reduceEq, Int.reduceNeg, Int.reduceAdd, Int.reduceMul, and_self, em_b, ne_eq, not_false_eq_true, not_true_eq_false]
          try rfl
      · have z1 : 0 ≤ (szC c : Int) := by omega
        have z2 : (szC c : Int) ≤ 500000 := by omega
        have hx : extO ow1 h1 (fun k => if k < h1.1 then ow1 k else 6) (hup (mk1 h1 (szC c) (aI 0 (szC c) (fun _ => 0))) 59 (beO (iup i 2 sky) (vr ca) (vr h1.1))) [6] := ⟨by show h1.1 ≤ h1.1 + 1; omega, fun k hk => if_pos hk, fun k k1 k2 => by rw [hp_upn (fun z => k2 (by rw [z, u59]; decide)), hp_mkn (by omega)]⟩
        refine ⟨_, _, szC c, 1, h1.1, (fun _ => 0), hx, Or.inr ⟨by omega, rfl, rfl⟩, rfl, by show h1.2.1 + szC c = h1.2.1 + 1 * szC c; omega, hp_up1, by rw [hp_upn (by omega), hp_mk1], ⟨if_neg (by omega), by omega, by show h1.1 < h1.1 + 1; omega, h24⟩, Nat.le_refl _, fun _ _ => rfl, fun d Q x3 => ?_⟩
        simp (disch := omega) only [e_3_51, e_3_52, e_3_53, e_3_56, e_3_59, e_3_60, e_3_61, e_3_64, e_3_67, e_3_68, e_3_71, e_3_72, e_3_75, e_3_78, e_3_81, e_3_82, e_3_85, e_3_86, e_3_87, e_3_90, e_3_93, e_3_96, e_3_97, e_3_98, e_3_101, e_3_104, e_3_106, e_3_109, v1, a1, h1s, hA, d34, f6', e59, eA, ew, hup_tt, true_and, z1, z2, hup_n1, mk1_n1, hp_mk1, hp_mkn, mk_hup, Int.toNat_natCast, beO_c, beO_g0, beO_k0, beO_g1, beO_k1, beO_s1, beO_g2, beO_k2, beO_s2, beO_g3, beO_k3, beO_s3, beO_g4, beO_k4, beO_s4, dkO_c, dkO_g0, dkO_k0, dkO_s0, dkO_g1, dkO_k1, dkO_s1, dkO_g2, dkO_k2, dkO_s2, hoO_c, hoO_g0, hoO_k0, hoO_s0, hoO_g1, hoO_k1, hoO_s1, hoO_g2, hoO_k2, hoO_s2, hoO_g3, hoO_k3, hoO_g4, hoO_k4, hoO_g5, hoO_k5, hoO_g6, hoO_k6, hoO_g7, hoO_k7, hoO_g8, hoO_k8, hoO_g9, hoO_k9, hoO_s9, iup_s, iup_n, hp_up1, hp_upn, ne_eq, not_false_eq_true, sh_0, sh_1, sh_2, sh_3, sh_4, sh_5, sh_8, sh_15, sh_16, sh_24, Int.reducePow, Int.cast_ofNat_Int, w_of, wl_of, ltT, ltF, leT, leF, eqT, eqF, okF_0, okF_s, gF_0, gF_s, consC_o, sF_0, sF_s, clsO_o, inA_i, ldA_i, stA_i, inJ_l, ldJ_l, stJ_l, inR_r, ldR_r, stR_r, tgR_r, lenA_i, lenA_l, lenA_r, lenA_ex, nl_i, nl_o, nl_l, nl_n, wd_n, wd_i, wd_l, wd_o, fit_i, fit_l, fit_o, K_v, K_n, true_and, and_true, Nat.reduceAdd, Nat.reduceLeDiff, Nat.reduceEqDiff, Nat.reduceMul, Nat.reduceLT, reduceIte, true_or, or_true, cmp_lt, cmp_gt, cmp_eq, wb_0, b_01, cmp_lt', cmp_gt', cmp_eq', b_0, b_1, wb_1, Int.reduceSub, Int.reduceToNat, List.getD_cons_succ, List.getD_cons_zero, Int.reduceLE, Int.reduceLT, Int.reduceEq, Int.reduceNeg, Int.reduceAdd, Int.reduceMul, and_self, em_b, ne_eq, not_false_eq_true, not_true_eq_false]
        try rfl
    obtain ⟨h2, ow2, n2, d2, wB, W2, g1, g2, g3, g4, g5, g6, g7, g8, g9, g10⟩ := hclr
    have hF2 := ext_F g1 hF1
    have hH2 := HoP_e hF1 g1 (by decide) (by decide) hH1
    have hD2 := DesP_e hF1 g1 (by decide) f4
    obtain ⟨l, o, m, fl, fo, fm, ⟨c1, c2, c3, c4⟩, x1, x2, x3, x4, x5, x6, x7, x8, x9, x10, x11, x12, x13⟩ := hD2
    obtain ⟨b1, b2, b3, b4⟩ := g7
    obtain ⟨h3, M, O', r1, r2, r3, r4, r5, r6, r7, r8⟩ := Be_meetAll (pm := vr m) hO hF2 hH2 g8 b4 f5 x13 b1 x1 x2 b2 x7 x8 x4 hs c1 g5 iup_s g6 c2 c3 g9
    obtain ⟨i3, W3, fl3, s1, s2, s3, s4, s5, s6, s7, s8⟩ := r4
    have hMl := mt_len hK s8
    have hF3 : owF ow2 h3 := ⟨by rw [r2.1]; exact hF2.1, hF2.2⟩
    obtain ⟨h4, W4, O4, t1, t2, t3, t4, t5, t6, t7⟩ := Be_all (ow := ow2) (i := i3) (x2 := (encC c s : Int)) (x3 := xs) hO g8 b4 f5 x13 b1 x2 x1 b2 x8 x7 x4 s8.2.1 s8.2.2 hMl s7 r7 s3 24001 0 h3 W3 O' (by omega) hF3 r3 s1 s2 s5 s6 r5 (fun x hx => by
      rcases s8.1 x (s8.2.1 x hx) with ⟨z1, z2⟩ | ⟨z1, z2⟩
      · exact Or.inl ⟨z2, trivial⟩
      · exact absurd hx z1) (fun x hx hxm => by
      rcases s8.1 x hx with ⟨z1, z2⟩ | ⟨z1, z2⟩
      · exact absurd z1 hxm
      · exact z2) (fun x hx => Or.inl (r6 x hx)) (Or.inl rfl)
    have u59' : ow2 59 = 6 := hF2.2 59 (by omega)
    have ct : chx ow2 [59, wB, l, o] h2 h4 := chx_t r2 (chx_w t1 (by intro t ht; simp at ht ⊢; omega))
    have k1 := ct.1
    have k2 := ct.2.1
    have m59 : m ≠ 59 := fun z => by rw [z, u59'] at x3; omega
    have l59 : l ≠ 59 := fun z => by rw [z, u59'] at x1; omega
    have o59 : o ≠ 59 := fun z => by rw [z, u59'] at x2; omega
    have mw : m ≠ wB := fun z => by rw [z, b1] at x3; omega
    have lwB : l ≠ wB := fun z => by rw [z, b1] at x1; omega
    have hx : extO ow2 h2 ow2 h4 [1, 2, 6] := ⟨by rw [k1]; exact Nat.le_refl _, fun _ _ => rfl, fun k k1 k2 => ct.2.2 k (fun z => k2 (by rw [z]; simp)) (fun z => k2 (by
      simp at z
      rcases z with z | z | z | z
      · rw [z, u59']; simp
      · rw [z, b1]; simp
      · rw [z, x1]; simp
      · rw [z, x2]; simp))⟩
    have hxa : extO ow h ow1 h1 [1, 2, 6] := ext_t (ext_w (ext_c c0) (by decide)) (ext_w f1 (by decide))
    have hxt := ext_t (ext_t hxa (ext_w g1 (by decide))) hx
    have e34 : hp h4 34 = dkO (vr l) (vr o) (vr m) := by rw [ct.2.2 34 (by rw [tg_34 hF2]; decide) (by simp; omega)]; exact c1
    have el : hp h4 l = aI 0 nd1 fl3 := by rw [t1.2.2 l (by rw [x1]; decide) (by simp; exact ⟨lwB, x4⟩)]; exact s6
    have em : hp h4 m = aI 0 nd1 fm := by rw [ct.2.2 m (by rw [x3]; decide) (by simp; exact ⟨m59, mw, fun z => x5 z.symm, fun z => x6 z.symm⟩)]; exact c4
    have hD4 : DesP ow2 h4 nd1 := ⟨l, o, m, fl3, O4, fm, ⟨e34, el, t4, em⟩, x1, x2, x3, x4, x5, x6, x7, x8, x9, by rw [k1]; exact x10, by rw [k1]; exact x11, by rw [k1]; exact x12, x13⟩
    have e59' : hp h4 59 = beO i3 (vr ca) (vr wB) := by rw [t1.2.2 59 (by rw [u59']; decide) (by simp; exact ⟨by omega, fun z => o59 z.symm⟩)]; exact s2
    have hWs : W4 (encC c s) ≠ 0 := by
      rcases t5 s r1 with ⟨z1, -⟩ | ⟨v, z1, -⟩ <;> omega
    have hB : BeaS ow2 h4 ca c sky n2 s := ⟨i3, wB, W4, e59', t3, ⟨b1, b2, by rw [k1]; exact b3, b4⟩, g8, s4, ⟨M, s8.2.1, r7, t5, t6⟩, hWs⟩
    have run : ∀ d Q, WP (d + 11) 3 0 [some (vr 59), some (vr 27), some (vi (encC c s)), none, none, none] [] h Q = Q none h4 := by
      intro d Q
      have t7' := t7 d Q
      rw [show ((0 + 1 : Nat) : Int) = 1 from rfl] at t7'
      have r8' := fun (Q : PQ) => r8 (d + 1) Q
      rw [ns d Q, g10 d Q xs, ← t7']
      simp (disch := omega) only [e_3_128, e_3_129, e_3_130, e_3_131, e_3_134, e_3_135, e_3_137, e_3_138, g5, r8', true_and, beO_c, beO_g0, beO_k0, beO_g1, beO_k1, beO_s1, beO_g2, beO_k2, beO_s2, beO_g3, beO_k3, beO_s3, beO_g4, beO_k4, beO_s4, dkO_c, dkO_g0, dkO_k0, dkO_s0, dkO_g1, dkO_k1, dkO_s1, dkO_g2, dkO_k2, dkO_s2, hoO_c, hoO_g0, hoO_k0, hoO_s0, hoO_g1, hoO_k1, hoO_s1, hoO_g2, hoO_k2, hoO_s2, hoO_g3, hoO_k3, hoO_g4, hoO_k4, hoO_g5, hoO_k5, hoO_g6, hoO_k6, hoO_g7, hoO_k7, hoO_g8, hoO_k8, hoO_g9, hoO_k9, hoO_s9, iup_s, iup_n, hp_up1, hp_upn, ne_eq, not_false_eq_true, sh_0, sh_1, sh_2, sh_3, sh_4, sh_5, sh_8, sh_15, sh_16, sh_24, Int.reducePow, Int.cast_ofNat_Int, w_of, wl_of, ltT, ltF, leT, leF, eqT, eqF, okF_0, okF_s, gF_0, gF_s, consC_o, sF_0, sF_s, clsO_o, inA_i, ldA_i, stA_i, inJ_l, ldJ_l, stJ_l, inR_r, ldR_r, stR_r, tgR_r, lenA_i, lenA_l, lenA_r, lenA_ex, nl_i, nl_o, nl_l, nl_n, wd_n, wd_i, wd_l, wd_o, fit_i, fit_l, fit_o, K_v, K_n, true_and, and_true, Nat.reduceAdd, Nat.reduceLeDiff, Nat.reduceEqDiff, Nat.reduceMul, Nat.reduceLT, reduceIte, true_or, or_true, cmp_lt, cmp_gt, cmp_eq, wb_0, b_01, cmp_lt', cmp_gt', cmp_eq', b_0, b_1, wb_1, Int.reduceSub, Int.reduceToNat, List.getD_cons_succ, List.getD_cons_zero, Int.reduceLE, Int.reduceLT, Int.reduceEq, Int.reduceNeg, Int.reduceAdd, Int.reduceMul, and_self, em_b, ne_eq, not_false_eq_true, not_true_eq_false]
      try rfl
    rcases f3 with ⟨z1, z2, z3⟩ | ⟨z1, z2, z3, z4⟩
    · refine ⟨h4, ow2, n2, nd1, 0, d2, hxt, Or.inl ⟨z1, rfl⟩, g2, ?_, ?_, t2, hD4, hB, run⟩
      · rw [k1, g3, z2]; show h.1 + d2 = _; omega
      · rw [k2, g4, z2]; show h.2.1 + d2 * szC c = h.2.1 + (3 * 0 + d2) * szC c; rw [Nat.mul_zero, Nat.zero_add]
    · refine ⟨h4, ow2, n2, nd1, 1, d2, hxt, Or.inr ⟨z1, z2, rfl⟩, g2, ?_, ?_, t2, hD4, hB, run⟩
      · rw [k1, g3, z3]; rfl
      · rw [k2, g4, z4]; show h.2.1 + szC c + szC c + szC c + d2 * szC c = h.2.1 + (3 * 1 + d2) * szC c; rw [Nat.add_mul]; omega
