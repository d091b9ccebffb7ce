/-! THE CLASS: keeping, lasts, best, rows -/
section parts
variable {kc : Nat → KC} {ow : Nat → Nat} {h : PH} {M : MS} {S0 e k : Nat}
theorem C_keeping {x : Int} (hB : bkI kc ow h M S0 e k) (hk : k < 600) (h1 : -2147483648 ≤ x) (h2 : x < 2147483648) : cRes ow h S0 k 128 [some (vr 10), some (vi x)] vi (fun v M' => ansK (mC M) (mZ M).2.1 (mZ M).1 x v ∧ M' = M) := by
  have hB' := hB
  obtain ⟨hF, ⟨⟨i, b1, b2, b3, b4⟩, ⟨ca, kc1, hM⟩, -⟩, -, he, nd, nc, nk, nr, nb, hE, hR⟩ := hB
  have dn := Mo_isDown hM
  have hM' := hM
  obtain ⟨j, m1, m2, m3, m4, m5, m6⟩ := hM
  have hca := m6.2.2.2
  by_cases q0 : 0 ≤ x
  · by_cases q1 : x ≤ 99
    · by_cases hd : downB (mC M) (mZ M).1 = true
      · simp only [hd, if_true] at dn
        refine cRes_r (v := -5) hB' ⟨Or.inr (Or.inl ⟨⟨q0, q1⟩, hd, rfl⟩), rfl⟩ (fun d Q => ?_)
        simp (disch := omega) only [e_128_0, e_128_1, e_128_4, e_128_5, e_128_7, e_128_10, e_128_12, e_128_13, e_128_14, e_128_17, e_128_20, e_128_23, e_128_25, e_128_26, e_128_27, e_128_30, e_128_31, e_128_34, e_128_37, e_128_38, e_128_41, e_128_44, e_128_47, e_128_48, e_128_51, e_128_52, e_128_55, e_128_56, e_128_59, e_128_62, e_128_63, e_128_66, b1, m1, dn, true_and, bkO_c, bkO_g0, bkO_k0, bkO_g1, bkO_k1, bkO_g2, bkO_k2, bkO_g3, bkO_k3, bkO_g4, bkO_k4, bkO_g5, bkO_k5, bkO_g6, bkO_k6, bkO_g7, bkO_k7, bkO_g8, bkO_k8, bkO_g9, bkO_k9, bkO_g10, bkO_k10, bkO_g11, bkO_k11, bkO_g12, bkO_k12, bkO_g13, bkO_k13, bkO_g14, bkO_k14, bkO_g15, bkO_k15, bkO_g16, bkO_k16, bkO_g17, bkO_k17, bkO_s12, bkO_s16, bkO_s17, moO_c, moO_g0, moO_k0, moO_g1, moO_k1, moO_g2, moO_k2, moO_g3, moO_k3, moO_s0, moO_s1, moO_s2, moO_s3, hoO_c, hoO_g0, hoO_k0, hoO_g1, hoO_k1, hoO_g2, hoO_k2, hoO_g3, hoO_k3, hoO_g4, hoO_k4, hoO_g5, hoO_k5, hoO_g6, hoO_k6, hoO_g7, hoO_k7, hoO_g8, hoO_k8, hoO_g9, hoO_k9, hoO_s0, hoO_s1, hoO_s2, hoO_s9, iup_s, iup_n, hp_up1, hp_upn, ne_eq, not_false_eq_true, sh_0, sh_1, sh_2, sh_3, sh_4, sh_5, sh_8, sh_15, sh_16, sh_24, Int.reducePow, Int.cast_ofNat_Int, w_of, wl_of, ltT, ltF, leT, leF, eqT, eqF, okF_0, okF_s, gF_0, gF_s, consC_o, sF_0, sF_s, clsO_o, inA_i, ldA_i, stA_i, inJ_l, ldJ_l, stJ_l, inR_r, ldR_r, stR_r, tgR_r, lenA_i, lenA_l, lenA_r, lenA_ex, nl_i, nl_o, nl_l, nl_n, wd_n, wd_i, wd_l, wd_o, fit_i, fit_l, fit_o, K_v, K_n, true_and, and_true, Nat.reduceAdd, Nat.reduceLeDiff, Nat.reduceEqDiff, Nat.reduceMul, Nat.reduceLT, reduceIte, true_or, or_true, cmp_lt, cmp_gt, cmp_eq, wb_0, b_01, cmp_lt', cmp_gt', cmp_eq', b_0, b_1, wb_1, Int.reduceSub, Int.reduceToNat, List.getD_cons_succ, List.getD_cons_zero, Int.reduceLE, Int.reduceLT, Int.reduceEq, Int.reduceNeg, Int.reduceAdd, Int.reduceMul, and_self, em_b, ne_eq, not_false_eq_true, not_true_eq_false]
        try rfl
      · have hd' : downB (mC M) (mZ M).1 = false := by simpa using hd
        simp only [hd', if_false, Bool.false_eq_true] at dn
        obtain ⟨I, rfl⟩ : ∃ I : Nat, x = (I : Int) := ⟨x.toNat, by omega⟩
        obtain ⟨e', g1, u1, u2, u3, u4, u5, ⟨iy, ca0, h27⟩, ⟨iz, g27⟩, u6⟩ := bk_use hB' hk kc1 hM'
        have hF1 := chg_F u2 hF
        have hE1 := EngP_e hF (ext_c u2) (by decide) hE
        obtain ⟨p1, p2, p3, ⟨⟨f43, p4⟩, f44, p4'⟩, ⟨lw, p5⟩, p6, p7, p8, p9, p10, p11⟩ := hE1
        obtain ⟨g2, ow2, nk2, nd2, d1, d2, f43', f44', v, f1, f2, f3, f4, f5, f6, f7, f8, f9, f10a, f10b, f10, f11⟩ := K_deedAt (kc := kc) (I := I) hF1 u3 kc1 p1 p3 p4 p4' m5.1 (by omega)
        have hE2 : EngP kc ow2 g2 nd2 nc nk2 nr nb := ⟨f7, ComP_e hF1 f1 (by decide) p2, KepV_P hca.1 m5.2 kc1 f9, ⟨⟨f43', f10a⟩, f44', f10b⟩, ⟨lw, RowV_e hF1 f1 (by decide) (by decide) p5⟩, AhP_e hF1 f1 (by decide) (by decide) p6, BeaP_e hF1 f1 (by decide) p7, ToP_e hF1 f1 (by decide) p8, by
          obtain ⟨i', wA, fw, ⟨k1, k2⟩, _⟩ := f9
          exact ⟨i', ca, _, k1, by have := f1.1; have := u2.1; omega⟩, cell_38 hF1 f1 (by decide) p10, cell_59 hF1 f1 (by decide) p11⟩
        have hx := ext_t (ext_w (ext_c u2) (U := [1, 2, 4, 17]) (by decide)) f1
        have r1 := room_d m6.2.1.1 f2
        have r2 := room_d m6.2.1.1 f3
        obtain ⟨q1', q2'⟩ := bk_q (ca := ca) (sky := (mZ M).2.1) (e' := e') hB' hx (by decide) (by rw [kc1]; exact f6) (by omega) hE2 (by
          have h1 := u2.1
          have h2 := u2.2.1
          have e1 : (3 * d1 + d2) * szC (mC M) = 3 * (d1 * szC (mC M)) + d2 * szC (mC M) := by rw [Nat.add_mul, Nat.mul_assoc]
          unfold roomI at *
          rw [e1] at f5
          omega)
        refine ⟨kc, ow2, g2, e', v, M, ⟨Or.inr (Or.inr ⟨⟨q0, q1⟩, hd', by rw [Int.toNat_natCast]; exact f10⟩), rfl⟩, q1', q2', fun d Q => ?_⟩
        rw [m1] at u5
        rw [b1] at u4
        have f11' := fun (Q : PQ) => f11 (d + 18) Q
        obtain ⟨iq, cq, pq, c41, -⟩ := p9
        simp (disch := omega) only [e_128_0, e_128_1, e_128_4, e_128_5, e_128_7, e_128_10, e_128_12, e_128_13, e_128_14, e_128_17, e_128_20, e_128_23, e_128_25, e_128_26, e_128_27, e_128_30, e_128_31, e_128_34, e_128_37, e_128_38, e_128_41, e_128_44, e_128_47, e_128_48, e_128_51, e_128_52, e_128_55, e_128_56, e_128_59, e_128_62, e_128_63, e_128_66, b1, m1, m2, m3, dn, h27, g27, u4, u5, u6, c41, f11', true_and, bkO_c, bkO_g0, bkO_k0, bkO_g1, bkO_k1, bkO_g2, bkO_k2, bkO_g3, bkO_k3, bkO_g4, bkO_k4, bkO_g5, bkO_k5, bkO_g6, bkO_k6, bkO_g7, bkO_k7, bkO_g8, bkO_k8, bkO_g9, bkO_k9, bkO_g10, bkO_k10, bkO_g11, bkO_k11, bkO_g12, bkO_k12, bkO_g13, bkO_k13, bkO_g14, bkO_k14, bkO_g15, bkO_k15, bkO_g16, bkO_k16, bkO_g17, bkO_k17, bkO_s12, bkO_s16, bkO_s17, moO_c, moO_g0, moO_k0, moO_g1, moO_k1, moO_g2, moO_k2, moO_g3, moO_k3, moO_s0, moO_s1, moO_s2, moO_s3, hoO_c, hoO_g0, hoO_k0, hoO_g1, hoO_k1, hoO_g2, hoO_k2, hoO_g3, hoO_k3, hoO_g4, hoO_k4, hoO_g5, hoO_k5, hoO_g6, hoO_k6, hoO_g7, hoO_k7, hoO_g8, hoO_k8, hoO_g9, hoO_k9, hoO_s0, hoO_s1, hoO_s2, hoO_s9, toO_c, toO_g0, toO_k0, toO_g1, toO_k1, toO_g2, toO_k2, toO_g3, toO_k3, toO_g4, toO_k4, toO_g5, toO_k5, toO_g6, toO_k6, toO_s1, toO_s2, toO_s3, toO_s4, toO_s6, rwO_c, rwO_g0, rwO_k0, rwO_g1, rwO_k1, rwO_g2, rwO_k2, rwO_g3, rwO_k3, rwO_g4, rwO_k4, rwO_g5, rwO_k5, rwO_g6, rwO_k6, rwO_s1, rwO_s2, rwO_s4, tkO_c, tkO_g0, tkO_k0, tkO_g1, tkO_k1, tkO_g2, tkO_k2, tkO_g3, tkO_k3, tkO_g4, tkO_k4, tkO_g5, tkO_k5, tkO_g6, tkO_k6, tkO_g7, tkO_k7, tkO_g8, tkO_k8, tkO_s1, tkO_s2, tkO_s3, tkO_s4, tkO_s5, tkO_s6, tkO_s7, tkO_s8, rdO_c, rdO_g0, rdO_k0, rdO_g1, rdO_k1, rdO_g2, rdO_k2, rdO_g3, rdO_k3, rdO_g4, rdO_k4, rdO_g5, rdO_k5, rdO_g6, rdO_k6, rdO_g7, rdO_k7, rdO_g8, rdO_k8, rdO_g9, rdO_k9, rdO_g10, rdO_k10, rdO_g11, rdO_k11, rdO_g12, rdO_k12, rdO_g13, rdO_k13, rdO_g14, rdO_k14, rdO_g15, rdO_k15, rdO_g16, rdO_k16, rdO_g17, rdO_k17, rdO_s2, rdO_s3, rdO_s4, rdO_s10, rdO_s11, rdO_s12, rdO_s13, rdO_s14, rdO_s15, rdO_s16, rdO_s17, kpO_c, kpO_g0, kpO_k0, kpO_g1, kpO_k1, kpO_g2, kpO_k2, kpO_g3, kpO_k3, kpO_g4, kpO_k4, kpO_g5, kpO_k5, kpO_g6, kpO_k6, kpO_s1, kpO_s2, kpO_s3, kpO_s4, beO_c, beO_g0, beO_k0, beO_g1, beO_k1, beO_g2, beO_k2, beO_g3, beO_k3, beO_g4, beO_k4, beO_s1, beO_s2, beO_s3, beO_s4, cmO_c, cmO_g0, cmO_k0, cmO_g1, cmO_k1, cmO_g2, cmO_k2, cmO_g3, cmO_k3, cmO_g4, cmO_k4, cmO_g5, cmO_k5, cmO_g6, cmO_k6, cmO_s0, cmO_s1, cmO_s2, cmO_s3, cmO_s4, cmO_s5, cmO_s6, dkO_c, dkO_g0, dkO_k0, dkO_g1, dkO_k1, dkO_g2, dkO_k2, dkO_s0, dkO_s1, dkO_s2, iup_s, iup_n, hp_up1, hp_upn, ne_eq, not_false_eq_true, sh_0, sh_1, sh_2, sh_3, sh_4, sh_5, sh_8, sh_15, sh_16, sh_24, Int.reducePow, Int.cast_ofNat_Int, w_of, wl_of, ltT, ltF, leT, leF, eqT, eqF, okF_0, okF_s, gF_0, gF_s, consC_o, sF_0, sF_s, clsO_o, inA_i, ldA_i, stA_i, inJ_l, ldJ_l, stJ_l, inR_r, ldR_r, stR_r, tgR_r, lenA_i, lenA_l, lenA_r, lenA_ex, nl_i, nl_o, nl_l, nl_n, wd_n, wd_i, wd_l, wd_o, fit_i, fit_l, fit_o, K_v, K_n, true_and, and_true, Nat.reduceAdd, Nat.reduceLeDiff, Nat.reduceEqDiff, Nat.reduceMul, Nat.reduceLT, reduceIte, true_or, or_true, cmp_lt, cmp_gt, cmp_eq, wb_0, b_01, cmp_lt', cmp_gt', cmp_eq', b_0, b_1, wb_1, Int.reduceSub, Int.reduceToNat, List.getD_cons_succ, List.getD_cons_zero, Int.reduceLE, Int.reduceLT, Int.reduceEq, Int.reduceNeg, Int.reduceAdd, Int.reduceMul, and_self, em_b, ne_eq, not_false_eq_true, not_true_eq_false]
        try rfl
    · refine cRes_r (v := -3) hB' ⟨Or.inl ⟨fun z => q1 z.2, rfl⟩, rfl⟩ (fun d Q => ?_)
      simp (disch := omega) only [e_128_0, e_128_1, e_128_4, e_128_5, e_128_7, e_128_10, e_128_12, bkO_c, bkO_g0, bkO_k0, bkO_g1, bkO_k1, bkO_g2, bkO_k2, bkO_g3, bkO_k3, bkO_g4, bkO_k4, bkO_g5, bkO_k5, bkO_g6, bkO_k6, bkO_g7, bkO_k7, bkO_g8, bkO_k8, bkO_g9, bkO_k9, bkO_g10, bkO_k10, bkO_g11, bkO_k11, bkO_g12, bkO_k12, bkO_g13, bkO_k13, bkO_g14, bkO_k14, bkO_g15, bkO_k15, bkO_g16, bkO_k16, bkO_g17, bkO_k17, bkO_s12, bkO_s16, bkO_s17, moO_c, moO_g0, moO_k0, moO_g1, moO_k1, moO_g2, moO_k2, moO_g3, moO_k3, moO_s0, moO_s1, moO_s2, moO_s3, hoO_c, hoO_g0, hoO_k0, hoO_g1, hoO_k1, hoO_g2, hoO_k2, hoO_g3, hoO_k3, hoO_g4, hoO_k4, hoO_g5, hoO_k5, hoO_g6, hoO_k6, hoO_g7, hoO_k7, hoO_g8, hoO_k8, hoO_g9, hoO_k9, hoO_s0, hoO_s1, hoO_s2, hoO_s9, iup_s, iup_n, hp_up1, hp_upn, ne_eq, not_false_eq_true, sh_0, sh_1, sh_2, sh_3, sh_4, sh_5, sh_8, sh_15, sh_16, sh_24, Int.reducePow, Int.cast_ofNat_Int, w_of, wl_of, ltT, ltF, leT, leF, eqT, eqF, okF_0, okF_s, gF_0, gF_s, consC_o, sF_0, sF_s, clsO_o, inA_i, ldA_i, stA_i, inJ_l, ldJ_l, stJ_l, inR_r, ldR_r, stR_r, tgR_r, lenA_i, lenA_l, lenA_r, lenA_ex, nl_i, nl_o, nl_l, nl_n, wd_n, wd_i, wd_l, wd_o, fit_i, fit_l, fit_o, K_v, K_n, true_and, and_true, Nat.reduceAdd, Nat.reduceLeDiff, Nat.reduceEqDiff, Nat.reduceMul, Nat.reduceLT, reduceIte, true_or, or_true, cmp_lt, cmp_gt, cmp_eq, wb_0, b_01, cmp_lt', cmp_gt', cmp_eq', b_0, b_1, wb_1, Int.reduceSub, Int.reduceToNat, List.getD_cons_succ, List.getD_cons_zero, Int.reduceLE, Int.reduceLT, Int.reduceEq, Int.reduceNeg, Int.reduceAdd, Int.reduceMul, and_self, em_b, ne_eq, not_false_eq_true, not_true_eq_false]
      try rfl
  · refine cRes_r (v := -3) hB' ⟨Or.inl ⟨fun z => q0 z.1, rfl⟩, rfl⟩ (fun d Q => ?_)
    simp (disch := omega) only [e_128_0, e_128_1, e_128_4, e_128_5, e_128_7, e_128_10, e_128_12, bkO_c, bkO_g0, bkO_k0, bkO_g1, bkO_k1, bkO_g2, bkO_k2, bkO_g3, bkO_k3, bkO_g4, bkO_k4, bkO_g5, bkO_k5, bkO_g6, bkO_k6, bkO_g7, bkO_k7, bkO_g8, bkO_k8, bkO_g9, bkO_k9, bkO_g10, bkO_k10, bkO_g11, bkO_k11, bkO_g12, bkO_k12, bkO_g13, bkO_k13, bkO_g14, bkO_k14, bkO_g15, bkO_k15, bkO_g16, bkO_k16, bkO_g17, bkO_k17, bkO_s12, bkO_s16, bkO_s17, moO_c, moO_g0, moO_k0, moO_g1, moO_k1, moO_g2, moO_k2, moO_g3, moO_k3, moO_s0, moO_s1, moO_s2, moO_s3, hoO_c, hoO_g0, hoO_k0, hoO_g1, hoO_k1, hoO_g2, hoO_k2, hoO_g3, hoO_k3, hoO_g4, hoO_k4, hoO_g5, hoO_k5, hoO_g6, hoO_k6, hoO_g7, hoO_k7, hoO_g8, hoO_k8, hoO_g9, hoO_k9, hoO_s0, hoO_s1, hoO_s2, hoO_s9, iup_s, iup_n, hp_up1, hp_upn, ne_eq, not_false_eq_true, sh_0, sh_1, sh_2, sh_3, sh_4, sh_5, sh_8, sh_15, sh_16, sh_24, Int.reducePow, Int.cast_ofNat_Int, w_of, wl_of, ltT, ltF, leT, leF, eqT, eqF, okF_0, okF_s, gF_0, gF_s, consC_o, sF_0, sF_s, clsO_o, inA_i, ldA_i, stA_i, inJ_l, ldJ_l, stJ_l, inR_r, ldR_r, stR_r, tgR_r, lenA_i, lenA_l, lenA_r, lenA_ex, nl_i, nl_o, nl_l, nl_n, wd_n, wd_i, wd_l, wd_o, fit_i, fit_l, fit_o, K_v, K_n, true_and, and_true, Nat.reduceAdd, Nat.reduceLeDiff, Nat.reduceEqDiff, Nat.reduceMul, Nat.reduceLT, reduceIte, true_or, or_true, cmp_lt, cmp_gt, cmp_eq, wb_0, b_01, cmp_lt', cmp_gt', cmp_eq', b_0, b_1, wb_1, Int.reduceSub, Int.reduceToNat, List.getD_cons_succ, List.getD_cons_zero, Int.reduceLE, Int.reduceLT, Int.reduceEq, Int.reduceNeg, Int.reduceAdd, Int.reduceMul, and_self, em_b, ne_eq, not_false_eq_true, not_true_eq_false]
    try rfl
theorem Eng_beast {ow' : Nat → Nat} {h' : PH} {ca sky nd nd' nc nk nr nb nb' : Nat} {c : KC} {s : ST} (hF : owF ow h) (hE : EngP kc ow h nd nc nk nr nb) (hx : extO ow h ow' h' [1, 2, 6]) (hD : DesP ow' h' nd') (hB : BeaS ow' h' ca c sky nb' s) (hca : 10 ≤ ca) (hcl : ca < h'.1) (hsky : sky < 10) (hkc : kc ca = c) : EngP kc ow' h' nd' nc nk nr nb' := by
  obtain ⟨p1, p2, p3, p4, ⟨lw, p5⟩, p6, p7, p8, p9, p10, p11⟩ := hE
  refine ⟨hD, ComP_e hF hx (by decide) p2, KepP_e hF hx (by decide) p3, Wd_e hF hx (by decide) p4, ⟨lw, RowV_e hF hx (by decide) (by decide) p5⟩, AhP_e hF hx (by decide) (by decide) p6, BeaS_P hca hsky hkc hB, ToP_e hF hx (by decide) p8, cell_41 hF hx (by decide) p9, cell_38 hF hx (by decide) p10, ?_⟩
  obtain ⟨i', wA, W, k1, _⟩ := hB
  exact ⟨i', ca, _, k1, hcl⟩
theorem C_lasts (hB : bkI kc ow h M S0 e k) (hk : k < 600) : cRes ow h S0 k 141 [some (vr 10)] vi (fun v M' => ansF (mC M) (mZ M).2.1 (kN (mC M)) (mZ M).1 v ∧ M' = M) := by
  have hB' := hB
  obtain ⟨hF, ⟨⟨i, b1, b2, b3, b4⟩, ⟨ca, kc1, hM⟩, -⟩, -, he, nd, nc, nk, nr, nb, hE, hR⟩ := hB
  have dn := Mo_isDown hM
  have hM' := hM
  obtain ⟨j, m1, m2, m3, m4, m5, m6⟩ := hM
  have hca := m6.2.2.2
  by_cases hd : downB (mC M) (mZ M).1 = true
  · simp only [hd, if_true] at dn
    refine cRes_r (v := -5) hB' ⟨Or.inl ⟨hd, rfl⟩, rfl⟩ (fun d Q => ?_)
    simp (disch := omega) only [e_141_0, e_141_1, e_141_4, e_141_7, e_141_10, e_141_12, e_141_13, e_141_14, e_141_17, e_141_18, e_141_21, e_141_24, e_141_25, e_141_28, e_141_31, e_141_34, e_141_35, e_141_38, e_141_39, e_141_42, e_141_43, e_141_46, e_141_49, e_141_52, e_141_53, e_141_56, e_141_57, e_141_60, e_141_63, e_141_66, b1, m1, dn, true_and, bkO_c, bkO_g0, bkO_k0, bkO_g1, bkO_k1, bkO_g2, bkO_k2, bkO_g3, bkO_k3, bkO_g4, bkO_k4, bkO_g5, bkO_k5, bkO_g6, bkO_k6, bkO_g7, bkO_k7, bkO_g8, bkO_k8, bkO_g9, bkO_k9, bkO_g10, bkO_k10, bkO_g11, bkO_k11, bkO_g12, bkO_k12, bkO_g13, bkO_k13, bkO_g14, bkO_k14, bkO_g15, bkO_k15, bkO_g16, bkO_k16, bkO_g17, bkO_k17, bkO_s12, bkO_s16, bkO_s17, moO_c, moO_g0, moO_k0, moO_g1, moO_k1, moO_g2, moO_k2, moO_g3, moO_k3, moO_s0, moO_s1, moO_s2, moO_s3, hoO_c, hoO_g0, hoO_k0, hoO_g1, hoO_k1, hoO_g2, hoO_k2, hoO_g3, hoO_k3, hoO_g4, hoO_k4, hoO_g5, hoO_k5, hoO_g6, hoO_k6, hoO_g7, hoO_k7, hoO_g8, hoO_k8, hoO_g9, hoO_k9, hoO_s0, hoO_s1, hoO_s2, hoO_s9, iup_s, iup_n, hp_up1, hp_upn, ne_eq, not_false_eq_true, sh_0, sh_1, sh_2, sh_3, sh_4, sh_5, sh_8, sh_15, sh_16, sh_24, Int.reducePow, Int.cast_ofNat_Int, w_of, wl_of, ltT, ltF, leT, leF, eqT, eqF, okF_0, okF_s, gF_0, gF_s, consC_o, sF_0, sF_s, clsO_o, inA_i, ldA_i, stA_i, inJ_l, ldJ_l, stJ_l, inR_r, ldR_r, stR_r, tgR_r, lenA_i, lenA_l, lenA_r, lenA_ex, nl_i, nl_o, nl_l, nl_n, wd_n, wd_i, wd_l, wd_o, fit_i, fit_l, fit_o, K_v, K_n, true_and, and_true, Nat.reduceAdd, Nat.reduceLeDiff, Nat.reduceEqDiff, Nat.reduceMul, Nat.reduceLT, reduceIte, true_or, or_true, cmp_lt, cmp_gt, cmp_eq, wb_0, b_01, cmp_lt', cmp_gt', cmp_eq', b_0, b_1, wb_1, Int.reduceSub, Int.reduceToNat, List.getD_cons_succ, List.getD_cons_zero, Int.reduceLE, Int.reduceLT, Int.reduceEq, Int.reduceNeg, Int.reduceAdd, Int.reduceMul, and_self, em_b, ne_eq, not_false_eq_true, not_true_eq_false]
    try rfl
  · have hd' : downB (mC M) (mZ M).1 = false := by simpa using hd
    simp only [hd', if_false, Bool.false_eq_true] at dn
    obtain ⟨e', g1, u1, u2, u3, u4, u5, ⟨iy, ca0, h27⟩, ⟨iz, g27⟩, u6⟩ := bk_use hB' hk kc1 hM'
    have hF1 := chg_F u2 hF
    have hE1 := EngP_e hF (ext_c u2) (by decide) hE
    obtain ⟨g2, ow2, nb2, nd2, d1, d2, f1, f2, f3, f4, f5, f6, f7, f8, f9⟩ := Be_solve (kc := kc) hF1 u3 kc1 hE1.1 hE1.2.2.2.2.2.2.1 m5.1
    obtain ⟨v, v1, v2⟩ := Be_longest m6.2.1 m5.1 f8
    have hE2 := Eng_beast hF1 hE1 f1 f7 f8 hca.1 (by have := f1.1; have := u2.1; omega) m5.2 kc1
    have hx := ext_t (ext_w (ext_c u2) (U := [1, 2, 6]) (by decide)) f1
    have r1 := room_d m6.2.1.1 f2
    have r2 := room_d m6.2.1.1 f3
    obtain ⟨q1, q2⟩ := bk_q (ca := ca) (sky := (mZ M).2.1) (e' := e') hB' hx (by decide) (by rw [kc1]; exact f6) (by omega) hE2 (by
      have h1 := u2.1
      have h2 := u2.2.1
      have e1 : (3 * d1 + d2) * szC (mC M) = 3 * (d1 * szC (mC M)) + d2 * szC (mC M) := by rw [Nat.add_mul, Nat.mul_assoc]
      unfold roomI at *
      rw [e1] at f5
      omega)
    refine ⟨kc, ow2, g2, e', v, M, ⟨Or.inr ⟨hd', v1⟩, rfl⟩, q1, q2, fun d Q => ?_⟩
    obtain ⟨t64, -, -, -, -, -, -, t10, -⟩ := tg_64 hF1
    have h90 := hF1.1
    have v10 : hp g2 10 = bkO i := by rw [f1.2.2 10 (by omega) (by rw [t10]; decide), u4]; exact b1
    have v64 : hp g2 64 = moO j (vr ca) := by rw [f1.2.2 64 (by omega) (by rw [t64]; decide), u5]; exact m1
    rw [m1] at u5
    rw [b1] at u4
    have f9' := fun (Q : PQ) => f9 (d + 18) Q
    obtain ⟨iq, cq, pq, c59, -⟩ := hE1.2.2.2.2.2.2.2.2.2.2
    obtain ⟨iq2, cq2, pq2, c59b, -⟩ := hE2.2.2.2.2.2.2.2.2.2.2
    simp (disch := omega) only [e_141_0, e_141_1, e_141_4, e_141_7, e_141_10, e_141_12, e_141_13, e_141_14, e_141_17, e_141_18, e_141_21, e_141_24, e_141_25, e_141_28, e_141_31, e_141_34, e_141_35, e_141_38, e_141_39, e_141_42, e_141_43, e_141_46, e_141_49, e_141_52, e_141_53, e_141_56, e_141_57, e_141_60, e_141_63, e_141_66, b1, m1, m2, m3, dn, h27, g27, u4, u5, u6, v10, v64, c59, c59b, f9', v2, true_and, bkO_c, bkO_g0, bkO_k0, bkO_g1, bkO_k1, bkO_g2, bkO_k2, bkO_g3, bkO_k3, bkO_g4, bkO_k4, bkO_g5, bkO_k5, bkO_g6, bkO_k6, bkO_g7, bkO_k7, bkO_g8, bkO_k8, bkO_g9, bkO_k9, bkO_g10, bkO_k10, bkO_g11, bkO_k11, bkO_g12, bkO_k12, bkO_g13, bkO_k13, bkO_g14, bkO_k14, bkO_g15, bkO_k15, bkO_g16, bkO_k16, bkO_g17, bkO_k17, bkO_s12, bkO_s16, bkO_s17, moO_c, moO_g0, moO_k0, moO_g1, moO_k1, moO_g2, moO_k2, moO_g3, moO_k3, moO_s0, moO_s1, moO_s2, moO_s3, hoO_c, hoO_g0, hoO_k0, hoO_g1, hoO_k1, hoO_g2, hoO_k2, hoO_g3, hoO_k3, hoO_g4, hoO_k4, hoO_g5, hoO_k5, hoO_g6, hoO_k6, hoO_g7, hoO_k7, hoO_g8, hoO_k8, hoO_g9, hoO_k9, hoO_s0, hoO_s1, hoO_s2, hoO_s9, toO_c, toO_g0, toO_k0, toO_g1, toO_k1, toO_g2, toO_k2, toO_g3, toO_k3, toO_g4, toO_k4, toO_g5, toO_k5, toO_g6, toO_k6, toO_s1, toO_s2, toO_s3, toO_s4, toO_s6, rwO_c, rwO_g0, rwO_k0, rwO_g1, rwO_k1, rwO_g2, rwO_k2, rwO_g3, rwO_k3, rwO_g4, rwO_k4, rwO_g5, rwO_k5, rwO_g6, rwO_k6, rwO_s1, rwO_s2, rwO_s4, tkO_c, tkO_g0, tkO_k0, tkO_g1, tkO_k1, tkO_g2, tkO_k2, tkO_g3, tkO_k3, tkO_g4, tkO_k4, tkO_g5, tkO_k5, tkO_g6, tkO_k6, tkO_g7, tkO_k7, tkO_g8, tkO_k8, tkO_s1, tkO_s2, tkO_s3, tkO_s4, tkO_s5, tkO_s6, tkO_s7, tkO_s8, rdO_c, rdO_g0, rdO_k0, rdO_g1, rdO_k1, rdO_g2, rdO_k2, rdO_g3, rdO_k3, rdO_g4, rdO_k4, rdO_g5, rdO_k5, rdO_g6, rdO_k6, rdO_g7, rdO_k7, rdO_g8, rdO_k8, rdO_g9, rdO_k9, rdO_g10, rdO_k10, rdO_g11, rdO_k11, rdO_g12, rdO_k12, rdO_g13, rdO_k13, rdO_g14, rdO_k14, rdO_g15, rdO_k15, rdO_g16, rdO_k16, rdO_g17, rdO_k17, rdO_s2, rdO_s3, rdO_s4, rdO_s10, rdO_s11, rdO_s12, rdO_s13, rdO_s14, rdO_s15, rdO_s16, rdO_s17, kpO_c, kpO_g0, kpO_k0, kpO_g1, kpO_k1, kpO_g2, kpO_k2, kpO_g3, kpO_k3, kpO_g4, kpO_k4, kpO_g5, kpO_k5, kpO_g6, kpO_k6, kpO_s1, kpO_s2, kpO_s3, kpO_s4, beO_c, beO_g0, beO_k0, beO_g1, beO_k1, beO_g2, beO_k2, beO_g3, beO_k3, beO_g4, beO_k4, beO_s1, beO_s2, beO_s3, beO_s4, cmO_c, cmO_g0, cmO_k0, cmO_g1, cmO_k1, cmO_g2, cmO_k2, cmO_g3, cmO_k3, cmO_g4, cmO_k4, cmO_g5, cmO_k5, cmO_g6, cmO_k6, cmO_s0, cmO_s1, cmO_s2, cmO_s3, cmO_s4, cmO_s5, cmO_s6, dkO_c, dkO_g0, dkO_k0, dkO_g1, dkO_k1, dkO_g2, dkO_k2, dkO_s0, dkO_s1, dkO_s2, iup_s, iup_n, hp_up1, hp_upn, ne_eq, not_false_eq_true, sh_0, sh_1, sh_2, sh_3, sh_4, sh_5, sh_8, sh_15, sh_16, sh_24, Int.reducePow, Int.cast_ofNat_Int, w_of, wl_of, ltT, ltF, leT, leF, eqT, eqF, okF_0, okF_s, gF_0, gF_s, consC_o, sF_0, sF_s, clsO_o, inA_i, ldA_i, stA_i, inJ_l, ldJ_l, stJ_l, inR_r, ldR_r, stR_r, tgR_r, lenA_i, lenA_l, lenA_r, lenA_ex, nl_i, nl_o, nl_l, nl_n, wd_n, wd_i, wd_l, wd_o, fit_i, fit_l, fit_o, K_v, K_n, true_and, and_true, Nat.reduceAdd, Nat.reduceLeDiff, Nat.reduceEqDiff, Nat.reduceMul, Nat.reduceLT, reduceIte, true_or, or_true, cmp_lt, cmp_gt, cmp_eq, wb_0, b_01, cmp_lt', cmp_gt', cmp_eq', b_0, b_1, wb_1, Int.reduceSub, Int.reduceToNat, List.getD_cons_succ, List.getD_cons_zero, Int.reduceLE, Int.reduceLT, Int.reduceEq, Int.reduceNeg, Int.reduceAdd, Int.reduceMul, and_self, em_b, ne_eq, not_false_eq_true, not_true_eq_false]
    try rfl
theorem C_best (hB : bkI kc ow h M S0 e k) (hk : k < 600) : cRes ow h S0 k 142 [some (vr 10)] vi (fun v M' => ansB (mC M) (mZ M).2.1 (mZ M).1 v ∧ M' = M) := by
  have hB' := hB
  obtain ⟨hF, ⟨⟨i, b1, b2, b3, b4⟩, ⟨ca, kc1, hM⟩, -⟩, -, he, nd, nc, nk, nr, nb, hE, hR⟩ := hB
  have dn := Mo_isDown hM
  have hM' := hM
  obtain ⟨j, m1, m2, m3, m4, m5, m6⟩ := hM
  have hca := m6.2.2.2
  by_cases hd : downB (mC M) (mZ M).1 = true
  · simp only [hd, if_true] at dn
    refine cRes_r (v := -5) hB' ⟨Or.inl ⟨hd, rfl⟩, rfl⟩ (fun d Q => ?_)
    simp (disch := omega) only [e_142_0, e_142_1, e_142_4, e_142_7, e_142_10, e_142_12, e_142_13, e_142_14, e_142_17, e_142_18, e_142_21, e_142_24, e_142_25, e_142_28, e_142_31, e_142_34, e_142_35, e_142_38, e_142_39, e_142_42, e_142_43, e_142_46, e_142_49, e_142_52, e_142_53, e_142_56, e_142_57, e_142_60, e_142_61, e_142_64, e_142_67, e_142_70, b1, m1, dn, true_and, bkO_c, bkO_g0, bkO_k0, bkO_g1, bkO_k1, bkO_g2, bkO_k2, bkO_g3, bkO_k3, bkO_g4, bkO_k4, bkO_g5, bkO_k5, bkO_g6, bkO_k6, bkO_g7, bkO_k7, bkO_g8, bkO_k8, bkO_g9, bkO_k9, bkO_g10, bkO_k10, bkO_g11, bkO_k11, bkO_g12, bkO_k12, bkO_g13, bkO_k13, bkO_g14, bkO_k14, bkO_g15, bkO_k15, bkO_g16, bkO_k16, bkO_g17, bkO_k17, bkO_s12, bkO_s16, bkO_s17, moO_c, moO_g0, moO_k0, moO_g1, moO_k1, moO_g2, moO_k2, moO_g3, moO_k3, moO_s0, moO_s1, moO_s2, moO_s3, hoO_c, hoO_g0, hoO_k0, hoO_g1, hoO_k1, hoO_g2, hoO_k2, hoO_g3, hoO_k3, hoO_g4, hoO_k4, hoO_g5, hoO_k5, hoO_g6, hoO_k6, hoO_g7, hoO_k7, hoO_g8, hoO_k8, hoO_g9, hoO_k9, hoO_s0, hoO_s1, hoO_s2, hoO_s9, iup_s, iup_n, hp_up1, hp_upn, ne_eq, not_false_eq_true, sh_0, sh_1, sh_2, sh_3, sh_4, sh_5, sh_8, sh_15, sh_16, sh_24, Int.reducePow, Int.cast_ofNat_Int, w_of, wl_of, ltT, ltF, leT, leF, eqT, eqF, okF_0, okF_s, gF_0, gF_s, consC_o, sF_0, sF_s, clsO_o, inA_i, ldA_i, stA_i, inJ_l, ldJ_l, stJ_l, inR_r, ldR_r, stR_r, tgR_r, lenA_i, lenA_l, lenA_r, lenA_ex, nl_i, nl_o, nl_l, nl_n, wd_n, wd_i, wd_l, wd_o, fit_i, fit_l, fit_o, K_v, K_n, true_and, and_true, Nat.reduceAdd, Nat.reduceLeDiff, Nat.reduceEqDiff, Nat.reduceMul, Nat.reduceLT, reduceIte, true_or, or_true, cmp_lt, cmp_gt, cmp_eq, wb_0, b_01, cmp_lt', cmp_gt', cmp_eq', b_0, b_1, wb_1, Int.reduceSub, Int.reduceToNat, List.getD_cons_succ, List.getD_cons_zero, Int.reduceLE, Int.reduceLT, Int.reduceEq, Int.reduceNeg, Int.reduceAdd, Int.reduceMul, and_self, em_b, ne_eq, not_false_eq_true, not_true_eq_false]
    try rfl
  · have hd' : downB (mC M) (mZ M).1 = false := by simpa using hd
    simp only [hd', if_false, Bool.false_eq_true] at dn
    obtain ⟨e', g1, u1, u2, u3, u4, u5, ⟨iy, ca0, h27⟩, ⟨iz, g27⟩, u6⟩ := bk_use hB' hk kc1 hM'
    have hF1 := chg_F u2 hF
    have hE1 := EngP_e hF (ext_c u2) (by decide) hE
    obtain ⟨g2, ow2, nb2, nd2, d1, d2, f1, f2, f3, f4, f5, f6, f7, f8, f9⟩ := Be_solve (kc := kc) hF1 u3 kc1 hE1.1 hE1.2.2.2.2.2.2.1 m5.1
    have hF2 := ext_F f1 hF1
    obtain ⟨g3, v, v1, v2, v3, v4⟩ := Be_first hF2 f6 m5.1 f8
    have hE2 := Eng_beast hF1 hE1 f1 f7 f8 hca.1 (by have := f1.1; have := u2.1; omega) m5.2 kc1
    have hE3 := EngP_e hF2 (ext_c v1) (by decide) hE2
    have hx := ext_t (ext_t (ext_w (ext_c u2) (U := [1, 2, 6]) (by decide)) f1) (ext_w (ext_c v1) (by decide))
    have r1 := room_d m6.2.1.1 f2
    have r2 := room_d m6.2.1.1 f3
    obtain ⟨q1, q2⟩ := bk_q (ca := ca) (sky := (mZ M).2.1) (e' := e') hB' hx (by decide) (by rw [kc1]; exact v2) (by omega) hE3 (by
      have h1 := u2.1
      have h2 := u2.2.1
      have h3 := v1.1
      have h4 := v1.2.1
      have e1 : (3 * d1 + d2) * szC (mC M) = 3 * (d1 * szC (mC M)) + d2 * szC (mC M) := by rw [Nat.add_mul, Nat.mul_assoc]
      unfold roomI at *
      rw [e1] at f5
      omega)
    refine ⟨kc, ow2, g3, e', v, M, ⟨Or.inr ⟨hd', v3⟩, rfl⟩, q1, q2, fun d Q => ?_⟩
    obtain ⟨t64, -, -, -, -, -, -, t10, -⟩ := tg_64 hF1
    have h90 := hF1.1
    have v10 : hp g2 10 = bkO i := by rw [f1.2.2 10 (by omega) (by rw [t10]; decide), u4]; exact b1
    have v64 : hp g2 64 = moO j (vr ca) := by rw [f1.2.2 64 (by omega) (by rw [t64]; decide), u5]; exact m1
    obtain ⟨ix, k27⟩ : ∃ i, hp g2 27 = hoO i (vr ca) := by obtain ⟨i, A, a1, _⟩ := f6; exact ⟨i, a1⟩
    rw [m1] at u5
    rw [b1] at u4
    have f9' := fun (Q : PQ) => f9 (d + 18) Q
    obtain ⟨iq, cq, pq, c59, -⟩ := hE1.2.2.2.2.2.2.2.2.2.2
    obtain ⟨iq2, cq2, pq2, c59b, -⟩ := hE2.2.2.2.2.2.2.2.2.2.2
    have v4' := fun (Q : PQ) => v4 (d + 20) Q
    simp (disch := omega) only [e_142_0, e_142_1, e_142_4, e_142_7, e_142_10, e_142_12, e_142_13, e_142_14, e_142_17, e_142_18, e_142_21, e_142_24, e_142_25, e_142_28, e_142_31, e_142_34, e_142_35, e_142_38, e_142_39, e_142_42, e_142_43, e_142_46, e_142_49, e_142_52, e_142_53, e_142_56, e_142_57, e_142_60, e_142_61, e_142_64, e_142_67, e_142_70, b1, m1, m2, m3, dn, h27, g27, k27, u4, u5, u6, v10, v64, c59, c59b, f9', v4', true_and, bkO_c, bkO_g0, bkO_k0, bkO_g1, bkO_k1, bkO_g2, bkO_k2, bkO_g3, bkO_k3, bkO_g4, bkO_k4, bkO_g5, bkO_k5, bkO_g6, bkO_k6, bkO_g7, bkO_k7, bkO_g8, bkO_k8, bkO_g9, bkO_k9, bkO_g10, bkO_k10, bkO_g11, bkO_k11, bkO_g12, bkO_k12, bkO_g13, bkO_k13, bkO_g14, bkO_k14, bkO_g15, bkO_k15, bkO_g16, bkO_k16, bkO_g17, bkO_k17, bkO_s12, bkO_s16, bkO_s17, moO_c, moO_g0, moO_k0, moO_g1, moO_k1, moO_g2, moO_k2, moO_g3, moO_k3, moO_s0, moO_s1, moO_s2, moO_s3, hoO_c, hoO_g0, hoO_k0, hoO_g1, hoO_k1, hoO_g2, hoO_k2, hoO_g3, hoO_k3, hoO_g4, hoO_k4, hoO_g5, hoO_k5, hoO_g6, hoO_k6, hoO_g7, hoO_k7, hoO_g8, hoO_k8, hoO_g9, hoO_k9, hoO_s0, hoO_s1, hoO_s2, hoO_s9, toO_c, toO_g0, toO_k0, toO_g1, toO_k1, toO_g2, toO_k2, toO_g3, toO_k3, toO_g4, toO_k4, toO_g5, toO_k5, toO_g6, toO_k6, toO_s1, toO_s2, toO_s3, toO_s4, toO_s6, rwO_c, rwO_g0, rwO_k0, rwO_g1, rwO_k1, rwO_g2, rwO_k2, rwO_g3, rwO_k3, rwO_g4, rwO_k4, rwO_g5, rwO_k5, rwO_g6, rwO_k6, rwO_s1, rwO_s2, rwO_s4, tkO_c, tkO_g0, tkO_k0, tkO_g1, tkO_k1, tkO_g2, tkO_k2, tkO_g3, tkO_k3, tkO_g4, tkO_k4, tkO_g5, tkO_k5, tkO_g6, tkO_k6, tkO_g7, tkO_k7, tkO_g8, tkO_k8, tkO_s1, tkO_s2, tkO_s3, tkO_s4, tkO_s5, tkO_s6, tkO_s7, tkO_s8, rdO_c, rdO_g0, rdO_k0, rdO_g1, rdO_k1, rdO_g2, rdO_k2, rdO_g3, rdO_k3, rdO_g4, rdO_k4, rdO_g5, rdO_k5, rdO_g6, rdO_k6, rdO_g7, rdO_k7, rdO_g8, rdO_k8, rdO_g9, rdO_k9, rdO_g10, rdO_k10, rdO_g11, rdO_k11, rdO_g12, rdO_k12, rdO_g13, rdO_k13, rdO_g14, rdO_k14, rdO_g15, rdO_k15, rdO_g16, rdO_k16, rdO_g17, rdO_k17, rdO_s2, rdO_s3, rdO_s4, rdO_s10, rdO_s11, rdO_s12, rdO_s13, rdO_s14, rdO_s15, rdO_s16, rdO_s17, kpO_c, kpO_g0, kpO_k0, kpO_g1, kpO_k1, kpO_g2, kpO_k2, kpO_g3, kpO_k3, kpO_g4, kpO_k4, kpO_g5, kpO_k5, kpO_g6, kpO_k6, kpO_s1, kpO_s2, kpO_s3, kpO_s4, beO_c, beO_g0, beO_k0, beO_g1, beO_k1, beO_g2, beO_k2, beO_g3, beO_k3, beO_g4, beO_k4, beO_s1, beO_s2, beO_s3, beO_s4, cmO_c, cmO_g0, cmO_k0, cmO_g1, cmO_k1, cmO_g2, cmO_k2, cmO_g3, cmO_k3, cmO_g4, cmO_k4, cmO_g5, cmO_k5, cmO_g6, cmO_k6, cmO_s0, cmO_s1, cmO_s2, cmO_s3, cmO_s4, cmO_s5, cmO_s6, dkO_c, dkO_g0, dkO_k0, dkO_g1, dkO_k1, dkO_g2, dkO_k2, dkO_s0, dkO_s1, dkO_s2, iup_s, iup_n, hp_up1, hp_upn, ne_eq, not_false_eq_true, sh_0, sh_1, sh_2, sh_3, sh_4, sh_5, sh_8, sh_15, sh_16, sh_24, Int.reducePow, Int.cast_ofNat_Int, w_of, wl_of, ltT, ltF, leT, leF, eqT, eqF, okF_0, okF_s, gF_0, gF_s, consC_o, sF_0, sF_s, clsO_o, inA_i, ldA_i, stA_i, inJ_l, ldJ_l, stJ_l, inR_r, ldR_r, stR_r, tgR_r, lenA_i, lenA_l, lenA_r, lenA_ex, nl_i, nl_o, nl_l, nl_n, wd_n, wd_i, wd_l, wd_o, fit_i, fit_l, fit_o, K_v, K_n, true_and, and_true, Nat.reduceAdd, Nat.reduceLeDiff, Nat.reduceEqDiff, Nat.reduceMul, Nat.reduceLT, reduceIte, true_or, or_true, cmp_lt, cmp_gt, cmp_eq, wb_0, b_01, cmp_lt', cmp_gt', cmp_eq', b_0, b_1, wb_1, Int.reduceSub, Int.reduceToNat, List.getD_cons_succ, List.getD_cons_zero, Int.reduceLE, Int.reduceLT, Int.reduceEq, Int.reduceNeg, Int.reduceAdd, Int.reduceMul, and_self, em_b, ne_eq, not_false_eq_true, not_true_eq_false]
    try rfl
theorem cmp_cm {c : KC} {sky n : Nat} (hK : okK c) : ∀ {r lev : Nat} {x : ST}, lev + r ≤ n → cmpU c sky r x = if downB c x then 0 else cmF c sky (List.replicate n (-1)) r lev x
  | 0, lev, x, _ => rfl
  | r + 1, lev, x, hl => by
    have e : cmpU c sky (r + 1) x = stW c sky 3 (cmpU c sky r) x 19 := rfl
    have hfun : cmpU c sky r = fun y => if fitB c (List.replicate n (-1)) lev y then cmF c sky (List.replicate n (-1)) r (lev + 1) y else 0 := by
      funext y
      have ih := cmp_cm (c := c) (sky := sky) (n := n) hK (r := r) (lev := lev + 1) (x := y) (by omega)
      rw [ih]
      have hg : (List.replicate n (-1 : Int)).getD lev 0 = -1 := by rw [List.getD_eq_getElem?_getD, List.getElem?_replicate, if_pos (by omega)]; rfl
      unfold fitB
      rw [hg]
      by_cases q : downB c y = true
      · rw [q]; rfl
      · have q' : downB c y = false := by simpa using q
        rw [q']; rfl
    rw [e, hfun, ← cmF_s]
    by_cases q : downB c x = true
    · rw [if_pos q, hsum_cm hK, nx_down q]; rfl
    · rw [if_neg q]
theorem C_rows {x : Int} (hB : bkI kc ow h M S0 e k) (hk : k < 600) (h1 : -2147483648 ≤ x) (h2 : x < 2147483648) : cRes ow h S0 k 129 [some (vr 10), some (vi x)] vl (fun v M' => ansR (mC M) (mZ M).2.1 (mZ M).1 x v ∧ M' = M) := by
  have hB' := hB
  obtain ⟨hF, ⟨⟨i, b1, b2, b3, b4⟩, ⟨ca, kc1, hM⟩, -⟩, -, he, nd, nc, nk, nr, nb, hE, hR⟩ := hB
  have dn := Mo_isDown hM
  have hM' := hM
  obtain ⟨j, m1, m2, m3, m4, m5, m6⟩ := hM
  have hca := m6.2.2.2
  by_cases q0 : 0 ≤ x
  · by_cases q1 : x ≤ 8
    · by_cases hd : downB (mC M) (mZ M).1 = true
      · simp only [hd, if_true] at dn
        refine cRes_r (v := -5) hB' ⟨Or.inr (Or.inl ⟨⟨q0, q1⟩, hd, rfl⟩), rfl⟩ (fun d Q => ?_)
        simp (disch := omega) only [e_129_0, e_129_1, e_129_4, e_129_5, e_129_7, e_129_10, e_129_13, e_129_14, e_129_15, e_129_18, e_129_21, e_129_24, e_129_27, e_129_28, e_129_29, e_129_32, e_129_33, e_129_36, e_129_39, e_129_40, e_129_43, e_129_46, e_129_49, e_129_50, e_129_53, e_129_54, e_129_57, e_129_58, e_129_61, e_129_62, e_129_65, e_129_66, e_129_69, e_129_72, e_129_75, b1, m1, dn, true_and, bkO_c, bkO_g0, bkO_k0, bkO_g1, bkO_k1, bkO_g2, bkO_k2, bkO_g3, bkO_k3, bkO_g4, bkO_k4, bkO_g5, bkO_k5, bkO_g6, bkO_k6, bkO_g7, bkO_k7, bkO_g8, bkO_k8, bkO_g9, bkO_k9, bkO_g10, bkO_k10, bkO_g11, bkO_k11, bkO_g12, bkO_k12, bkO_g13, bkO_k13, bkO_g14, bkO_k14, bkO_g15, bkO_k15, bkO_g16, bkO_k16, bkO_g17, bkO_k17, bkO_s12, bkO_s16, bkO_s17, moO_c, moO_g0, moO_k0, moO_g1, moO_k1, moO_g2, moO_k2, moO_g3, moO_k3, moO_s0, moO_s1, moO_s2, moO_s3, hoO_c, hoO_g0, hoO_k0, hoO_g1, hoO_k1, hoO_g2, hoO_k2, hoO_g3, hoO_k3, hoO_g4, hoO_k4, hoO_g5, hoO_k5, hoO_g6, hoO_k6, hoO_g7, hoO_k7, hoO_g8, hoO_k8, hoO_g9, hoO_k9, hoO_s0, hoO_s1, hoO_s2, hoO_s9, iup_s, iup_n, hp_up1, hp_upn, ne_eq, not_false_eq_true, sh_0, sh_1, sh_2, sh_3, sh_4, sh_5, sh_8, sh_15, sh_16, sh_24, Int.reducePow, Int.cast_ofNat_Int, w_of, wl_of, ltT, ltF, leT, leF, eqT, eqF, okF_0, okF_s, gF_0, gF_s, consC_o, sF_0, sF_s, clsO_o, inA_i, ldA_i, stA_i, inJ_l, ldJ_l, stJ_l, inR_r, ldR_r, stR_r, tgR_r, lenA_i, lenA_l, lenA_r, lenA_ex, nl_i, nl_o, nl_l, nl_n, wd_n, wd_i, wd_l, wd_o, fit_i, fit_l, fit_o, K_v, K_n, true_and, and_true, Nat.reduceAdd, Nat.reduceLeDiff, Nat.reduceEqDiff, Nat.reduceMul, Nat.reduceLT, reduceIte, true_or, or_true, cmp_lt, cmp_gt, cmp_eq, wb_0, b_01, cmp_lt', cmp_gt', cmp_eq', b_0, b_1, wb_1, Int.reduceSub, Int.reduceToNat, List.getD_cons_succ, List.getD_cons_zero, Int.reduceLE, Int.reduceLT, Int.reduceEq, Int.reduceNeg, Int.reduceAdd, Int.reduceMul, and_self, em_b, ne_eq, not_false_eq_true, not_true_eq_false]
        try rfl
      · have hd' : downB (mC M) (mZ M).1 = false := by simpa using hd
        simp only [hd', if_false, Bool.false_eq_true] at dn
        obtain ⟨I, rfl⟩ : ∃ I : Nat, x = (I : Int) := ⟨x.toNat, by omega⟩
        obtain ⟨e', g1, u1, u2, u3, u4, u5, ⟨iy, ca0, h27⟩, ⟨iz, g27⟩, u6⟩ := bk_use hB' hk kc1 hM'
        have hF1 := chg_F u2 hF
        have hE1 := EngP_e hF (ext_c u2) (by decide) hE
        obtain ⟨p1, p2, p3, p4, ⟨lw, p5⟩, p6, p7, p8, p9, p10, p11⟩ := hE1
        obtain ⟨g2, w1, w2, w3⟩ := Ro_any (nn := I) hF1 p5 (by omega)
        have hF2 := chg_F w1 hF1
        have hH2 := HoP_c hF1 w1 (by decide) (by decide) u3
        have ll : (List.replicate I (-1 : Int)).length = I := List.length_replicate
        obtain ⟨g3, ow3, nr3, nd3, d1, d2, f1, f2, f3, f4, f5, f6, f7, f8, f9, f10⟩ := Ro_total hF2 hH2 (DesP_e hF1 (ext_c w1) (by decide) p1) w2 m5.1 (fun k hk => by
          rw [ll] at hk
          rw [List.getD_eq_getElem?_getD, List.getElem?_replicate, if_pos hk]
          exact ⟨by show -1 ≤ (-1 : Int); omega, by show (-1 : Int) < 5; omega⟩) (Or.inl hd')
        have xa := ext_t (ext_w (ext_c w1) (U := [1, 2, 5, 18]) (by decide)) (ext_w f1 (U := [1, 2, 5, 18]) (by decide))
        have hE2 : EngP kc ow3 g3 nd3 nc nk nr3 nb := ⟨f7, ComP_e hF1 xa (by decide) p2, KepP_e hF1 xa (by decide) p3, Wd_e hF1 xa (by decide) p4, ⟨_, f9⟩, AhP_e hF1 xa (by decide) (by decide) p6, BeaP_e hF1 xa (by decide) p7, ToP_e hF1 xa (by decide) p8, cell_41 hF1 xa (by decide) p9, cell_38 hF1 xa (by decide) p10, cell_59 hF1 xa (by decide) p11⟩
        have hx := ext_t (ext_w (ext_c u2) (U := [1, 2, 5, 18]) (by decide)) xa
        have r1 := room_d m6.2.1.1 f2
        have r2 := room_d m6.2.1.1 f3
        obtain ⟨q1', q2'⟩ := bk_q (ca := ca) (sky := (mZ M).2.1) (e' := e') hB' hx (by decide) (by rw [kc1]; exact f6) (by omega) hE2 (by
          have h1 := u2.1
          have h2 := u2.2.1
          have h3 := w1.1
          have h4 := w1.2.1
          have e1 : (3 * d1 + 2 * d2) * szC (mC M) = 3 * (d1 * szC (mC M)) + 2 * (d2 * szC (mC M)) := by rw [Nat.add_mul, Nat.mul_assoc, Nat.mul_assoc]
          unfold roomI at *
          rw [e1] at f5
          omega)
        have ec : cmF (mC M) (mZ M).2.1 (List.replicate I (-1)) (List.replicate I (-1 : Int)).length 0 (mZ M).1 = cmpU (mC M) (mZ M).2.1 I (mZ M).1 := by
          rw [ll, cmp_cm (n := I) (lev := 0) m6.2.1.1 (by omega), if_neg hd]
        rw [ec] at f10
        refine ⟨kc, ow3, g3, e', _, M, ⟨Or.inr (Or.inr ⟨⟨q0, q1⟩, hd', rfl⟩), rfl⟩, q1', q2', fun d Q => ?_⟩
        rw [Int.toNat_natCast]
        obtain ⟨t64, -, -, -, -, -, -, t10, -⟩ := tg_64 hF1
        have v10 : hp g2 10 = bkO i := by rw [chg_at w1 t10 (by decide), u4]; exact b1
        have v64 : hp g2 64 = moO j (vr ca) := by rw [chg_at w1 t64 (by decide), u5]; exact m1
        rw [m1] at u5
        rw [b1] at u4
        obtain ⟨ix, k27⟩ : ∃ i, hp g2 27 = hoO i (vr ca) := by obtain ⟨i, A, a1, _⟩ := hH2; exact ⟨i, a1⟩
        have f10' := fun (Q : PQ) => f10 (d + 18) Q
        have w3' := fun (d : Nat) (Q : PQ) => w3 d Q
        obtain ⟨iq, pa, pb, c45⟩ : ∃ i pa pb, hp g1 45 = rwO i pa pb := by obtain ⟨i, kA, sA, f, g, fw, v1, _⟩ := p5; exact ⟨i, _, _, v1⟩
        obtain ⟨iq2, pa2, pb2, c45b⟩ : ∃ i pa pb, hp g2 45 = rwO i pa pb := by obtain ⟨i, kA, sA, f, g, fw, v1, _⟩ := w2; exact ⟨i, _, _, v1⟩
        simp (disch := omega) only [e_129_0, e_129_1, e_129_4, e_129_5, e_129_7, e_129_10, e_129_13, e_129_14, e_129_15, e_129_18, e_129_21, e_129_24, e_129_27, e_129_28, e_129_29, e_129_32, e_129_33, e_129_36, e_129_39, e_129_40, e_129_43, e_129_46, e_129_49, e_129_50, e_129_53, e_129_54, e_129_57, e_129_58, e_129_61, e_129_62, e_129_65, e_129_66, e_129_69, e_129_72, e_129_75, b1, m1, m2, m3, dn, h27, g27, k27, u4, u5, u6, v10, v64, c45, c45b, w3', f10', true_and, bkO_c, bkO_g0, bkO_k0, bkO_g1, bkO_k1, bkO_g2, bkO_k2, bkO_g3, bkO_k3, bkO_g4, bkO_k4, bkO_g5, bkO_k5, bkO_g6, bkO_k6, bkO_g7, bkO_k7, bkO_g8, bkO_k8, bkO_g9, bkO_k9, bkO_g10, bkO_k10, bkO_g11, bkO_k11, bkO_g12, bkO_k12, bkO_g13, bkO_k13, bkO_g14, bkO_k14, bkO_g15, bkO_k15, bkO_g16, bkO_k16, bkO_g17, bkO_k17, bkO_s12, bkO_s16, bkO_s17, moO_c, moO_g0, moO_k0, moO_g1, moO_k1, moO_g2, moO_k2, moO_g3, moO_k3, moO_s0, moO_s1, moO_s2, moO_s3, hoO_c, hoO_g0, hoO_k0, hoO_g1, hoO_k1, hoO_g2, hoO_k2, hoO_g3, hoO_k3, hoO_g4, hoO_k4, hoO_g5, hoO_k5, hoO_g6, hoO_k6, hoO_g7, hoO_k7, hoO_g8, hoO_k8, hoO_g9, hoO_k9, hoO_s0, hoO_s1, hoO_s2, hoO_s9, toO_c, toO_g0, toO_k0, toO_g1, toO_k1, toO_g2, toO_k2, toO_g3, toO_k3, toO_g4, toO_k4, toO_g5, toO_k5, toO_g6, toO_k6, toO_s1, toO_s2, toO_s3, toO_s4, toO_s6, rwO_c, rwO_g0, rwO_k0, rwO_g1, rwO_k1, rwO_g2, rwO_k2, rwO_g3, rwO_k3, rwO_g4, rwO_k4, rwO_g5, rwO_k5, rwO_g6, rwO_k6, rwO_s1, rwO_s2, rwO_s4, tkO_c, tkO_g0, tkO_k0, tkO_g1, tkO_k1, tkO_g2, tkO_k2, tkO_g3, tkO_k3, tkO_g4, tkO_k4, tkO_g5, tkO_k5, tkO_g6, tkO_k6, tkO_g7, tkO_k7, tkO_g8, tkO_k8, tkO_s1, tkO_s2, tkO_s3, tkO_s4, tkO_s5, tkO_s6, tkO_s7, tkO_s8, rdO_c, rdO_g0, rdO_k0, rdO_g1, rdO_k1, rdO_g2, rdO_k2, rdO_g3, rdO_k3, rdO_g4, rdO_k4, rdO_g5, rdO_k5, rdO_g6, rdO_k6, rdO_g7, rdO_k7, rdO_g8, rdO_k8, rdO_g9, rdO_k9, rdO_g10, rdO_k10, rdO_g11, rdO_k11, rdO_g12, rdO_k12, rdO_g13, rdO_k13, rdO_g14, rdO_k14, rdO_g15, rdO_k15, rdO_g16, rdO_k16, rdO_g17, rdO_k17, rdO_s2, rdO_s3, rdO_s4, rdO_s10, rdO_s11, rdO_s12, rdO_s13, rdO_s14, rdO_s15, rdO_s16, rdO_s17, kpO_c, kpO_g0, kpO_k0, kpO_g1, kpO_k1, kpO_g2, kpO_k2, kpO_g3, kpO_k3, kpO_g4, kpO_k4, kpO_g5, kpO_k5, kpO_g6, kpO_k6, kpO_s1, kpO_s2, kpO_s3, kpO_s4, beO_c, beO_g0, beO_k0, beO_g1, beO_k1, beO_g2, beO_k2, beO_g3, beO_k3, beO_g4, beO_k4, beO_s1, beO_s2, beO_s3, beO_s4, cmO_c, cmO_g0, cmO_k0, cmO_g1, cmO_k1, cmO_g2, cmO_k2, cmO_g3, cmO_k3, cmO_g4, cmO_k4, cmO_g5, cmO_k5, cmO_g6, cmO_k6, cmO_s0, cmO_s1, cmO_s2, cmO_s3, cmO_s4, cmO_s5, cmO_s6, dkO_c, dkO_g0, dkO_k0, dkO_g1, dkO_k1, dkO_g2, dkO_k2, dkO_s0, dkO_s1, dkO_s2, iup_s, iup_n, hp_up1, hp_upn, ne_eq, not_false_eq_true, sh_0, sh_1, sh_2, sh_3, sh_4, sh_5, sh_8, sh_15, sh_16, sh_24, Int.reducePow, Int.cast_ofNat_Int, w_of, wl_of, ltT, ltF, leT, leF, eqT, eqF, okF_0, okF_s, gF_0, gF_s, consC_o, sF_0, sF_s, clsO_o, inA_i, ldA_i, stA_i, inJ_l, ldJ_l, stJ_l, inR_r, ldR_r, stR_r, tgR_r, lenA_i, lenA_l, lenA_r, lenA_ex, nl_i, nl_o, nl_l, nl_n, wd_n, wd_i, wd_l, wd_o, fit_i, fit_l, fit_o, K_v, K_n, true_and, and_true, Nat.reduceAdd, Nat.reduceLeDiff, Nat.reduceEqDiff, Nat.reduceMul, Nat.reduceLT, reduceIte, true_or, or_true, cmp_lt, cmp_gt, cmp_eq, wb_0, b_01, cmp_lt', cmp_gt', cmp_eq', b_0, b_1, wb_1, Int.reduceSub, Int.reduceToNat, List.getD_cons_succ, List.getD_cons_zero, Int.reduceLE, Int.reduceLT, Int.reduceEq, Int.reduceNeg, Int.reduceAdd, Int.reduceMul, and_self, em_b, ne_eq, not_false_eq_true, not_true_eq_false]
        try rfl
    · refine cRes_r (v := -3) hB' ⟨Or.inl ⟨fun z => q1 z.2, rfl⟩, rfl⟩ (fun d Q => ?_)
      simp (disch := omega) only [e_129_0, e_129_1, e_129_4, e_129_5, e_129_7, e_129_10, e_129_13, bkO_c, bkO_g0, bkO_k0, bkO_g1, bkO_k1, bkO_g2, bkO_k2, bkO_g3, bkO_k3, bkO_g4, bkO_k4, bkO_g5, bkO_k5, bkO_g6, bkO_k6, bkO_g7, bkO_k7, bkO_g8, bkO_k8, bkO_g9, bkO_k9, bkO_g10, bkO_k10, bkO_g11, bkO_k11, bkO_g12, bkO_k12, bkO_g13, bkO_k13, bkO_g14, bkO_k14, bkO_g15, bkO_k15, bkO_g16, bkO_k16, bkO_g17, bkO_k17, bkO_s12, bkO_s16, bkO_s17, moO_c, moO_g0, moO_k0, moO_g1, moO_k1, moO_g2, moO_k2, moO_g3, moO_k3, moO_s0, moO_s1, moO_s2, moO_s3, hoO_c, hoO_g0, hoO_k0, hoO_g1, hoO_k1, hoO_g2, hoO_k2, hoO_g3, hoO_k3, hoO_g4, hoO_k4, hoO_g5, hoO_k5, hoO_g6, hoO_k6, hoO_g7, hoO_k7, hoO_g8, hoO_k8, hoO_g9, hoO_k9, hoO_s0, hoO_s1, hoO_s2, hoO_s9, iup_s, iup_n, hp_up1, hp_upn, ne_eq, not_false_eq_true, sh_0, sh_1, sh_2, sh_3, sh_4, sh_5, sh_8, sh_15, sh_16, sh_24, Int.reducePow, Int.cast_ofNat_Int, w_of, wl_of, ltT, ltF, leT, leF, eqT, eqF, okF_0, okF_s, gF_0, gF_s, consC_o, sF_0, sF_s, clsO_o, inA_i, ldA_i, stA_i, inJ_l, ldJ_l, stJ_l, inR_r, ldR_r, stR_r, tgR_r, lenA_i, lenA_l, lenA_r, lenA_ex, nl_i, nl_o, nl_l, nl_n, wd_n, wd_i, wd_l, wd_o, fit_i, fit_l, fit_o, K_v, K_n, true_and, and_true, Nat.reduceAdd, Nat.reduceLeDiff, Nat.reduceEqDiff, Nat.reduceMul, Nat.reduceLT, reduceIte, true_or, or_true, cmp_lt, cmp_gt, cmp_eq, wb_0, b_01, cmp_lt', cmp_gt', cmp_eq', b_0, b_1, wb_1, Int.reduceSub, Int.reduceToNat, List.getD_cons_succ, List.getD_cons_zero, Int.reduceLE, Int.reduceLT, Int.reduceEq, Int.reduceNeg, Int.reduceAdd, Int.reduceMul, and_self, em_b, ne_eq, not_false_eq_true, not_true_eq_false]
      try rfl
  · refine cRes_r (v := -3) hB' ⟨Or.inl ⟨fun z => q0 z.1, rfl⟩, rfl⟩ (fun d Q => ?_)
    simp (disch := omega) only [e_129_0, e_129_1, e_129_4, e_129_5, e_129_7, e_129_10, e_129_13, bkO_c, bkO_g0, bkO_k0, bkO_g1, bkO_k1, bkO_g2, bkO_k2, bkO_g3, bkO_k3, bkO_g4, bkO_k4, bkO_g5, bkO_k5, bkO_g6, bkO_k6, bkO_g7, bkO_k7, bkO_g8, bkO_k8, bkO_g9, bkO_k9, bkO_g10, bkO_k10, bkO_g11, bkO_k11, bkO_g12, bkO_k12, bkO_g13, bkO_k13, bkO_g14, bkO_k14, bkO_g15, bkO_k15, bkO_g16, bkO_k16, bkO_g17, bkO_k17, bkO_s12, bkO_s16, bkO_s17, moO_c, moO_g0, moO_k0, moO_g1, moO_k1, moO_g2, moO_k2, moO_g3, moO_k3, moO_s0, moO_s1, moO_s2, moO_s3, hoO_c, hoO_g0, hoO_k0, hoO_g1, hoO_k1, hoO_g2, hoO_k2, hoO_g3, hoO_k3, hoO_g4, hoO_k4, hoO_g5, hoO_k5, hoO_g6, hoO_k6, hoO_g7, hoO_k7, hoO_g8, hoO_k8, hoO_g9, hoO_k9, hoO_s0, hoO_s1, hoO_s2, hoO_s9, iup_s, iup_n, hp_up1, hp_upn, ne_eq, not_false_eq_true, sh_0, sh_1, sh_2, sh_3, sh_4, sh_5, sh_8, sh_15, sh_16, sh_24, Int.reducePow, Int.cast_ofNat_Int, w_of, wl_of, ltT, ltF, leT, leF, eqT, eqF, okF_0, okF_s, gF_0, gF_s, consC_o, sF_0, sF_s, clsO_o, inA_i, ldA_i, stA_i, inJ_l, ldJ_l, stJ_l, inR_r, ldR_r, stR_r, tgR_r, lenA_i, lenA_l, lenA_r, lenA_ex, nl_i, nl_o, nl_l, nl_n, wd_n, wd_i, wd_l, wd_o, fit_i, fit_l, fit_o, K_v, K_n, true_and, and_true, Nat.reduceAdd, Nat.reduceLeDiff, Nat.reduceEqDiff, Nat.reduceMul, Nat.reduceLT, reduceIte, true_or, or_true, cmp_lt, cmp_gt, cmp_eq, wb_0, b_01, cmp_lt', cmp_gt', cmp_eq', b_0, b_1, wb_1, Int.reduceSub, Int.reduceToNat, List.getD_cons_succ, List.getD_cons_zero, Int.reduceLE, Int.reduceLT, Int.reduceEq, Int.reduceNeg, Int.reduceAdd, Int.reduceMul, and_self, em_b, ne_eq, not_false_eq_true, not_true_eq_false]
    try rfl
end parts
