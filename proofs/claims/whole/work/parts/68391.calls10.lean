/-! THE CLASS: century -/
section parts
variable {kc : Nat → KC} {ow : Nat → Nat} {M : MS} {S0 e k : Nat}
theorem C_century {h : PH} {x y : Int} (hB : bkI kc ow h M S0 e k) (hk : k < 600) (h1 : -2147483648 ≤ y) (h2 : y < 2147483648) : cRes ow h S0 k 126 [some (vr 10), some (vi x), some (vi y), none, none] vi (fun v M' => (v, M') = cenF M x y) := by
  have hB' := hB
  obtain ⟨hF, ⟨⟨i, b1, b2, b3, b4⟩, ⟨ca, kc1, hM⟩, ⟨i65, q65, p65⟩, -, hPa, -⟩, ⟨ca0, sky0, hH⟩, he, nd, nc, nk, nr, nb, hE, hR⟩ := hB
  obtain ⟨j, m1, m2, m3, m4, m5, m6⟩ := hM
  obtain ⟨t64, t65, -, t67, t68, t69, -, t10, -⟩ := tg_64 hF
  obtain ⟨t61, -⟩ := tg_to hF
  unfold cenF
  by_cases q : 1 ≤ y ∧ y ≤ 40
  · rw [if_pos q]
    obtain ⟨t, rfl⟩ : ∃ t : Nat, y = (t : Int) := ⟨y.toNat, by omega⟩
    rw [Int.toNat_natCast]
    obtain ⟨k65, n1, n2, n3, n4⟩ := Mo_take (by omega) p65 m1 ⟨ca, rfl⟩
    have c1 : chg ow [9] h (hup h 65 (moO k65 (vr ca))) := chg_up t65 (by decide)
    have hF1 := chg_F c1 hF
    have hTo := hE.2.2.2.2.2.2.2.1
    obtain ⟨g1, it, s1, s2, s3, s4, s5⟩ := To_sow (x := x) hF1 (ToP_e hF (ext_c c1) (by decide) hTo)
    have c2 : chg ow [7, 9] h g1 := chg_t (chg_w c1 (by decide)) (chg_w s1 (by decide))
    have hF2 := chg_F c2 hF
    have hH2 := HoP_c hF c2 (by decide) (by decide) hH
    have hM2 : MoP ow g1 64 ca (mC M) (mZ M) := ⟨j, by rw [chg_at c2 t64 (by decide)]; exact m1, m2, m3, m4, m5, KCty_c c2 (by decide) m6⟩
    have w10 : hp g1 10 = bkO i := by rw [chg_at c2 t10 (by decide)]; exact b1
    obtain ⟨g, ca1, sky1, e1, a1, a2, a3, a4, a5, a6⟩ := cen_Lp (i := i) (sd := x) kc1 t64 (show t ≤ 40 by omega) t 0 g1 (mZ M) x 0 e ca0 sky0 it (by omega) (by omega) (by omega) hF2 hH2 hM2 s2 s3 s4 w10
    have c3 : chg ow [1, 7, 8, 9] h g := chg_t (chg_w c2 (by decide)) (chg_w a2 (by decide))
    have hF3 := chg_F c3 hF
    have v10 : hp g 10 = bkO i := by rw [chg_at c3 t10 (by decide)]; exact b1
    have v65 : hp g 65 = moO k65 (vr ca) := by rw [chg_at a2 t65 (by decide), chg_at s1 t65 (by decide), hp_up1]
    obtain ⟨i61, f61, g61, e61, -⟩ := hTo
    have u61 : hp (hup h 65 (moO k65 (vr ca))) 61 = toO i61 := by rw [hp_upn (by omega)]; exact e61
    have u10 : hp (hup h 65 (moO k65 (vr ca))) 10 = bkO i := by rw [hp_upn (by omega)]; exact b1
    have hcl : (cen (mC M) t x (mZ M)).1 ≤ t := by
      have : ∀ n (x : Int) (z : ZT), (cen (mC M) n x z).1 ≤ n := by
        intro n
        induction n with
        | zero => intro x z; exact Nat.le_refl _
        | succ n ihn =>
          intro x z
          show (if actW (mC M) z (cenD x).1 = 0 then ((cen (mC M) n (cenD x).2 (actN (mC M) z (cenD x).1)).1 + 1, (cen (mC M) n (cenD x).2 (actN (mC M) z (cenD x).1)).2) else cen (mC M) n (cenD x).2 z).1 ≤ n + 1
          split
          · have := ihn (cenD x).2 (actN (mC M) z (cenD x).1); show _ + 1 ≤ _; omega
          · have := ihn (cenD x).2 z; omega
      exact this t x (mZ M)
    have to75 : ∀ d Q, WP (d + 30) 126 0 [some (vr 10), some (vi x), some (vi t), none, none] [] h Q = WP (d + 30) 126 75 [some (vr 10), some (vi x), some (vi t), some (vi ((cen (mC M) t x (mZ M)).1 : Int)), some (vi t)] [] g Q := by
      intro d Q
      have a6' := a6 (d + 19) Q
      rw [nc0, Nat.zero_add] at a6'
      rw [← a6']
      simp (disch := omega) only [e_126_0, e_126_1, e_126_2, e_126_5, e_126_6, e_126_8, e_126_11, e_126_13, e_126_14, e_126_15, e_126_18, e_126_19, e_126_22, e_126_25, e_126_26, e_126_29, e_126_30, e_126_33, e_126_34, e_126_35, e_126_36, b1, m1, p65, n4, u10, u61, s5, true_and, bkO_c, bkO_g0, bkO_k0, bkO_g1, bkO_k1, bkO_g2, bkO_k2, bkO_g3, bkO_k3, bkO_g4, bkO_k4, bkO_g5, bkO_k5, bkO_g6, bkO_k6, bkO_g7, bkO_k7, bkO_g8, bkO_k8, bkO_g9, bkO_k9, bkO_g10, bkO_k10, bkO_g11, bkO_k11, bkO_g12, bkO_k12, bkO_g13, bkO_k13, bkO_g14, bkO_k14, bkO_g15, bkO_k15, bkO_g16, bkO_k16, bkO_g17, bkO_k17, bkO_s12, bkO_s16, bkO_s17, moO_c, moO_g0, moO_k0, moO_g1, moO_k1, moO_g2, moO_k2, moO_g3, moO_k3, moO_s0, moO_s1, moO_s2, moO_s3, hoO_c, hoO_g0, hoO_k0, hoO_g1, hoO_k1, hoO_g2, hoO_k2, hoO_g3, hoO_k3, hoO_g4, hoO_k4, hoO_g5, hoO_k5, hoO_g6, hoO_k6, hoO_g7, hoO_k7, hoO_g8, hoO_k8, hoO_g9, hoO_k9, hoO_s0, hoO_s1, hoO_s2, hoO_s9, toO_c, toO_g0, toO_k0, toO_g1, toO_k1, toO_g2, toO_k2, toO_g3, toO_k3, toO_g4, toO_k4, toO_g5, toO_k5, toO_g6, toO_k6, toO_s1, toO_s2, toO_s3, toO_s4, toO_s6, rwO_c, rwO_g0, rwO_k0, rwO_g1, rwO_k1, rwO_g2, rwO_k2, rwO_g3, rwO_k3, rwO_g4, rwO_k4, rwO_g5, rwO_k5, rwO_g6, rwO_k6, rwO_s1, rwO_s2, rwO_s4, tkO_c, tkO_g0, tkO_k0, tkO_g1, tkO_k1, tkO_g2, tkO_k2, tkO_g3, tkO_k3, tkO_g4, tkO_k4, tkO_g5, tkO_k5, tkO_g6, tkO_k6, tkO_g7, tkO_k7, tkO_g8, tkO_k8, tkO_s1, tkO_s2, tkO_s3, tkO_s4, tkO_s5, tkO_s6, tkO_s7, tkO_s8, rdO_c, rdO_g0, rdO_k0, rdO_g1, rdO_k1, rdO_g2, rdO_k2, rdO_g3, rdO_k3, rdO_g4, rdO_k4, rdO_g5, rdO_k5, rdO_g6, rdO_k6, rdO_g7, rdO_k7, rdO_g8, rdO_k8, rdO_g9, rdO_k9, rdO_g10, rdO_k10, rdO_g11, rdO_k11, rdO_g12, rdO_k12, rdO_g13, rdO_k13, rdO_g14, rdO_k14, rdO_g15, rdO_k15, rdO_g16, rdO_k16, rdO_g17, rdO_k17, rdO_s2, rdO_s3, rdO_s4, rdO_s10, rdO_s11, rdO_s12, rdO_s13, rdO_s14, rdO_s15, rdO_s16, rdO_s17, kpO_c, kpO_g0, kpO_k0, kpO_g1, kpO_k1, kpO_g2, kpO_k2, kpO_g3, kpO_k3, kpO_g4, kpO_k4, kpO_g5, kpO_k5, kpO_g6, kpO_k6, kpO_s1, kpO_s2, kpO_s3, kpO_s4, beO_c, beO_g0, beO_k0, beO_g1, beO_k1, beO_g2, beO_k2, beO_g3, beO_k3, beO_g4, beO_k4, beO_s1, beO_s2, beO_s3, beO_s4, cmO_c, cmO_g0, cmO_k0, cmO_g1, cmO_k1, cmO_g2, cmO_k2, cmO_g3, cmO_k3, cmO_g4, cmO_k4, cmO_g5, cmO_k5, cmO_g6, cmO_k6, cmO_s0, cmO_s1, cmO_s2, cmO_s3, cmO_s4, cmO_s5, cmO_s6, dkO_c, dkO_g0, dkO_k0, dkO_g1, dkO_k1, dkO_g2, dkO_k2, dkO_s0, dkO_s1, dkO_s2, iup_s, iup_n, hp_up1, hp_upn, ne_eq, not_false_eq_true, sh_0, sh_1, sh_2, sh_3, sh_4, sh_5, sh_8, sh_15, sh_16, sh_24, Int.reducePow, Int.cast_ofNat_Int, w_of, wl_of, ltT, ltF, leT, leF, eqT, eqF, okF_0, okF_s, gF_0, gF_s, consC_o, sF_0, sF_s, clsO_o, inA_i, ldA_i, stA_i, inJ_l, ldJ_l, stJ_l, inR_r, ldR_r, stR_r, tgR_r, lenA_i, lenA_l, lenA_r, lenA_ex, nl_i, nl_o, nl_l, nl_n, wd_n, wd_i, wd_l, wd_o, fit_i, fit_l, fit_o, K_v, K_n, true_and, and_true, Nat.reduceAdd, Nat.reduceLeDiff, Nat.reduceEqDiff, Nat.reduceMul, Nat.reduceLT, reduceIte, true_or, or_true, cmp_lt, cmp_gt, cmp_eq, wb_0, b_01, cmp_lt', cmp_gt', cmp_eq', b_0, b_1, wb_1, Int.reduceSub, Int.reduceToNat, List.getD_cons_succ, List.getD_cons_zero, Int.reduceLE, Int.reduceLT, Int.reduceEq, Int.reduceNeg, Int.reduceAdd, Int.reduceMul, and_self, em_b, ne_eq, not_false_eq_true, not_true_eq_false]
      try rfl
    by_cases hd0 : (cen (mC M) t x (mZ M)).1 = 0
    · rw [if_pos hd0, hd0]
      rw [cen_0 hd0] at a4
      obtain ⟨q1, q2⟩ := bk_z7 (past := mP M) (z := mZ M) hB' c3 (by decide) a5 a3 (by omega) ⟨i, v10, b2, b3, b4⟩ ⟨ca, kc1, a4⟩ ⟨_, _, v65⟩ (PaP_e hF (ext_c c3) (by decide) hPa)
      refine ⟨kc, ow, g, e1, _, _, rfl, q1, q2, fun d Q => ?_⟩
      rw [to75 d Q, hd0]
      simp (disch := omega) only [e_126_75, e_126_76, e_126_87, e_126_88, nc0, bkO_c, bkO_g0, bkO_k0, bkO_g1, bkO_k1, bkO_g2, bkO_k2, bkO_g3, bkO_k3, bkO_g4, bkO_k4, bkO_g5, bkO_k5, bkO_g6, bkO_k6, bkO_g7, bkO_k7, bkO_g8, bkO_k8, bkO_g9, bkO_k9, bkO_g10, bkO_k10, bkO_g11, bkO_k11, bkO_g12, bkO_k12, bkO_g13, bkO_k13, bkO_g14, bkO_k14, bkO_g15, bkO_k15, bkO_g16, bkO_k16, bkO_g17, bkO_k17, bkO_s12, bkO_s16, bkO_s17, moO_c, moO_g0, moO_k0, moO_g1, moO_k1, moO_g2, moO_k2, moO_g3, moO_k3, moO_s0, moO_s1, moO_s2, moO_s3, hoO_c, hoO_g0, hoO_k0, hoO_g1, hoO_k1, hoO_g2, hoO_k2, hoO_g3, hoO_k3, hoO_g4, hoO_k4, hoO_g5, hoO_k5, hoO_g6, hoO_k6, hoO_g7, hoO_k7, hoO_g8, hoO_k8, hoO_g9, hoO_k9, hoO_s0, hoO_s1, hoO_s2, hoO_s9, iup_s, iup_n, hp_up1, hp_upn, ne_eq, not_false_eq_true, sh_0, sh_1, sh_2, sh_3, sh_4, sh_5, sh_8, sh_15, sh_16, sh_24, Int.reducePow, Int.cast_ofNat_Int, w_of, wl_of, ltT, ltF, leT, leF, eqT, eqF, okF_0, okF_s, gF_0, gF_s, consC_o, sF_0, sF_s, clsO_o, inA_i, ldA_i, stA_i, inJ_l, ldJ_l, stJ_l, inR_r, ldR_r, stR_r, tgR_r, lenA_i, lenA_l, lenA_r, lenA_ex, nl_i, nl_o, nl_l, nl_n, wd_n, wd_i, wd_l, wd_o, fit_i, fit_l, fit_o, K_v, K_n, true_and, and_true, Nat.reduceAdd, Nat.reduceLeDiff, Nat.reduceEqDiff, Nat.reduceMul, Nat.reduceLT, reduceIte, true_or, or_true, cmp_lt, cmp_gt, cmp_eq, wb_0, b_01, cmp_lt', cmp_gt', cmp_eq', b_0, b_1, wb_1, Int.reduceSub, Int.reduceToNat, List.getD_cons_succ, List.getD_cons_zero, Int.reduceLE, Int.reduceLT, Int.reduceEq, Int.reduceNeg, Int.reduceAdd, Int.reduceMul, and_self, em_b, ne_eq, not_false_eq_true, not_true_eq_false]
      try rfl
    · rw [if_neg hd0]
      obtain ⟨g3, i3, x1, x2, x3, x4, x5, x6, x7⟩ := bk_rem (z := mZ M) hF3 v10 b2 (PaP_e hF (ext_c c3) (by decide) hPa) v65 (by rw [n1]; exact m2) (by rw [n2]; exact m3) (by rw [n3]; exact m4) m5 (by omega) (by omega)
      have cA : chg ow [1, 7, 8, 9, 11, 16] h g3 := chg_t (chg_w c3 (by decide)) (chg_w x1 (by decide))
      obtain ⟨q1, q2⟩ := bk_z7 hB' cA (by decide) (ToP_e hF3 (ext_c x1) (by decide) a5) (HoP_c hF3 x1 (by decide) (by decide) a3) (by omega) ⟨i3, x2, x3, by rw [x4]; exact b3, by rw [x5]; exact b4⟩ ⟨ca, kc1, MoP_e (ext_c x1) (by have := hF3.1; omega) (by decide) (by rw [t64]; decide) a4⟩ ⟨_, _, by rw [chg_at x1 t65 (by decide)]; exact v65⟩ x6
      refine ⟨kc, ow, g3, e1, _, _, rfl, q1, q2, fun d Q => ?_⟩
      rw [to75 d Q]
      have hdp : (1 : Int) ≤ ((cen (mC M) t x (mZ M)).1 : Int) := by omega
      simp (disch := omega) only [e_126_75, e_126_76, e_126_79, e_126_80, e_126_81, e_126_84, e_126_87, e_126_88, v10, v65, x7, true_and, bkO_c, bkO_g0, bkO_k0, bkO_g1, bkO_k1, bkO_g2, bkO_k2, bkO_g3, bkO_k3, bkO_g4, bkO_k4, bkO_g5, bkO_k5, bkO_g6, bkO_k6, bkO_g7, bkO_k7, bkO_g8, bkO_k8, bkO_g9, bkO_k9, bkO_g10, bkO_k10, bkO_g11, bkO_k11, bkO_g12, bkO_k12, bkO_g13, bkO_k13, bkO_g14, bkO_k14, bkO_g15, bkO_k15, bkO_g16, bkO_k16, bkO_g17, bkO_k17, bkO_s12, bkO_s16, bkO_s17, moO_c, moO_g0, moO_k0, moO_g1, moO_k1, moO_g2, moO_k2, moO_g3, moO_k3, moO_s0, moO_s1, moO_s2, moO_s3, hoO_c, hoO_g0, hoO_k0, hoO_g1, hoO_k1, hoO_g2, hoO_k2, hoO_g3, hoO_k3, hoO_g4, hoO_k4, hoO_g5, hoO_k5, hoO_g6, hoO_k6, hoO_g7, hoO_k7, hoO_g8, hoO_k8, hoO_g9, hoO_k9, hoO_s0, hoO_s1, hoO_s2, hoO_s9, iup_s, iup_n, hp_up1, hp_upn, ne_eq, not_false_eq_true, sh_0, sh_1, sh_2, sh_3, sh_4, sh_5, sh_8, sh_15, sh_16, sh_24, Int.reducePow, Int.cast_ofNat_Int, w_of, wl_of, ltT, ltF, leT, leF, eqT, eqF, okF_0, okF_s, gF_0, gF_s, consC_o, sF_0, sF_s, clsO_o, inA_i, ldA_i, stA_i, inJ_l, ldJ_l, stJ_l, inR_r, ldR_r, stR_r, tgR_r, lenA_i, lenA_l, lenA_r, lenA_ex, nl_i, nl_o, nl_l, nl_n, wd_n, wd_i, wd_l, wd_o, fit_i, fit_l, fit_o, K_v, K_n, true_and, and_true, Nat.reduceAdd, Nat.reduceLeDiff, Nat.reduceEqDiff, Nat.reduceMul, Nat.reduceLT, reduceIte, true_or, or_true, cmp_lt, cmp_gt, cmp_eq, wb_0, b_01, cmp_lt', cmp_gt', cmp_eq', b_0, b_1, wb_1, Int.reduceSub, Int.reduceToNat, List.getD_cons_succ, List.getD_cons_zero, Int.reduceLE, Int.reduceLT, Int.reduceEq, Int.reduceNeg, Int.reduceAdd, Int.reduceMul, and_self, em_b, ne_eq, not_false_eq_true, not_true_eq_false]
      try rfl
  · rw [if_neg q]
    refine cRes_r (v := -3) hB' rfl (fun d Q => ?_)
    have q' : y < 1 ∨ 40 < y := by omega
    clear q
    rcases q' with g | g
    · simp (disch := omega) only [e_126_0, e_126_1, e_126_2, e_126_5, e_126_6, e_126_8, e_126_11, e_126_13, bkO_c, bkO_g0, bkO_k0, bkO_g1, bkO_k1, bkO_g2, bkO_k2, bkO_g3, bkO_k3, bkO_g4, bkO_k4, bkO_g5, bkO_k5, bkO_g6, bkO_k6, bkO_g7, bkO_k7, bkO_g8, bkO_k8, bkO_g9, bkO_k9, bkO_g10, bkO_k10, bkO_g11, bkO_k11, bkO_g12, bkO_k12, bkO_g13, bkO_k13, bkO_g14, bkO_k14, bkO_g15, bkO_k15, bkO_g16, bkO_k16, bkO_g17, bkO_k17, bkO_s12, bkO_s16, bkO_s17, moO_c, moO_g0, moO_k0, moO_g1, moO_k1, moO_g2, moO_k2, moO_g3, moO_k3, moO_s0, moO_s1, moO_s2, moO_s3, hoO_c, hoO_g0, hoO_k0, hoO_g1, hoO_k1, hoO_g2, hoO_k2, hoO_g3, hoO_k3, hoO_g4, hoO_k4, hoO_g5, hoO_k5, hoO_g6, hoO_k6, hoO_g7, hoO_k7, hoO_g8, hoO_k8, hoO_g9, hoO_k9, hoO_s0, hoO_s1, hoO_s2, hoO_s9, iup_s, iup_n, hp_up1, hp_upn, ne_eq, not_false_eq_true, sh_0, sh_1, sh_2, sh_3, sh_4, sh_5, sh_8, sh_15, sh_16, sh_24, Int.reducePow, Int.cast_ofNat_Int, w_of, wl_of, ltT, ltF, leT, leF, eqT, eqF, okF_0, okF_s, gF_0, gF_s, consC_o, sF_0, sF_s, clsO_o, inA_i, ldA_i, stA_i, inJ_l, ldJ_l, stJ_l, inR_r, ldR_r, stR_r, tgR_r, lenA_i, lenA_l, lenA_r, lenA_ex, nl_i, nl_o, nl_l, nl_n, wd_n, wd_i, wd_l, wd_o, fit_i, fit_l, fit_o, K_v, K_n, true_and, and_true, Nat.reduceAdd, Nat.reduceLeDiff, Nat.reduceEqDiff, Nat.reduceMul, Nat.reduceLT, reduceIte, true_or, or_true, cmp_lt, cmp_gt, cmp_eq, wb_0, b_01, cmp_lt', cmp_gt', cmp_eq', b_0, b_1, wb_1, Int.reduceSub, Int.reduceToNat, List.getD_cons_succ, List.getD_cons_zero, Int.reduceLE, Int.reduceLT, Int.reduceEq, Int.reduceNeg, Int.reduceAdd, Int.reduceMul, and_self, em_b, ne_eq, not_false_eq_true, not_true_eq_false]
      try rfl
    · simp (disch := omega) only [e_126_0, e_126_1, e_126_2, e_126_5, e_126_6, e_126_8, e_126_11, e_126_13, bkO_c, bkO_g0, bkO_k0, bkO_g1, bkO_k1, bkO_g2, bkO_k2, bkO_g3, bkO_k3, bkO_g4, bkO_k4, bkO_g5, bkO_k5, bkO_g6, bkO_k6, bkO_g7, bkO_k7, bkO_g8, bkO_k8, bkO_g9, bkO_k9, bkO_g10, bkO_k10, bkO_g11, bkO_k11, bkO_g12, bkO_k12, bkO_g13, bkO_k13, bkO_g14, bkO_k14, bkO_g15, bkO_k15, bkO_g16, bkO_k16, bkO_g17, bkO_k17, bkO_s12, bkO_s16, bkO_s17, moO_c, moO_g0, moO_k0, moO_g1, moO_k1, moO_g2, moO_k2, moO_g3, moO_k3, moO_s0, moO_s1, moO_s2, moO_s3, hoO_c, hoO_g0, hoO_k0, hoO_g1, hoO_k1, hoO_g2, hoO_k2, hoO_g3, hoO_k3, hoO_g4, hoO_k4, hoO_g5, hoO_k5, hoO_g6, hoO_k6, hoO_g7, hoO_k7, hoO_g8, hoO_k8, hoO_g9, hoO_k9, hoO_s0, hoO_s1, hoO_s2, hoO_s9, iup_s, iup_n, hp_up1, hp_upn, ne_eq, not_false_eq_true, sh_0, sh_1, sh_2, sh_3, sh_4, sh_5, sh_8, sh_15, sh_16, sh_24, Int.reducePow, Int.cast_ofNat_Int, w_of, wl_of, ltT, ltF, leT, leF, eqT, eqF, okF_0, okF_s, gF_0, gF_s, consC_o, sF_0, sF_s, clsO_o, inA_i, ldA_i, stA_i, inJ_l, ldJ_l, stJ_l, inR_r, ldR_r, stR_r, tgR_r, lenA_i, lenA_l, lenA_r, lenA_ex, nl_i, nl_o, nl_l, nl_n, wd_n, wd_i, wd_l, wd_o, fit_i, fit_l, fit_o, K_v, K_n, true_and, and_true, Nat.reduceAdd, Nat.reduceLeDiff, Nat.reduceEqDiff, Nat.reduceMul, Nat.reduceLT, reduceIte, true_or, or_true, cmp_lt, cmp_gt, cmp_eq, wb_0, b_01, cmp_lt', cmp_gt', cmp_eq', b_0, b_1, wb_1, Int.reduceSub, Int.reduceToNat, List.getD_cons_succ, List.getD_cons_zero, Int.reduceLE, Int.reduceLT, Int.reduceEq, Int.reduceNeg, Int.reduceAdd, Int.reduceMul, and_self, em_b, ne_eq, not_false_eq_true, not_true_eq_false]
      try rfl
end parts
