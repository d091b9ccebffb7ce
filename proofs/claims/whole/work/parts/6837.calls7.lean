/-! THE CLASS: hour, meal, weather, undo -/
section parts
variable {kc : Nat → KC} {ow : Nat → Nat} {h : PH} {M : MS} {S0 e k : Nat}
theorem why_rng {c : KC} {x : Int} {m : Nat} (hK : okK c) (hm : moveD c x = some m) : ¬ (20 ≤ x ∧ x ≤ 29) ∧ ¬ (30 ≤ x ∧ x ≤ 39) := by
  obtain ⟨h1, h2, h3⟩ := moveD_some hK hm
  have : deedM m = 0 ∨ (10 ≤ deedM m ∧ deedM m < 13) ∨ (100 ≤ deedM m ∧ deedM m < 130) := by
    unfold deedM
    split <;> (try split) <;> omega
  omega
theorem C_hour {x : Int} (hB : bkI kc ow h M S0 e k) (hk : k < 600) (h1 : -2147483648 ≤ x) (h2 : x < 2147483648) : cRes ow h S0 k 120 [some (vr 10), some (vi x), none] vi (fun v M' => (v, M') = hourF M x) := by
  have hB' := hB
  obtain ⟨hF, ⟨⟨i, b1, b2, b3, b4⟩, ⟨ca, kc1, hM⟩, ⟨i65, q65, p65⟩, -, hPa, -⟩, -, he, nd, nc, nk, nr, nb, hE, hR⟩ := hB
  obtain ⟨e', g1, u1, u2, u3, u4, u5, ⟨iy, ca0, h27⟩, ⟨iz, g27⟩, u6⟩ := bk_use hB' hk kc1 hM
  obtain ⟨j, m1, m2, m3, m4, m5, m6⟩ := hM
  have hO := m6.2.1
  have hK := hO.1
  obtain ⟨g2, w1, w2, w3⟩ := H_whyNot (x := x) (chg_F u2 hF) u3 m5.1 (i32_64 h1 h2)
  have c12 := chg_t u2 w1
  have hF2 := chg_F c12 hF
  obtain ⟨t64, t65, -, t67, -, -, -, t10, -⟩ := tg_64 hF
  have v10 : hp g2 10 = bkO i := by rw [chg_at c12 t10 (by decide)]; exact b1
  have v64 : hp g2 64 = moO j (vr ca) := by rw [chg_at c12 t64 (by decide)]; exact m1
  have v65 : hp g2 65 = moO i65 q65 := by rw [chg_at c12 t65 (by decide)]; exact p65
  have hwl : whyD (mC M) (mZ M).2.1 (mZ M).1 x ≤ 4 := by
    unfold whyD
    split
    · omega
    · unfold whyM
      repeat' split
      all_goals omega
  rw [m1] at u5
  rw [b1] at u4
  unfold hourF
  by_cases hw : whyD (mC M) (mZ M).2.1 (mZ M).1 x = 0
  · rw [if_pos hw]
    obtain ⟨m, hm, hc⟩ := why_can hK hw
    obtain ⟨r1, r2⟩ := why_rng hK hm
    have ea : actW (mC M) (mZ M) x = 0 := by unfold actW; rw [if_neg r1, if_neg r2]; exact hw
    have en : actN (mC M) (mZ M) x = (toM (mC M) (mZ M).2.1 (mZ M).1 m, (mZ M).2.1, (mZ M).2.2 + 1) := by unfold actN; rw [if_neg r1, if_neg r2, hm]; rfl
    rw [hm, show ((some m : Option Nat).getD 0) = m from rfl]
    obtain ⟨g3, i3, x1, x2, x3, x4, x5, x6, x7⟩ := bk_rem hF2 v10 b2 (PaP_e hF (ext_c c12) (by decide) hPa) v64 m2 m3 m4 m5 (by omega) (by omega)
    have hF3 := chg_F x1 hF2
    have hH3 := HoP_c hF2 x1 (by decide) (by decide) w2
    have y64 : hp g3 64 = moO j (vr ca) := by rw [chg_at x1 t64 (by decide)]; exact v64
    have y65 : hp g3 65 = moO i65 q65 := by rw [chg_at x1 t65 (by decide)]; exact v65
    have hKC3 : KCty ow g3 ca (mC M) := by obtain ⟨_, _, _, _, _, _, _, _, _, _, a9⟩ := hH3; exact a9
    have hM3 : MoP ow g3 64 ca (mC M) (mZ M) := ⟨j, y64, m2, m3, m4, m5, hKC3⟩
    obtain ⟨g4, ca1, sky1, e2, z1, z2, z3, z4, z5⟩ := Mo_act (kc := kc) (x := x) hF3 (by rw [kc1]; exact hH3) hM3 kc1 (by omega) (by rw [t64]; decide) (by rw [t64]; decide) (i32_64 h1 h2) (by omega)
    rw [ea, if_pos rfl, en] at z4
    rw [ea] at z5
    rw [t64] at z2
    have dn := Mo_isDown z4
    have cA : chg ow [1, 8, 9, 11, 16] h g4 := chg_t (chg_w c12 (by decide)) (chg_t (chg_w x1 (by decide)) (chg_w z2 (by decide)))
    have hP4 : PaP g4 (mC M) (pushZ (mZ M) (mP M)) := PaP_e hF3 (ext_c z2) (by decide) x6
    have a10 : hp g4 10 = bkO i3 := by rw [chg_at z2 t10 (by decide)]; exact x2
    obtain ⟨q1, q2⟩ := bk_z hB' cA (by decide) z3 (by omega) ⟨i3, a10, x3, by rw [x4]; exact b3, by rw [x5]; exact b4⟩ ⟨ca, kc1, z4⟩ ⟨i65, q65, by rw [chg_at z2 t65 (by decide)]; exact y65⟩ hP4
    obtain ⟨j4, n1, -⟩ := z4
    refine ⟨kc, ow, g4, e2, _, _, rfl, q1, q2, fun d Q => ?_⟩
    have w3' := fun (Q : PQ) => w3 (d + 20) Q
    rw [hw] at w3'
    have z5' := fun (Q : PQ) => z5 (d + 19) Q
    obtain ⟨iw, k27⟩ : ∃ i, hp g3 27 = hoO i (vr ca) := by obtain ⟨i, A, a1, _⟩ := hH3; exact ⟨i, a1⟩
    by_cases hd : downB (mC M) (toM (mC M) (mZ M).2.1 (mZ M).1 m) = true
    · simp only [hd, if_true] at dn ⊢
      simp (disch := omega) only [e_120_0, e_120_1, e_120_4, e_120_5, e_120_8, e_120_11, e_120_12, e_120_15, e_120_18, e_120_21, e_120_22, e_120_25, e_120_26, e_120_29, e_120_32, e_120_33, e_120_34, e_120_37, e_120_38, e_120_39, e_120_42, e_120_44, e_120_45, e_120_46, e_120_47, e_120_48, e_120_49, e_120_52, e_120_55, e_120_56, e_120_59, e_120_60, e_120_63, e_120_64, e_120_65, e_120_68i, e_120_68a, e_120_69, e_120_70, e_120_73, e_120_76, e_120_79, e_120_80, e_120_83, e_120_84, b1, m1, m2, m3, h27, g27, k27, u4, u5, u6, w3', v10, v64, x2, x7, y64, z5', a10, n1, dn, nc0, true_and, bkO_c, bkO_g0, bkO_k0, bkO_g1, bkO_k1, bkO_g2, bkO_k2, bkO_g3, bkO_k3, bkO_g4, bkO_k4, bkO_g5, bkO_k5, bkO_g6, bkO_k6, bkO_g7, bkO_k7, bkO_g8, bkO_k8, bkO_g9, bkO_k9, bkO_g10, bkO_k10, bkO_g11, bkO_k11, bkO_g12, bkO_k12, bkO_g13, bkO_k13, bkO_g14, bkO_k14, bkO_g15, bkO_k15, bkO_g16, bkO_k16, bkO_g17, bkO_k17, bkO_s12, bkO_s16, bkO_s17, moO_c, moO_g0, moO_k0, moO_g1, moO_k1, moO_g2, moO_k2, moO_g3, moO_k3, moO_s0, moO_s1, moO_s2, moO_s3, hoO_c, hoO_g0, hoO_k0, hoO_g1, hoO_k1, hoO_g2, hoO_k2, hoO_g3, hoO_k3, hoO_g4, hoO_k4, hoO_g5, hoO_k5, hoO_g6, hoO_k6, hoO_g7, hoO_k7, hoO_g8, hoO_k8, hoO_g9, hoO_k9, hoO_s0, hoO_s1, hoO_s2, hoO_s9, iup_s, iup_n, hp_up1, hp_upn, ne_eq, not_false_eq_true, sh_0, sh_1, sh_2, sh_3, sh_4, sh_5, sh_8, sh_15, sh_16, sh_24, Int.reducePow, Int.cast_ofNat_Int, w_of, wl_of, ltT, ltF, leT, leF, eqT, eqF, okF_0, okF_s, gF_0, gF_s, consC_o, sF_0, sF_s, clsO_o, inA_i, ldA_i, stA_i, inJ_l, ldJ_l, stJ_l, inR_r, ldR_r, stR_r, tgR_r, lenA_i, lenA_l, lenA_r, lenA_ex, nl_i, nl_o, nl_l, nl_n, wd_n, wd_i, wd_l, wd_o, fit_i, fit_l, fit_o, K_v, K_n, true_and, and_true, Nat.reduceAdd, Nat.reduceLeDiff, Nat.reduceEqDiff, Nat.reduceMul, Nat.reduceLT, reduceIte, true_or, or_true, cmp_lt, cmp_gt, cmp_eq, wb_0, b_01, cmp_lt', cmp_gt', cmp_eq', b_0, b_1, wb_1, Int.reduceSub, Int.reduceToNat, List.getD_cons_succ, List.getD_cons_zero, Int.reduceLE, Int.reduceLT, Int.reduceEq, Int.reduceNeg, Int.reduceAdd, Int.reduceMul, and_self, em_b, ne_eq, not_false_eq_true, not_true_eq_false]
      try rfl
    · simp only [hd, if_false, Bool.false_eq_true] at dn ⊢
      simp (disch := omega) only [e_120_0, e_120_1, e_120_4, e_120_5, e_120_8, e_120_11, e_120_12, e_120_15, e_120_18, e_120_21, e_120_22, e_120_25, e_120_26, e_120_29, e_120_32, e_120_33, e_120_34, e_120_37, e_120_38, e_120_39, e_120_42, e_120_44, e_120_45, e_120_46, e_120_47, e_120_48, e_120_49, e_120_52, e_120_55, e_120_56, e_120_59, e_120_60, e_120_63, e_120_64, e_120_65, e_120_68i, e_120_68a, e_120_69, e_120_70, e_120_73, e_120_76, e_120_79, e_120_80, e_120_83, e_120_84, b1, m1, m2, m3, h27, g27, k27, u4, u5, u6, w3', v10, v64, x2, x7, y64, z5', a10, n1, dn, nc0, true_and, bkO_c, bkO_g0, bkO_k0, bkO_g1, bkO_k1, bkO_g2, bkO_k2, bkO_g3, bkO_k3, bkO_g4, bkO_k4, bkO_g5, bkO_k5, bkO_g6, bkO_k6, bkO_g7, bkO_k7, bkO_g8, bkO_k8, bkO_g9, bkO_k9, bkO_g10, bkO_k10, bkO_g11, bkO_k11, bkO_g12, bkO_k12, bkO_g13, bkO_k13, bkO_g14, bkO_k14, bkO_g15, bkO_k15, bkO_g16, bkO_k16, bkO_g17, bkO_k17, bkO_s12, bkO_s16, bkO_s17, moO_c, moO_g0, moO_k0, moO_g1, moO_k1, moO_g2, moO_k2, moO_g3, moO_k3, moO_s0, moO_s1, moO_s2, moO_s3, hoO_c, hoO_g0, hoO_k0, hoO_g1, hoO_k1, hoO_g2, hoO_k2, hoO_g3, hoO_k3, hoO_g4, hoO_k4, hoO_g5, hoO_k5, hoO_g6, hoO_k6, hoO_g7, hoO_k7, hoO_g8, hoO_k8, hoO_g9, hoO_k9, hoO_s0, hoO_s1, hoO_s2, hoO_s9, iup_s, iup_n, hp_up1, hp_upn, ne_eq, not_false_eq_true, sh_0, sh_1, sh_2, sh_3, sh_4, sh_5, sh_8, sh_15, sh_16, sh_24, Int.reducePow, Int.cast_ofNat_Int, w_of, wl_of, ltT, ltF, leT, leF, eqT, eqF, okF_0, okF_s, gF_0, gF_s, consC_o, sF_0, sF_s, clsO_o, inA_i, ldA_i, stA_i, inJ_l, ldJ_l, stJ_l, inR_r, ldR_r, stR_r, tgR_r, lenA_i, lenA_l, lenA_r, lenA_ex, nl_i, nl_o, nl_l, nl_n, wd_n, wd_i, wd_l, wd_o, fit_i, fit_l, fit_o, K_v, K_n, true_and, and_true, Nat.reduceAdd, Nat.reduceLeDiff, Nat.reduceEqDiff, Nat.reduceMul, Nat.reduceLT, reduceIte, true_or, or_true, cmp_lt, cmp_gt, cmp_eq, wb_0, b_01, cmp_lt', cmp_gt', cmp_eq', b_0, b_1, wb_1, Int.reduceSub, Int.reduceToNat, List.getD_cons_succ, List.getD_cons_zero, Int.reduceLE, Int.reduceLT, Int.reduceEq, Int.reduceNeg, Int.reduceAdd, Int.reduceMul, and_self, em_b, ne_eq, not_false_eq_true, not_true_eq_false]
      try rfl
  · rw [if_neg hw]
    have hx := ext_c c12
    obtain ⟨r1, r2⟩ := bk_q (ca := ca) (sky := (mZ M).2.1) (e' := e') hB' hx (by decide) (by rw [kc1]; exact w2) (by omega) (EngP_e hF hx (by decide) hE) (room_up (room_same c12.1 c12.2.1 hR))
    refine ⟨kc, ow, g2, e', _, M, rfl, r1, r2, fun d Q => ?_⟩
    have w3' := fun (Q : PQ) => w3 (d + 20) Q
    simp (disch := omega) only [e_120_0, e_120_1, e_120_4, e_120_5, e_120_8, e_120_11, e_120_12, e_120_15, e_120_18, e_120_21, e_120_22, e_120_25, e_120_26, e_120_29, e_120_32, e_120_33, e_120_34, e_120_37, e_120_38, e_120_39, e_120_42, e_120_44, e_120_45, e_120_46, b1, m1, m2, m3, h27, g27, u4, u5, u6, w3', true_and, bkO_c, bkO_g0, bkO_k0, bkO_g1, bkO_k1, bkO_g2, bkO_k2, bkO_g3, bkO_k3, bkO_g4, bkO_k4, bkO_g5, bkO_k5, bkO_g6, bkO_k6, bkO_g7, bkO_k7, bkO_g8, bkO_k8, bkO_g9, bkO_k9, bkO_g10, bkO_k10, bkO_g11, bkO_k11, bkO_g12, bkO_k12, bkO_g13, bkO_k13, bkO_g14, bkO_k14, bkO_g15, bkO_k15, bkO_g16, bkO_k16, bkO_g17, bkO_k17, bkO_s12, bkO_s16, bkO_s17, moO_c, moO_g0, moO_k0, moO_g1, moO_k1, moO_g2, moO_k2, moO_g3, moO_k3, moO_s0, moO_s1, moO_s2, moO_s3, hoO_c, hoO_g0, hoO_k0, hoO_g1, hoO_k1, hoO_g2, hoO_k2, hoO_g3, hoO_k3, hoO_g4, hoO_k4, hoO_g5, hoO_k5, hoO_g6, hoO_k6, hoO_g7, hoO_k7, hoO_g8, hoO_k8, hoO_g9, hoO_k9, hoO_s0, hoO_s1, hoO_s2, hoO_s9, iup_s, iup_n, hp_up1, hp_upn, ne_eq, not_false_eq_true, sh_0, sh_1, sh_2, sh_3, sh_4, sh_5, sh_8, sh_15, sh_16, sh_24, Int.reducePow, Int.cast_ofNat_Int, w_of, wl_of, ltT, ltF, leT, leF, eqT, eqF, okF_0, okF_s, gF_0, gF_s, consC_o, sF_0, sF_s, clsO_o, inA_i, ldA_i, stA_i, inJ_l, ldJ_l, stJ_l, inR_r, ldR_r, stR_r, tgR_r, lenA_i, lenA_l, lenA_r, lenA_ex, nl_i, nl_o, nl_l, nl_n, wd_n, wd_i, wd_l, wd_o, fit_i, fit_l, fit_o, K_v, K_n, true_and, and_true, Nat.reduceAdd, Nat.reduceLeDiff, Nat.reduceEqDiff, Nat.reduceMul, Nat.reduceLT, reduceIte, true_or, or_true, cmp_lt, cmp_gt, cmp_eq, wb_0, b_01, cmp_lt', cmp_gt', cmp_eq', b_0, b_1, wb_1, Int.reduceSub, Int.reduceToNat, List.getD_cons_succ, List.getD_cons_zero, Int.reduceLE, Int.reduceLT, Int.reduceEq, Int.reduceNeg, Int.reduceAdd, Int.reduceMul, and_self, em_b, ne_eq, not_false_eq_true, not_true_eq_false]
    try rfl
theorem C_meal {x : Int} (hB : bkI kc ow h M S0 e k) (hk : k < 600) (h1 : -2147483648 ≤ x) (h2 : x < 2147483648) : cRes ow h S0 k 121 [some (vr 10), some (vi x), none] vi (fun v M' => (v, M') = mealF M x) := by
  have hB' := hB
  obtain ⟨hF, ⟨⟨i, b1, b2, b3, b4⟩, ⟨ca, kc1, hM⟩, ⟨i65, q65, p65⟩, -, hPa, -⟩, ⟨ca0, sky0, hH⟩, he, nd, nc, nk, nr, nb, hE, hR⟩ := hB
  obtain ⟨j, m1, m2, m3, m4, m5, m6⟩ := hM
  have hO := m6.2.1
  have hK := hO.1
  have ik := C_isKin (M := M) b1 m1 m6 h1 h2
  obtain ⟨t64, t65, -, t67, -, -, -, t10, -⟩ := tg_64 hF
  unfold mealF
  by_cases q : 0 ≤ x ∧ x < (kN (mC M) : Int)
  · rw [if_pos q]
    simp only [q, and_self, if_true] at ik
    have hN := hK.2.2
    obtain ⟨p, rfl⟩ : ∃ p : Nat, x = (p : Int) := ⟨x.toNat, by omega⟩
    rw [Int.toNat_natCast]
    have hpn : p < kN (mC M) := by omega
    have ea : actW (mC M) (mZ M) (20 + (p : Int)) = 0 := by unfold actW; rw [if_pos (by omega), if_pos (by omega)]
    have en : actN (mC M) (mZ M) (20 + (p : Int)) = (fedS (mZ M).1 p, (mZ M).2.1, (mZ M).2.2) := by unfold actN; rw [if_pos (by omega), show (20 + (p : Int) - 20).toNat = p by omega]
    obtain ⟨g3, i3, x1, x2, x3, x4, x5, x6, x7⟩ := bk_rem hF b1 b2 hPa m1 m2 m3 m4 m5 (by omega) (by omega)
    have hF3 := chg_F x1 hF
    have hH3 := HoP_c hF x1 (by decide) (by decide) hH
    have y64 : hp g3 64 = moO j (vr ca) := by rw [chg_at x1 t64 (by decide)]; exact m1
    have y65 : hp g3 65 = moO i65 q65 := by rw [chg_at x1 t65 (by decide)]; exact p65
    have hKC3 : KCty ow g3 ca (mC M) := KCty_c x1 (by decide) m6
    obtain ⟨y4, y5, y6, y7, y8, y9, y10, y11, y14, y15, y17, hA⟩ := KCty_sz hKC3
    have hM3 : MoP ow g3 64 ca (mC M) (mZ M) := ⟨j, y64, m2, m3, m4, m5, hKC3⟩
    obtain ⟨g4, ca1, sky1, e2, z1, z2, z3, z4, z5⟩ := Mo_act (kc := kc) (x := 20 + (p : Int)) hF3 hH3 hM3 kc1 (by omega) (by rw [t64]; decide) (by rw [t64]; decide) ⟨by omega, by omega⟩ (by omega)
    rw [ea, if_pos rfl, en] at z4
    rw [ea] at z5
    rw [t64] at z2
    have cA : chg ow [1, 8, 9, 11, 16] h g4 := chg_t (chg_w x1 (by decide)) (chg_w z2 (by decide))
    have a10 : hp g4 10 = bkO i3 := by rw [chg_at z2 t10 (by decide)]; exact x2
    obtain ⟨q1, q2⟩ := bk_z hB' cA (by decide) z3 (by omega) ⟨i3, a10, x3, by rw [x4]; exact b3, by rw [x5]; exact b4⟩ ⟨ca, kc1, z4⟩ ⟨i65, q65, by rw [chg_at z2 t65 (by decide)]; exact y65⟩ (PaP_e hF3 (ext_c z2) (by decide) x6)
    have st := fun (d : Nat) (Q : PQ) => c_strengthOf (d := d) (a := ca) (h := g3) (Q := Q) hK m5.1 hpn
    obtain ⟨iw, k27⟩ : ∃ i, hp g3 27 = hoO i (vr ca0) := by obtain ⟨i, A, a1, _⟩ := hH3; exact ⟨i, a1⟩
    refine ⟨kc, ow, g4, e2, _, _, rfl, q1, q2, fun d Q => ?_⟩
    have z5' := fun (Q : PQ) => z5 (d + 19) Q
    simp (disch := omega) only [e_121_0, e_121_1, e_121_2, e_121_5, e_121_8, e_121_10, e_121_11, e_121_12, e_121_13, e_121_16, e_121_19, e_121_20, e_121_23, e_121_26, e_121_27, e_121_30, e_121_33, e_121_34, e_121_37, e_121_38, e_121_39, e_121_42, e_121_43, e_121_46, e_121_48, e_121_49, e_121_50, e_121_51, e_121_54i, e_121_54a, e_121_55, e_121_56, b1, m1, m2, m3, ik, x2, x7, y64, hA, st, k27, z5', true_and, bkO_c, bkO_g0, bkO_k0, bkO_g1, bkO_k1, bkO_g2, bkO_k2, bkO_g3, bkO_k3, bkO_g4, bkO_k4, bkO_g5, bkO_k5, bkO_g6, bkO_k6, bkO_g7, bkO_k7, bkO_g8, bkO_k8, bkO_g9, bkO_k9, bkO_g10, bkO_k10, bkO_g11, bkO_k11, bkO_g12, bkO_k12, bkO_g13, bkO_k13, bkO_g14, bkO_k14, bkO_g15, bkO_k15, bkO_g16, bkO_k16, bkO_g17, bkO_k17, bkO_s12, bkO_s16, bkO_s17, moO_c, moO_g0, moO_k0, moO_g1, moO_k1, moO_g2, moO_k2, moO_g3, moO_k3, moO_s0, moO_s1, moO_s2, moO_s3, hoO_c, hoO_g0, hoO_k0, hoO_g1, hoO_k1, hoO_g2, hoO_k2, hoO_g3, hoO_k3, hoO_g4, hoO_k4, hoO_g5, hoO_k5, hoO_g6, hoO_k6, hoO_g7, hoO_k7, hoO_g8, hoO_k8, hoO_g9, hoO_k9, hoO_s0, hoO_s1, hoO_s2, hoO_s9, iup_s, iup_n, hp_up1, hp_upn, ne_eq, not_false_eq_true, sh_0, sh_1, sh_2, sh_3, sh_4, sh_5, sh_8, sh_15, sh_16, sh_24, Int.reducePow, Int.cast_ofNat_Int, w_of, wl_of, ltT, ltF, leT, leF, eqT, eqF, okF_0, okF_s, gF_0, gF_s, consC_o, sF_0, sF_s, clsO_o, inA_i, ldA_i, stA_i, inJ_l, ldJ_l, stJ_l, inR_r, ldR_r, stR_r, tgR_r, lenA_i, lenA_l, lenA_r, lenA_ex, nl_i, nl_o, nl_l, nl_n, wd_n, wd_i, wd_l, wd_o, fit_i, fit_l, fit_o, K_v, K_n, true_and, and_true, Nat.reduceAdd, Nat.reduceLeDiff, Nat.reduceEqDiff, Nat.reduceMul, Nat.reduceLT, reduceIte, true_or, or_true, cmp_lt, cmp_gt, cmp_eq, wb_0, b_01, cmp_lt', cmp_gt', cmp_eq', b_0, b_1, wb_1, Int.reduceSub, Int.reduceToNat, List.getD_cons_succ, List.getD_cons_zero, Int.reduceLE, Int.reduceLT, Int.reduceEq, Int.reduceNeg, Int.reduceAdd, Int.reduceMul, and_self, em_b, ne_eq, not_false_eq_true, not_true_eq_false]
    try rfl
  · rw [if_neg q]
    simp only [q, if_false] at ik
    refine cRes_r (v := -11) hB' rfl (fun d Q => ?_)
    simp (disch := omega) only [e_121_0, e_121_1, e_121_2, e_121_5, e_121_8, e_121_10, b1, ik, true_and, bkO_c, bkO_g0, bkO_k0, bkO_g1, bkO_k1, bkO_g2, bkO_k2, bkO_g3, bkO_k3, bkO_g4, bkO_k4, bkO_g5, bkO_k5, bkO_g6, bkO_k6, bkO_g7, bkO_k7, bkO_g8, bkO_k8, bkO_g9, bkO_k9, bkO_g10, bkO_k10, bkO_g11, bkO_k11, bkO_g12, bkO_k12, bkO_g13, bkO_k13, bkO_g14, bkO_k14, bkO_g15, bkO_k15, bkO_g16, bkO_k16, bkO_g17, bkO_k17, bkO_s12, bkO_s16, bkO_s17, moO_c, moO_g0, moO_k0, moO_g1, moO_k1, moO_g2, moO_k2, moO_g3, moO_k3, moO_s0, moO_s1, moO_s2, moO_s3, hoO_c, hoO_g0, hoO_k0, hoO_g1, hoO_k1, hoO_g2, hoO_k2, hoO_g3, hoO_k3, hoO_g4, hoO_k4, hoO_g5, hoO_k5, hoO_g6, hoO_k6, hoO_g7, hoO_k7, hoO_g8, hoO_k8, hoO_g9, hoO_k9, hoO_s0, hoO_s1, hoO_s2, hoO_s9, iup_s, iup_n, hp_up1, hp_upn, ne_eq, not_false_eq_true, sh_0, sh_1, sh_2, sh_3, sh_4, sh_5, sh_8, sh_15, sh_16, sh_24, Int.reducePow, Int.cast_ofNat_Int, w_of, wl_of, ltT, ltF, leT, leF, eqT, eqF, okF_0, okF_s, gF_0, gF_s, consC_o, sF_0, sF_s, clsO_o, inA_i, ldA_i, stA_i, inJ_l, ldJ_l, stJ_l, inR_r, ldR_r, stR_r, tgR_r, lenA_i, lenA_l, lenA_r, lenA_ex, nl_i, nl_o, nl_l, nl_n, wd_n, wd_i, wd_l, wd_o, fit_i, fit_l, fit_o, K_v, K_n, true_and, and_true, Nat.reduceAdd, Nat.reduceLeDiff, Nat.reduceEqDiff, Nat.reduceMul, Nat.reduceLT, reduceIte, true_or, or_true, cmp_lt, cmp_gt, cmp_eq, wb_0, b_01, cmp_lt', cmp_gt', cmp_eq', b_0, b_1, wb_1, Int.reduceSub, Int.reduceToNat, List.getD_cons_succ, List.getD_cons_zero, Int.reduceLE, Int.reduceLT, Int.reduceEq, Int.reduceNeg, Int.reduceAdd, Int.reduceMul, and_self, em_b, ne_eq, not_false_eq_true, not_true_eq_false]
    try rfl
theorem C_weather {x : Int} (hB : bkI kc ow h M S0 e k) (hk : k < 600) (h1 : -2147483648 ≤ x) (h2 : x < 2147483648) : cRes ow h S0 k 122 [some (vr 10), some (vi x), none] vi (fun v M' => (v, M') = weathF M x) := by
  have hB' := hB
  obtain ⟨hF, ⟨⟨i, b1, b2, b3, b4⟩, ⟨ca, kc1, hM⟩, ⟨i65, q65, p65⟩, -, hPa, -⟩, ⟨ca0, sky0, hH⟩, he, nd, nc, nk, nr, nb, hE, hR⟩ := hB
  obtain ⟨j, m1, m2, m3, m4, m5, m6⟩ := hM
  obtain ⟨t64, t65, -, t67, -, -, -, t10, -⟩ := tg_64 hF
  unfold weathF
  by_cases q : 0 ≤ x ∧ x ≤ 9
  · rw [if_pos q]
    obtain ⟨p, rfl⟩ : ∃ p : Nat, x = (p : Int) := ⟨x.toNat, by omega⟩
    rw [Int.toNat_natCast]
    have ea : actW (mC M) (mZ M) (30 + (p : Int)) = 0 := by unfold actW; rw [if_neg (by omega), if_pos (by omega)]
    have en : actN (mC M) (mZ M) (30 + (p : Int)) = ((mZ M).1, p, (mZ M).2.2) := by unfold actN; rw [if_neg (by omega), if_pos (by omega), show (30 + (p : Int) - 30).toNat = p by omega]
    obtain ⟨g3, i3, x1, x2, x3, x4, x5, x6, x7⟩ := bk_rem hF b1 b2 hPa m1 m2 m3 m4 m5 (by omega) (by omega)
    have hF3 := chg_F x1 hF
    have hH3 := HoP_c hF x1 (by decide) (by decide) hH
    have y64 : hp g3 64 = moO j (vr ca) := by rw [chg_at x1 t64 (by decide)]; exact m1
    have y65 : hp g3 65 = moO i65 q65 := by rw [chg_at x1 t65 (by decide)]; exact p65
    have hKC3 : KCty ow g3 ca (mC M) := KCty_c x1 (by decide) m6
    have hM3 : MoP ow g3 64 ca (mC M) (mZ M) := ⟨j, y64, m2, m3, m4, m5, hKC3⟩
    obtain ⟨g4, ca1, sky1, e2, z1, z2, z3, z4, z5⟩ := Mo_act (kc := kc) (x := 30 + (p : Int)) hF3 hH3 hM3 kc1 (by omega) (by rw [t64]; decide) (by rw [t64]; decide) ⟨by omega, by omega⟩ (by omega)
    rw [ea, if_pos rfl, en] at z4
    rw [ea] at z5
    rw [t64] at z2
    have cA : chg ow [1, 8, 9, 11, 16] h g4 := chg_t (chg_w x1 (by decide)) (chg_w z2 (by decide))
    have a10 : hp g4 10 = bkO i3 := by rw [chg_at z2 t10 (by decide)]; exact x2
    obtain ⟨q1, q2⟩ := bk_z hB' cA (by decide) z3 (by omega) ⟨i3, a10, x3, by rw [x4]; exact b3, by rw [x5]; exact b4⟩ ⟨ca, kc1, z4⟩ ⟨i65, q65, by rw [chg_at z2 t65 (by decide)]; exact y65⟩ (PaP_e hF3 (ext_c z2) (by decide) x6)
    obtain ⟨iw, k27⟩ : ∃ i, hp g3 27 = hoO i (vr ca0) := by obtain ⟨i, A, a1, _⟩ := hH3; exact ⟨i, a1⟩
    refine ⟨kc, ow, g4, e2, _, _, rfl, q1, q2, fun d Q => ?_⟩
    have z5' := fun (Q : PQ) => z5 (d + 19) Q
    simp (disch := omega) only [e_122_0, e_122_1, e_122_4, e_122_5, e_122_7, e_122_10, e_122_12, e_122_13, e_122_14, e_122_15, e_122_18, e_122_21, e_122_22, e_122_25, e_122_28, e_122_29, e_122_30, e_122_33, e_122_34, e_122_37, e_122_39, e_122_40, e_122_41, e_122_42, e_122_45i, e_122_45a, e_122_46, e_122_47, b1, m1, m2, m3, x2, x7, y64, k27, z5', true_and, bkO_c, bkO_g0, bkO_k0, bkO_g1, bkO_k1, bkO_g2, bkO_k2, bkO_g3, bkO_k3, bkO_g4, bkO_k4, bkO_g5, bkO_k5, bkO_g6, bkO_k6, bkO_g7, bkO_k7, bkO_g8, bkO_k8, bkO_g9, bkO_k9, bkO_g10, bkO_k10, bkO_g11, bkO_k11, bkO_g12, bkO_k12, bkO_g13, bkO_k13, bkO_g14, bkO_k14, bkO_g15, bkO_k15, bkO_g16, bkO_k16, bkO_g17, bkO_k17, bkO_s12, bkO_s16, bkO_s17, moO_c, moO_g0, moO_k0, moO_g1, moO_k1, moO_g2, moO_k2, moO_g3, moO_k3, moO_s0, moO_s1, moO_s2, moO_s3, hoO_c, hoO_g0, hoO_k0, hoO_g1, hoO_k1, hoO_g2, hoO_k2, hoO_g3, hoO_k3, hoO_g4, hoO_k4, hoO_g5, hoO_k5, hoO_g6, hoO_k6, hoO_g7, hoO_k7, hoO_g8, hoO_k8, hoO_g9, hoO_k9, hoO_s0, hoO_s1, hoO_s2, hoO_s9, iup_s, iup_n, hp_up1, hp_upn, ne_eq, not_false_eq_true, sh_0, sh_1, sh_2, sh_3, sh_4, sh_5, sh_8, sh_15, sh_16, sh_24, Int.reducePow, Int.cast_ofNat_Int, w_of, wl_of, ltT, ltF, leT, leF, eqT, eqF, okF_0, okF_s, gF_0, gF_s, consC_o, sF_0, sF_s, clsO_o, inA_i, ldA_i, stA_i, inJ_l, ldJ_l, stJ_l, inR_r, ldR_r, stR_r, tgR_r, lenA_i, lenA_l, lenA_r, lenA_ex, nl_i, nl_o, nl_l, nl_n, wd_n, wd_i, wd_l, wd_o, fit_i, fit_l, fit_o, K_v, K_n, true_and, and_true, Nat.reduceAdd, Nat.reduceLeDiff, Nat.reduceEqDiff, Nat.reduceMul, Nat.reduceLT, reduceIte, true_or, or_true, cmp_lt, cmp_gt, cmp_eq, wb_0, b_01, cmp_lt', cmp_gt', cmp_eq', b_0, b_1, wb_1, Int.reduceSub, Int.reduceToNat, List.getD_cons_succ, List.getD_cons_zero, Int.reduceLE, Int.reduceLT, Int.reduceEq, Int.reduceNeg, Int.reduceAdd, Int.reduceMul, and_self, em_b, ne_eq, not_false_eq_true, not_true_eq_false]
    try rfl
  · rw [if_neg q]
    refine cRes_r (v := -11) hB' rfl (fun d Q => ?_)
    have q' : x < 0 ∨ 10 ≤ x := by omega
    clear q
    rcases q' with g | g
    · simp (disch := omega) only [e_122_0, e_122_1, e_122_4, e_122_5, e_122_7, e_122_10, e_122_12, bkO_c, bkO_g0, bkO_k0, bkO_g1, bkO_k1, bkO_g2, bkO_k2, bkO_g3, bkO_k3, bkO_g4, bkO_k4, bkO_g5, bkO_k5, bkO_g6, bkO_k6, bkO_g7, bkO_k7, bkO_g8, bkO_k8, bkO_g9, bkO_k9, bkO_g10, bkO_k10, bkO_g11, bkO_k11, bkO_g12, bkO_k12, bkO_g13, bkO_k13, bkO_g14, bkO_k14, bkO_g15, bkO_k15, bkO_g16, bkO_k16, bkO_g17, bkO_k17, bkO_s12, bkO_s16, bkO_s17, moO_c, moO_g0, moO_k0, moO_g1, moO_k1, moO_g2, moO_k2, moO_g3, moO_k3, moO_s0, moO_s1, moO_s2, moO_s3, hoO_c, hoO_g0, hoO_k0, hoO_g1, hoO_k1, hoO_g2, hoO_k2, hoO_g3, hoO_k3, hoO_g4, hoO_k4, hoO_g5, hoO_k5, hoO_g6, hoO_k6, hoO_g7, hoO_k7, hoO_g8, hoO_k8, hoO_g9, hoO_k9, hoO_s0, hoO_s1, hoO_s2, hoO_s9, iup_s, iup_n, hp_up1, hp_upn, ne_eq, not_false_eq_true, sh_0, sh_1, sh_2, sh_3, sh_4, sh_5, sh_8, sh_15, sh_16, sh_24, Int.reducePow, Int.cast_ofNat_Int, w_of, wl_of, ltT, ltF, leT, leF, eqT, eqF, okF_0, okF_s, gF_0, gF_s, consC_o, sF_0, sF_s, clsO_o, inA_i, ldA_i, stA_i, inJ_l, ldJ_l, stJ_l, inR_r, ldR_r, stR_r, tgR_r, lenA_i, lenA_l, lenA_r, lenA_ex, nl_i, nl_o, nl_l, nl_n, wd_n, wd_i, wd_l, wd_o, fit_i, fit_l, fit_o, K_v, K_n, true_and, and_true, Nat.reduceAdd, Nat.reduceLeDiff, Nat.reduceEqDiff, Nat.reduceMul, Nat.reduceLT, reduceIte, true_or, or_true, cmp_lt, cmp_gt, cmp_eq, wb_0, b_01, cmp_lt', cmp_gt', cmp_eq', b_0, b_1, wb_1, Int.reduceSub, Int.reduceToNat, List.getD_cons_succ, List.getD_cons_zero, Int.reduceLE, Int.reduceLT, Int.reduceEq, Int.reduceNeg, Int.reduceAdd, Int.reduceMul, and_self, em_b, ne_eq, not_false_eq_true, not_true_eq_false]
      try rfl
    · simp (disch := omega) only [e_122_0, e_122_1, e_122_4, e_122_5, e_122_7, e_122_10, e_122_12, bkO_c, bkO_g0, bkO_k0, bkO_g1, bkO_k1, bkO_g2, bkO_k2, bkO_g3, bkO_k3, bkO_g4, bkO_k4, bkO_g5, bkO_k5, bkO_g6, bkO_k6, bkO_g7, bkO_k7, bkO_g8, bkO_k8, bkO_g9, bkO_k9, bkO_g10, bkO_k10, bkO_g11, bkO_k11, bkO_g12, bkO_k12, bkO_g13, bkO_k13, bkO_g14, bkO_k14, bkO_g15, bkO_k15, bkO_g16, bkO_k16, bkO_g17, bkO_k17, bkO_s12, bkO_s16, bkO_s17, moO_c, moO_g0, moO_k0, moO_g1, moO_k1, moO_g2, moO_k2, moO_g3, moO_k3, moO_s0, moO_s1, moO_s2, moO_s3, hoO_c, hoO_g0, hoO_k0, hoO_g1, hoO_k1, hoO_g2, hoO_k2, hoO_g3, hoO_k3, hoO_g4, hoO_k4, hoO_g5, hoO_k5, hoO_g6, hoO_k6, hoO_g7, hoO_k7, hoO_g8, hoO_k8, hoO_g9, hoO_k9, hoO_s0, hoO_s1, hoO_s2, hoO_s9, iup_s, iup_n, hp_up1, hp_upn, ne_eq, not_false_eq_true, sh_0, sh_1, sh_2, sh_3, sh_4, sh_5, sh_8, sh_15, sh_16, sh_24, Int.reducePow, Int.cast_ofNat_Int, w_of, wl_of, ltT, ltF, leT, leF, eqT, eqF, okF_0, okF_s, gF_0, gF_s, consC_o, sF_0, sF_s, clsO_o, inA_i, ldA_i, stA_i, inJ_l, ldJ_l, stJ_l, inR_r, ldR_r, stR_r, tgR_r, lenA_i, lenA_l, lenA_r, lenA_ex, nl_i, nl_o, nl_l, nl_n, wd_n, wd_i, wd_l, wd_o, fit_i, fit_l, fit_o, K_v, K_n, true_and, and_true, Nat.reduceAdd, Nat.reduceLeDiff, Nat.reduceEqDiff, Nat.reduceMul, Nat.reduceLT, reduceIte, true_or, or_true, cmp_lt, cmp_gt, cmp_eq, wb_0, b_01, cmp_lt', cmp_gt', cmp_eq', b_0, b_1, wb_1, Int.reduceSub, Int.reduceToNat, List.getD_cons_succ, List.getD_cons_zero, Int.reduceLE, Int.reduceLT, Int.reduceEq, Int.reduceNeg, Int.reduceAdd, Int.reduceMul, and_self, em_b, ne_eq, not_false_eq_true, not_true_eq_false]
      try rfl
theorem C_undo {x : Int} (hB : bkI kc ow h M S0 e k) (h1 : -2147483648 ≤ x) (h2 : x < 2147483648) : cRes ow h S0 k 123 [some (vr 10), some (vi x), none] vi (fun v M' => (v, M') = undoF M x) := by
  have hB' := hB
  obtain ⟨hF, ⟨⟨i, b1, b2, b3, b4⟩, ⟨ca, kc1, hM⟩, ⟨i65, q65, p65⟩, -, hPa, -⟩, ⟨ca0, sky0, hH⟩, he, nd, nc, nk, nr, nb, hE, hR⟩ := hB
  obtain ⟨j, m1, m2, m3, m4, m5, m6⟩ := hM
  obtain ⟨t64, t65, -, t67, -, -, -, t10, -⟩ := tg_64 hF
  have hPa' := hPa
  obtain ⟨f, p1, p2, p3, p4⟩ := hPa
  unfold undoF
  by_cases q : 1 ≤ x ∧ x ≤ ((mP M).length : Int)
  · rw [if_pos q]
    obtain ⟨n, rfl⟩ : ∃ n : Nat, x = (n : Int) := ⟨x.toNat, by omega⟩
    rw [Int.toNat_natCast]
    obtain ⟨r, hr⟩ : ∃ r, (mP M).length = r + n := ⟨(mP M).length - n, by omega⟩
    have er : (mP M).length - n = r := by omega
    rw [er]
    have hrl : r < (mP M).length := by omega
    have hz : (mP M)[r]? = some (mP M)[r] := List.getElem?_eq_getElem hrl
    rw [hz, show ((some (mP M)[r] : Option ZT).getD (mZ M)) = (mP M)[r] from rfl]
    generalize (mP M)[r] = z at hz
    obtain ⟨g1, g2, g3⟩ := p4 r z hz
    have hzo := p3 z (List.mem_of_getElem? hz)
    have hc8 : chg ow [8, 11] h (hup (hup h 10 (bkO (iup i 12 r))) 64 (moO (iup (iup (iup j 1 (f ((3 * r : Nat) : Int))) 2 (f ((3 * r + 1 : Nat) : Int))) 3 (f ((3 * r + 2 : Nat) : Int))) (vr ca))) := chg_t (chg_up t10 (by decide)) (chg_up t64 (by decide))
    have hch := chg_w (U := [1, 8, 9, 11, 16]) hc8 (by decide)
    have hH4 := HoP_c hF hc8 (by decide) (by decide) hH
    have hKC4 := KCty_c hc8 (by decide) m6
    obtain ⟨q1, q2⟩ := bk_z (past := (mP M).take r) (z := z) (e' := e) hB' hch (by decide) hH4 (by omega) ⟨iup i 12 r, by rw [hp_upn (by omega), hp_up1], by rw [iup_s, List.length_take, Nat.min_eq_left (by omega)], by rw [iup_n (by omega)]; exact b3, by rw [iup_n (by omega)]; exact b4⟩ ⟨ca, kc1, ⟨_, hp_up1, by rw [iup_n (by omega), iup_n (by omega), iup_s]; exact g1, by rw [iup_n (by omega), iup_s]; exact g2, by rw [iup_s]; exact g3, hzo, hKC4⟩⟩ ⟨i65, q65, by rw [hp_upn (by omega), hp_upn (by omega)]; exact p65⟩ ⟨f, by rw [hp_upn (by omega), hp_upn (by omega)]; exact p1, by rw [List.length_take]; omega, fun y hy => p3 y (List.mem_of_mem_take hy), fun kk y hy => by
      rw [List.getElem?_take] at hy
      split at hy
      · exact p4 kk y hy
      · cases hy⟩
    refine ⟨kc, ow, _, e, _, _, rfl, q1, q2, fun d Q => ?_⟩
    have e0 : (r : Int) * 3 = ((3 * r : Nat) : Int) := by omega
    have e1 : ((3 * r : Nat) : Int) + 1 = ((3 * r + 1 : Nat) : Int) := by omega
    have e2 : ((3 * r : Nat) : Int) + 2 = ((3 * r + 2 : Nat) : Int) := by omega
    have b2' : i 12 = ((r + n : Nat) : Int) := by rw [b2, hr]
    have eu : ((r + n : Nat) : Int) - (n : Int) = (r : Int) := by omega
    simp (disch := omega) only [e_123_0, e_123_1, e_123_2, e_123_5, e_123_6, e_123_7, e_123_10, e_123_13, e_123_15, e_123_16, e_123_17i, e_123_17a, e_123_18, e_123_21, e_123_22, e_123_23, e_123_26, e_123_27, e_123_30, e_123_31, e_123_32, e_123_33, e_123_34, e_123_37, e_123_38, e_123_41, e_123_42, e_123_43, e_123_46, e_123_47, e_123_50, e_123_51, e_123_54, e_123_55, e_123_56, e_123_57, e_123_58, e_123_61, e_123_62, e_123_65, e_123_66, e_123_69, e_123_70, e_123_71, e_123_72, e_123_73, e_123_76, e_123_77, e_123_80, b1, b2', m1, p1, eu, e0, e1, e2, hup_tt, true_and, bkO_c, bkO_g0, bkO_k0, bkO_g1, bkO_k1, bkO_g2, bkO_k2, bkO_g3, bkO_k3, bkO_g4, bkO_k4, bkO_g5, bkO_k5, bkO_g6, bkO_k6, bkO_g7, bkO_k7, bkO_g8, bkO_k8, bkO_g9, bkO_k9, bkO_g10, bkO_k10, bkO_g11, bkO_k11, bkO_g12, bkO_k12, bkO_g13, bkO_k13, bkO_g14, bkO_k14, bkO_g15, bkO_k15, bkO_g16, bkO_k16, bkO_g17, bkO_k17, bkO_s12, bkO_s16, bkO_s17, moO_c, moO_g0, moO_k0, moO_g1, moO_k1, moO_g2, moO_k2, moO_g3, moO_k3, moO_s0, moO_s1, moO_s2, moO_s3, hoO_c, hoO_g0, hoO_k0, hoO_g1, hoO_k1, hoO_g2, hoO_k2, hoO_g3, hoO_k3, hoO_g4, hoO_k4, hoO_g5, hoO_k5, hoO_g6, hoO_k6, hoO_g7, hoO_k7, hoO_g8, hoO_k8, hoO_g9, hoO_k9, hoO_s0, hoO_s1, hoO_s2, hoO_s9, iup_s, iup_n, hp_up1, hp_upn, ne_eq, not_false_eq_true, sh_0, sh_1, sh_2, sh_3, sh_4, sh_5, sh_8, sh_15, sh_16, sh_24, Int.reducePow, Int.cast_ofNat_Int, w_of, wl_of, ltT, ltF, leT, leF, eqT, eqF, okF_0, okF_s, gF_0, gF_s, consC_o, sF_0, sF_s, clsO_o, inA_i, ldA_i, stA_i, inJ_l, ldJ_l, stJ_l, inR_r, ldR_r, stR_r, tgR_r, lenA_i, lenA_l, lenA_r, lenA_ex, nl_i, nl_o, nl_l, nl_n, wd_n, wd_i, wd_l, wd_o, fit_i, fit_l, fit_o, K_v, K_n, true_and, and_true, Nat.reduceAdd, Nat.reduceLeDiff, Nat.reduceEqDiff, Nat.reduceMul, Nat.reduceLT, reduceIte, true_or, or_true, cmp_lt, cmp_gt, cmp_eq, wb_0, b_01, cmp_lt', cmp_gt', cmp_eq', b_0, b_1, wb_1, Int.reduceSub, Int.reduceToNat, List.getD_cons_succ, List.getD_cons_zero, Int.reduceLE, Int.reduceLT, Int.reduceEq, Int.reduceNeg, Int.reduceAdd, Int.reduceMul, and_self, em_b, ne_eq, not_false_eq_true, not_true_eq_false]
    try rfl
  · rw [if_neg q]
    refine cRes_r (v := -3) hB' rfl (fun d Q => ?_)
    have q' : x < 1 ∨ ((mP M).length : Int) < x := by omega
    clear q
    rcases q' with g | g
    · simp (disch := omega) only [e_123_0, e_123_1, e_123_2, e_123_5, e_123_6, e_123_7, e_123_10, e_123_13, e_123_15, b1, b2, true_and, bkO_c, bkO_g0, bkO_k0, bkO_g1, bkO_k1, bkO_g2, bkO_k2, bkO_g3, bkO_k3, bkO_g4, bkO_k4, bkO_g5, bkO_k5, bkO_g6, bkO_k6, bkO_g7, bkO_k7, bkO_g8, bkO_k8, bkO_g9, bkO_k9, bkO_g10, bkO_k10, bkO_g11, bkO_k11, bkO_g12, bkO_k12, bkO_g13, bkO_k13, bkO_g14, bkO_k14, bkO_g15, bkO_k15, bkO_g16, bkO_k16, bkO_g17, bkO_k17, bkO_s12, bkO_s16, bkO_s17, moO_c, moO_g0, moO_k0, moO_g1, moO_k1, moO_g2, moO_k2, moO_g3, moO_k3, moO_s0, moO_s1, moO_s2, moO_s3, hoO_c, hoO_g0, hoO_k0, hoO_g1, hoO_k1, hoO_g2, hoO_k2, hoO_g3, hoO_k3, hoO_g4, hoO_k4, hoO_g5, hoO_k5, hoO_g6, hoO_k6, hoO_g7, hoO_k7, hoO_g8, hoO_k8, hoO_g9, hoO_k9, hoO_s0, hoO_s1, hoO_s2, hoO_s9, iup_s, iup_n, hp_up1, hp_upn, ne_eq, not_false_eq_true, sh_0, sh_1, sh_2, sh_3, sh_4, sh_5, sh_8, sh_15, sh_16, sh_24, Int.reducePow, Int.cast_ofNat_Int, w_of, wl_of, ltT, ltF, leT, leF, eqT, eqF, okF_0, okF_s, gF_0, gF_s, consC_o, sF_0, sF_s, clsO_o, inA_i, ldA_i, stA_i, inJ_l, ldJ_l, stJ_l, inR_r, ldR_r, stR_r, tgR_r, lenA_i, lenA_l, lenA_r, lenA_ex, nl_i, nl_o, nl_l, nl_n, wd_n, wd_i, wd_l, wd_o, fit_i, fit_l, fit_o, K_v, K_n, true_and, and_true, Nat.reduceAdd, Nat.reduceLeDiff, Nat.reduceEqDiff, Nat.reduceMul, Nat.reduceLT, reduceIte, true_or, or_true, cmp_lt, cmp_gt, cmp_eq, wb_0, b_01, cmp_lt', cmp_gt', cmp_eq', b_0, b_1, wb_1, Int.reduceSub, Int.reduceToNat, List.getD_cons_succ, List.getD_cons_zero, Int.reduceLE, Int.reduceLT, Int.reduceEq, Int.reduceNeg, Int.reduceAdd, Int.reduceMul, and_self, em_b, ne_eq, not_false_eq_true, not_true_eq_false]
      try rfl
    · by_cases g0 : x < 1
      · simp (disch := omega) only [e_123_0, e_123_1, e_123_2, e_123_5, e_123_6, e_123_7, e_123_10, e_123_13, e_123_15, b1, b2, true_and, bkO_c, bkO_g0, bkO_k0, bkO_g1, bkO_k1, bkO_g2, bkO_k2, bkO_g3, bkO_k3, bkO_g4, bkO_k4, bkO_g5, bkO_k5, bkO_g6, bkO_k6, bkO_g7, bkO_k7, bkO_g8, bkO_k8, bkO_g9, bkO_k9, bkO_g10, bkO_k10, bkO_g11, bkO_k11, bkO_g12, bkO_k12, bkO_g13, bkO_k13, bkO_g14, bkO_k14, bkO_g15, bkO_k15, bkO_g16, bkO_k16, bkO_g17, bkO_k17, bkO_s12, bkO_s16, bkO_s17, moO_c, moO_g0, moO_k0, moO_g1, moO_k1, moO_g2, moO_k2, moO_g3, moO_k3, moO_s0, moO_s1, moO_s2, moO_s3, hoO_c, hoO_g0, hoO_k0, hoO_g1, hoO_k1, hoO_g2, hoO_k2, hoO_g3, hoO_k3, hoO_g4, hoO_k4, hoO_g5, hoO_k5, hoO_g6, hoO_k6, hoO_g7, hoO_k7, hoO_g8, hoO_k8, hoO_g9, hoO_k9, hoO_s0, hoO_s1, hoO_s2, hoO_s9, iup_s, iup_n, hp_up1, hp_upn, ne_eq, not_false_eq_true, sh_0, sh_1, sh_2, sh_3, sh_4, sh_5, sh_8, sh_15, sh_16, sh_24, Int.reducePow, Int.cast_ofNat_Int, w_of, wl_of, ltT, ltF, leT, leF, eqT, eqF, okF_0, okF_s, gF_0, gF_s, consC_o, sF_0, sF_s, clsO_o, inA_i, ldA_i, stA_i, inJ_l, ldJ_l, stJ_l, inR_r, ldR_r, stR_r, tgR_r, lenA_i, lenA_l, lenA_r, lenA_ex, nl_i, nl_o, nl_l, nl_n, wd_n, wd_i, wd_l, wd_o, fit_i, fit_l, fit_o, K_v, K_n, true_and, and_true, Nat.reduceAdd, Nat.reduceLeDiff, Nat.reduceEqDiff, Nat.reduceMul, Nat.reduceLT, reduceIte, true_or, or_true, cmp_lt, cmp_gt, cmp_eq, wb_0, b_01, cmp_lt', cmp_gt', cmp_eq', b_0, b_1, wb_1, Int.reduceSub, Int.reduceToNat, List.getD_cons_succ, List.getD_cons_zero, Int.reduceLE, Int.reduceLT, Int.reduceEq, Int.reduceNeg, Int.reduceAdd, Int.reduceMul, and_self, em_b, ne_eq, not_false_eq_true, not_true_eq_false]
        try rfl
      · simp (disch := omega) only [e_123_0, e_123_1, e_123_2, e_123_5, e_123_6, e_123_7, e_123_10, e_123_13, e_123_15, b1, b2, true_and, bkO_c, bkO_g0, bkO_k0, bkO_g1, bkO_k1, bkO_g2, bkO_k2, bkO_g3, bkO_k3, bkO_g4, bkO_k4, bkO_g5, bkO_k5, bkO_g6, bkO_k6, bkO_g7, bkO_k7, bkO_g8, bkO_k8, bkO_g9, bkO_k9, bkO_g10, bkO_k10, bkO_g11, bkO_k11, bkO_g12, bkO_k12, bkO_g13, bkO_k13, bkO_g14, bkO_k14, bkO_g15, bkO_k15, bkO_g16, bkO_k16, bkO_g17, bkO_k17, bkO_s12, bkO_s16, bkO_s17, moO_c, moO_g0, moO_k0, moO_g1, moO_k1, moO_g2, moO_k2, moO_g3, moO_k3, moO_s0, moO_s1, moO_s2, moO_s3, hoO_c, hoO_g0, hoO_k0, hoO_g1, hoO_k1, hoO_g2, hoO_k2, hoO_g3, hoO_k3, hoO_g4, hoO_k4, hoO_g5, hoO_k5, hoO_g6, hoO_k6, hoO_g7, hoO_k7, hoO_g8, hoO_k8, hoO_g9, hoO_k9, hoO_s0, hoO_s1, hoO_s2, hoO_s9, iup_s, iup_n, hp_up1, hp_upn, ne_eq, not_false_eq_true, sh_0, sh_1, sh_2, sh_3, sh_4, sh_5, sh_8, sh_15, sh_16, sh_24, Int.reducePow, Int.cast_ofNat_Int, w_of, wl_of, ltT, ltF, leT, leF, eqT, eqF, okF_0, okF_s, gF_0, gF_s, consC_o, sF_0, sF_s, clsO_o, inA_i, ldA_i, stA_i, inJ_l, ldJ_l, stJ_l, inR_r, ldR_r, stR_r, tgR_r, lenA_i, lenA_l, lenA_r, lenA_ex, nl_i, nl_o, nl_l, nl_n, wd_n, wd_i, wd_l, wd_o, fit_i, fit_l, fit_o, K_v, K_n, true_and, and_true, Nat.reduceAdd, Nat.reduceLeDiff, Nat.reduceEqDiff, Nat.reduceMul, Nat.reduceLT, reduceIte, true_or, or_true, cmp_lt, cmp_gt, cmp_eq, wb_0, b_01, cmp_lt', cmp_gt', cmp_eq', b_0, b_1, wb_1, Int.reduceSub, Int.reduceToNat, List.getD_cons_succ, List.getD_cons_zero, Int.reduceLE, Int.reduceLT, Int.reduceEq, Int.reduceNeg, Int.reduceAdd, Int.reduceMul, and_self, em_b, ne_eq, not_false_eq_true, not_true_eq_false]
        try rfl
end parts
