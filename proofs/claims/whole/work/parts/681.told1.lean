/-! THE CLASS: what is told: numbers, draws, weathers -/
def ToV (h : PH) (l : List Int) (j : Nat) : Prop := ∃ (i : Nat → Int) (f g : Int → Int), hp h 61 = toO i ∧ hp h 62 = aI 0 8 f ∧ hp h 63 = aI 0 10 g ∧ i 1 = (l.length : Int) ∧ l.length ≤ 8 ∧ ∀ k, k < j → f k = l.getD k 0
def ToP (h : PH) : Prop := ∃ (i : Nat → Int) (f g : Int → Int), hp h 61 = toO i ∧ hp h 62 = aI 0 8 f ∧ hp h 63 = aI 0 10 g
theorem ToV_P {h : PH} {l : List Int} {j : Nat} (hV : ToV h l j) : ToP h := by
  obtain ⟨i, f, g, v1, v2, v3, -⟩ := hV
  exact ⟨i, f, g, v1, v2, v3⟩
theorem tg_to {ow : Nat → Nat} {h : PH} (hF : owF ow h) : ow 61 = 7 ∧ ow 62 = 7 ∧ ow 63 = 7 := ⟨hF.2 61 (by omega), hF.2 62 (by omega), hF.2 63 (by omega)⟩
theorem ToP_e {ow ow' : Nat → Nat} {h h' : PH} {T : List Nat} (hF : owF ow h) (hx : extO ow h ow' h' T) (ht : ¬ 7 ∈ T) (hP : ToP h) : ToP h' := by
  obtain ⟨i, f, g, v1, v2, v3⟩ := hP
  obtain ⟨t1, t2, t3⟩ := tg_to hF
  have h90 := hF.1
  exact ⟨i, f, g, by rw [hx.2.2 61 (by omega) (by rw [t1]; exact ht)]; exact v1, by rw [hx.2.2 62 (by omega) (by rw [t2]; exact ht)]; exact v2, by rw [hx.2.2 63 (by omega) (by rw [t3]; exact ht)]; exact v3⟩
theorem ToV_c {ow : Nat → Nat} {h h' : PH} {T : List Nat} {l : List Int} {j : Nat} (hF : owF ow h) (hc : chg ow T h h') (ht : ¬ 7 ∈ T) (hP : ToV h l j) : ToV h' l j := by
  obtain ⟨i, f, g, v1, v2, v3, v4⟩ := hP
  obtain ⟨t1, t2, t3⟩ := tg_to hF
  exact ⟨i, f, g, by rw [chg_at hc t1 ht]; exact v1, by rw [chg_at hc t2 ht]; exact v2, by rw [chg_at hc t3 ht]; exact v3, v4⟩
theorem To_many {ow : Nat → Nat} {h : PH} {l : List Int} (hF : owF ow h) (hP : ToP h) (hl : l.length ≤ 8) : ∃ h', chg ow [7] h h' ∧ ToV h' l 0 ∧ ∀ d Q, WP (d + 1) 99 0 [some (vr 61), some (vi l.length)] [] h Q = Q none h' := by
  obtain ⟨i, f, g, v1, v2, v3⟩ := hP
  obtain ⟨t1, t2, t3⟩ := tg_to hF
  refine ⟨hup h 61 (toO (iup i 1 l.length)), chg_up t1 (by decide), ⟨iup i 1 l.length, f, g, hp_up1, by rw [hp_upn (by omega)]; exact v2, by rw [hp_upn (by omega)]; exact v3, iup_s, hl, fun k hk => by omega⟩, fun d Q => ?_⟩
  have e : (if (8 : Int) < (l.length : Int) then (8 : Int) else (l.length : Int)) = (l.length : Int) := if_neg (by omega)
  have e2 : (if (l.length : Int) < 8 then (l.length : Int) else (8 : Int)) = (l.length : Int) := by split <;> omega
  simp (disch := omega) only [e_99_0, e_99_1, e_99_2, e_99_4, e_99_7, e_99_10, v1, m_min, e, e2, true_and, toO_c, toO_g0, toO_k0, toO_g1, toO_k1, toO_s1, toO_g2, toO_k2, toO_s2, toO_g3, toO_k3, toO_s3, toO_g4, toO_k4, toO_s4, toO_g5, toO_k5, toO_g6, toO_k6, toO_s6, hoO_c, hoO_g0, hoO_k0, hoO_s0, hoO_g1, hoO_k1, hoO_s1, hoO_g2, hoO_k2, hoO_s2, hoO_g3, hoO_k3, hoO_g4, hoO_k4, hoO_g5, hoO_k5, hoO_g6, hoO_k6, hoO_g7, hoO_k7, hoO_g8, hoO_k8, hoO_g9, hoO_k9, hoO_s9, iup_s, iup_n, hp_up1, hp_upn, ne_eq, not_false_eq_true, sh_0, sh_1, sh_2, sh_3, sh_4, sh_5, sh_8, sh_15, sh_16, sh_24, Int.reducePow, Int.cast_ofNat_Int, w_of, wl_of, ltT, ltF, leT, leF, eqT, eqF, okF_0, okF_s, gF_0, gF_s, consC_o, sF_0, sF_s, clsO_o, inA_i, ldA_i, stA_i, inJ_l, ldJ_l, stJ_l, inR_r, ldR_r, stR_r, tgR_r, lenA_i, lenA_l, lenA_r, lenA_ex, nl_i, nl_o, nl_l, nl_n, wd_n, wd_i, wd_l, wd_o, fit_i, fit_l, fit_o, K_v, K_n, true_and, and_true, Nat.reduceAdd, Nat.reduceLeDiff, Nat.reduceEqDiff, Nat.reduceMul, Nat.reduceLT, reduceIte, true_or, or_true, cmp_lt, cmp_gt, cmp_eq, wb_0, b_01, cmp_lt', cmp_gt', cmp_eq', b_0, b_1, wb_1, Int.reduceSub, Int.reduceToNat, List.getD_cons_succ, List.getD_cons_zero, Int.reduceLE, Int.reduceLT, Int.reduceEq, Int.reduceNeg, Int.reduceAdd, Int.reduceMul, and_self, em_b, ne_eq, not_false_eq_true, not_true_eq_false]
  try rfl
theorem To_expect {ow : Nat → Nat} {h : PH} {l : List Int} {j : Nat} {v : Int} (hF : owF ow h) (hV : ToV h l j) (hj : j < l.length) (hv : v = l.getD j 0) : ∃ h', chg ow [7] h h' ∧ ToV h' l (j + 1) ∧ ∀ d Q, WP d 100 0 [some (vr 61), some (vi j), some (vi v)] [] h Q = Q none h' := by
  obtain ⟨i, f, g, v1, v2, v3, v4, v5, v6⟩ := hV
  obtain ⟨t1, t2, t3⟩ := tg_to hF
  refine ⟨hup h 62 (aI 0 8 (fset f (j : Nat) v)), chg_up t2 (by decide), ⟨i, _, g, by rw [hp_upn (by omega)]; exact v1, hp_up1, by rw [hp_upn (by omega)]; exact v3, v4, v5, fun k hk => ?_⟩, fun d Q => ?_⟩
  · by_cases z : k = j
    · rw [z, fs_same]; exact hv
    · rw [fs_ne (by omega)]; exact v6 k (by omega)
  · simp (disch := omega) only [e_100_0, e_100_1, e_100_4, e_100_5, e_100_7, e_100_10, e_100_11, e_100_14, e_100_15, e_100_16, e_100_17, v1, v2, true_and, toO_c, toO_g0, toO_k0, toO_g1, toO_k1, toO_s1, toO_g2, toO_k2, toO_s2, toO_g3, toO_k3, toO_s3, toO_g4, toO_k4, toO_s4, toO_g5, toO_k5, toO_g6, toO_k6, toO_s6, hoO_c, hoO_g0, hoO_k0, hoO_s0, hoO_g1, hoO_k1, hoO_s1, hoO_g2, hoO_k2, hoO_s2, hoO_g3, hoO_k3, hoO_g4, hoO_k4, hoO_g5, hoO_k5, hoO_g6, hoO_k6, hoO_g7, hoO_k7, hoO_g8, hoO_k8, hoO_g9, hoO_k9, hoO_s9, iup_s, iup_n, hp_up1, hp_upn, ne_eq, not_false_eq_true, sh_0, sh_1, sh_2, sh_3, sh_4, sh_5, sh_8, sh_15, sh_16, sh_24, Int.reducePow, Int.cast_ofNat_Int, w_of, wl_of, ltT, ltF, leT, leF, eqT, eqF, okF_0, okF_s, gF_0, gF_s, consC_o, sF_0, sF_s, clsO_o, inA_i, ldA_i, stA_i, inJ_l, ldJ_l, stJ_l, inR_r, ldR_r, stR_r, tgR_r, lenA_i, lenA_l, lenA_r, lenA_ex, nl_i, nl_o, nl_l, nl_n, wd_n, wd_i, wd_l, wd_o, fit_i, fit_l, fit_o, K_v, K_n, true_and, and_true, Nat.reduceAdd, Nat.reduceLeDiff, Nat.reduceEqDiff, Nat.reduceMul, Nat.reduceLT, reduceIte, true_or, or_true, cmp_lt, cmp_gt, cmp_eq, wb_0, b_01, cmp_lt', cmp_gt', cmp_eq', b_0, b_1, wb_1, Int.reduceSub, Int.reduceToNat, List.getD_cons_succ, List.getD_cons_zero, Int.reduceLE, Int.reduceLT, Int.reduceEq, Int.reduceNeg, Int.reduceAdd, Int.reduceMul, and_self, em_b, ne_eq, not_false_eq_true, not_true_eq_false]
    try rfl
theorem To_sow {ow : Nat → Nat} {h : PH} {x : Int} (hF : owF ow h) (hP : ToP h) : ∃ (h' : PH) (i : Nat → Int), chg ow [7] h h' ∧ ToP h' ∧ hp h' 61 = toO i ∧ i 6 = x ∧ ∀ d Q, WP d 101 0 [some (vr 61), some (vi x)] [] h Q = Q none h' := by
  obtain ⟨i, f, g, v1, v2, v3⟩ := hP
  obtain ⟨t1, t2, t3⟩ := tg_to hF
  refine ⟨hup h 61 (toO (iup i 6 x)), iup i 6 x, chg_up t1 (by decide), ⟨_, f, g, hp_up1, by rw [hp_upn (by omega)]; exact v2, by rw [hp_upn (by omega)]; exact v3⟩, hp_up1, iup_s, fun d Q => ?_⟩
  simp (disch := omega) only [e_101_0, e_101_1, e_101_2, e_101_5, v1, true_and, toO_c, toO_g0, toO_k0, toO_g1, toO_k1, toO_s1, toO_g2, toO_k2, toO_s2, toO_g3, toO_k3, toO_s3, toO_g4, toO_k4, toO_s4, toO_g5, toO_k5, toO_g6, toO_k6, toO_s6, hoO_c, hoO_g0, hoO_k0, hoO_s0, hoO_g1, hoO_k1, hoO_s1, hoO_g2, hoO_k2, hoO_s2, hoO_g3, hoO_k3, hoO_g4, hoO_k4, hoO_g5, hoO_k5, hoO_g6, hoO_k6, hoO_g7, hoO_k7, hoO_g8, hoO_k8, hoO_g9, hoO_k9, hoO_s9, iup_s, iup_n, hp_up1, hp_upn, ne_eq, not_false_eq_true, sh_0, sh_1, sh_2, sh_3, sh_4, sh_5, sh_8, sh_15, sh_16, sh_24, Int.reducePow, Int.cast_ofNat_Int, w_of, wl_of, ltT, ltF, leT, leF, eqT, eqF, okF_0, okF_s, gF_0, gF_s, consC_o, sF_0, sF_s, clsO_o, inA_i, ldA_i, stA_i, inJ_l, ldJ_l, stJ_l, inR_r, ldR_r, stR_r, tgR_r, lenA_i, lenA_l, lenA_r, lenA_ex, nl_i, nl_o, nl_l, nl_n, wd_n, wd_i, wd_l, wd_o, fit_i, fit_l, fit_o, K_v, K_n, true_and, and_true, Nat.reduceAdd, Nat.reduceLeDiff, Nat.reduceEqDiff, Nat.reduceMul, Nat.reduceLT, reduceIte, true_or, or_true, cmp_lt, cmp_gt, cmp_eq, wb_0, b_01, cmp_lt', cmp_gt', cmp_eq', b_0, b_1, wb_1, Int.reduceSub, Int.reduceToNat, List.getD_cons_succ, List.getD_cons_zero, Int.reduceLE, Int.reduceLT, Int.reduceEq, Int.reduceNeg, Int.reduceAdd, Int.reduceMul, and_self, em_b, ne_eq, not_false_eq_true, not_true_eq_false]
  try rfl
theorem To_draw {h : PH} {i : Nat → Int} {b : Int} (v1 : hp h 61 = toO i) (h1 : 0 < b) (h2 : b < 100) : ∀ d Q, WP d 102 0 [some (vr 61), some (vi b)] [] h Q = Q (some (vi (drv (drx (i 6)) b))) (hup h 61 (toO (iup i 6 (drx (i 6))))) := by
  intro d Q
  have hb : 0 ≤ drx (i 6) % 4294967296 / 65536 ∧ drx (i 6) % 4294967296 / 65536 < 65536 := by omega
  have e : (drx (i 6) % 4294967296 / 65536).tmod b = drv (drx (i 6)) b := by rw [Int.tmod_eq_emod_of_nonneg hb.1]; rfl
  have ex : (1103515245 : Int) * i 6 + 12345 = drx (i 6) := rfl
  generalize drx (i 6) = x at *
  simp (disch := omega) only [e_102_0, e_102_1, e_102_3, e_102_4, e_102_7, e_102_8, e_102_11, e_102_12, e_102_15, e_102_16, e_102_19, e_102_20, e_102_23, e_102_25, e_102_26, e_102_27, e_102_28, e_102_31, e_102_32, v1, ex, e, true_and, toO_c, toO_g0, toO_k0, toO_g1, toO_k1, toO_s1, toO_g2, toO_k2, toO_s2, toO_g3, toO_k3, toO_s3, toO_g4, toO_k4, toO_s4, toO_g5, toO_k5, toO_g6, toO_k6, toO_s6, hoO_c, hoO_g0, hoO_k0, hoO_s0, hoO_g1, hoO_k1, hoO_s1, hoO_g2, hoO_k2, hoO_s2, hoO_g3, hoO_k3, hoO_g4, hoO_k4, hoO_g5, hoO_k5, hoO_g6, hoO_k6, hoO_g7, hoO_k7, hoO_g8, hoO_k8, hoO_g9, hoO_k9, hoO_s9, iup_s, iup_n, hp_up1, hp_upn, ne_eq, not_false_eq_true, sh_0, sh_1, sh_2, sh_3, sh_4, sh_5, sh_8, sh_15, sh_16, sh_24, Int.reducePow, Int.cast_ofNat_Int, w_of, wl_of, ltT, ltF, leT, leF, eqT, eqF, okF_0, okF_s, gF_0, gF_s, consC_o, sF_0, sF_s, clsO_o, inA_i, ldA_i, stA_i, inJ_l, ldJ_l, stJ_l, inR_r, ldR_r, stR_r, tgR_r, lenA_i, lenA_l, lenA_r, lenA_ex, nl_i, nl_o, nl_l, nl_n, wd_n, wd_i, wd_l, wd_o, fit_i, fit_l, fit_o, K_v, K_n, true_and, and_true, Nat.reduceAdd, Nat.reduceLeDiff, Nat.reduceEqDiff, Nat.reduceMul, Nat.reduceLT, reduceIte, true_or, or_true, cmp_lt, cmp_gt, cmp_eq, wb_0, b_01, cmp_lt', cmp_gt', cmp_eq', b_0, b_1, wb_1, Int.reduceSub, Int.reduceToNat, List.getD_cons_succ, List.getD_cons_zero, Int.reduceLE, Int.reduceLT, Int.reduceEq, Int.reduceNeg, Int.reduceAdd, Int.reduceMul, and_self, em_b, ne_eq, not_false_eq_true, not_true_eq_false]
  try rfl
theorem To_drawDeed {ow : Nat → Nat} {h : PH} {i : Nat → Int} (hF : owF ow h) (hP : ToP h) (v1 : hp h 61 = toO i) : ∃ (h' : PH) (j : Nat → Int), chg ow [7] h h' ∧ ToP h' ∧ hp h' 61 = toO j ∧ j 6 = (cenD (i 6)).2 ∧ ∀ d Q, WP (d + 1) 103 0 [some (vr 61), none] [] h Q = Q (some (vi (cenD (i 6)).1)) h' := by
  obtain ⟨i0, f, g, v1', v2, v3⟩ := hP
  clear v1'
  obtain ⟨t1, t2, t3⟩ := tg_to hF
  refine ⟨hup h 61 (toO (iup i 6 (cenD (i 6)).2)), iup i 6 (cenD (i 6)).2, chg_up t1 (by decide), ⟨_, f, g, hp_up1, by rw [hp_upn (by omega)]; exact v2, by rw [hp_upn (by omega)]; exact v3⟩, hp_up1, iup_s, fun d Q => ?_⟩
  have d1 := fun (b : Int) (d : Nat) (Q : PQ) (h1 : 0 < b) (h2 : b < 100) => To_draw v1 h1 h2 d Q
  have d2 := fun (b : Int) (d : Nat) (Q : PQ) (h1 : 0 < b) (h2 : b < 100) => To_draw (h := hup h 61 (toO (iup i 6 (drx (i 6))))) (i := iup i 6 (drx (i 6))) hp_up1 h1 h2 d Q
  have d3 := fun (b : Int) (d : Nat) (Q : PQ) (h1 : 0 < b) (h2 : b < 100) => To_draw (h := hup h 61 (toO (iup i 6 (drx (drx (i 6)))))) (i := iup i 6 (drx (drx (i 6)))) hp_up1 h1 h2 d Q
  simp only [iup_s, hup_tt, iup_iup] at d2 d3
  have b6 := drv_b (x := drx (i 6)) (b := 6) (by omega)
  have b3 := drv_b (x := drx (drx (i 6))) (b := 3) (by omega)
  unfold cenD
  generalize hx1 : drx (i 6) = x1 at *
  generalize hx2 : drx x1 = x2 at *
  generalize hx3 : drx x2 = x3 at *
  generalize hv : drv x1 6 = v at *
  have hv6 : v = 0 ∨ v = 1 ∨ v = 2 ∨ v = 3 ∨ v = 4 ∨ v = 5 := by omega
  rcases hv6 with q | q | q | q | q | q <;> subst q <;> simp (disch := omega) only [e_103_0, e_103_1, e_103_3, e_103_6, e_103_40, e_103_41, e_103_42, e_103_44, e_103_45, e_103_46, e_103_49, e_103_50, e_103_51, e_103_52, e_103_53, e_103_56, e_103_57, e_103_59, e_103_61, e_103_62, e_103_63, e_103_64, e_103_65, e_103_66, e_103_69, e_103_70, e_103_71, e_103_73, e_103_74, e_103_75, e_103_78, e_103_79, e_103_80, e_103_82, e_103_83, e_103_85, e_103_88, e_103_89, v1, d1, d2, d3, hv, true_and, toO_c, toO_g0, toO_k0, toO_g1, toO_k1, toO_s1, toO_g2, toO_k2, toO_s2, toO_g3, toO_k3, toO_s3, toO_g4, toO_k4, toO_s4, toO_g5, toO_k5, toO_g6, toO_k6, toO_s6, hoO_c, hoO_g0, hoO_k0, hoO_s0, hoO_g1, hoO_k1, hoO_s1, hoO_g2, hoO_k2, hoO_s2, hoO_g3, hoO_k3, hoO_g4, hoO_k4, hoO_g5, hoO_k5, hoO_g6, hoO_k6, hoO_g7, hoO_k7, hoO_g8, hoO_k8, hoO_g9, hoO_k9, hoO_s9, iup_s, iup_n, hp_up1, hp_upn, ne_eq, not_false_eq_true, sh_0, sh_1, sh_2, sh_3, sh_4, sh_5, sh_8, sh_15, sh_16, sh_24, Int.reducePow, Int.cast_ofNat_Int, w_of, wl_of, ltT, ltF, leT, leF, eqT, eqF, okF_0, okF_s, gF_0, gF_s, consC_o, sF_0, sF_s, clsO_o, inA_i, ldA_i, stA_i, inJ_l, ldJ_l, stJ_l, inR_r, ldR_r, stR_r, tgR_r, lenA_i, lenA_l, lenA_r, lenA_ex, nl_i, nl_o, nl_l, nl_n, wd_n, wd_i, wd_l, wd_o, fit_i, fit_l, fit_o, K_v, K_n, true_and, and_true, Nat.reduceAdd, Nat.reduceLeDiff, Nat.reduceEqDiff, Nat.reduceMul, Nat.reduceLT, reduceIte, true_or, or_true, cmp_lt, cmp_gt, cmp_eq, wb_0, b_01, cmp_lt', cmp_gt', cmp_eq', b_0, b_1, wb_1, Int.reduceSub, Int.reduceToNat, List.getD_cons_succ, List.getD_cons_zero, Int.reduceLE, Int.reduceLT, Int.reduceEq, Int.reduceNeg, Int.reduceAdd, Int.reduceMul, and_self, em_b, ne_eq, not_false_eq_true, not_true_eq_false] <;> (try rfl)
theorem HoP_sky {ow : Nat → Nat} {h : PH} {ca : Nat} {c : KC} {sky sky' e : Nat} (hF : owF ow h) (hH : HoP ow h ca c sky e) (hs : sky' < 10) :
    ∃ h', chg ow [1] h h' ∧ HoP ow h' ca c sky' e ∧ ∀ d Q, WP d 36 0 [some (vr 27), some (vr ca), some (vi (sky' : Nat))] [] h Q = Q none h' := by
  obtain ⟨i, A, a1, a2, a3, a4, a5, a6, a7, a8, a9⟩ := hH
  have hid : hoH h ca i A = h := ho_id a1 a2 a3 a4 a5 a6 a7
  have ha := a9.2.2.2.1
  obtain ⟨i1, i2, e1, e2, s1, m1, m2⟩ := a8
  refine ⟨hoH h ca (iup i 1 sky') A, ho_chg hF, HoP_i hF a9 ⟨iup_s, by rw [iup_n (by omega)]; exact i2, e1, e2, hs, m1, m2⟩, fun d Q => ?_⟩
  conv => lhs; rw [← hid]
  simp (disch := omega) only [e_36_0, e_36_1, e_36_4, e_36_5, e_36_8, e_36_9, e_36_10, e_36_13, e_36_14i, e_36_14a, e_36_15, e_36_18, e_36_19, e_36_20, e_36_23, e_36_24, e_36_25, e_36_28, okR_s, ha, hoO_c, hoO_g0, hoO_k0, hoO_g1, hoO_k1, hoO_g2, hoO_k2, hoO_g3, hoO_k3, hoO_g4, hoO_k4, hoO_g5, hoO_k5, hoO_g6, hoO_k6, hoO_g7, hoO_k7, hoO_g8, hoO_k8, hoO_g9, hoO_k9, hoO_s0, hoO_s1, hoO_s2, hoO_s9, ho_1, ho_2, ho_g27, ho_g28, ho_g29, ho_g30, ho_g31, ho_g32, ho_g33, ho_out, ho_u27, ho_u28, ho_u29, ho_u30, ho_u31, ho_u32, ho_u33, ho_uo, iup_s, iup_n, aup_s, aup_n, ne_eq, not_false_eq_true, sh_0, sh_1, sh_2, sh_3, sh_4, sh_5, sh_8, sh_15, sh_16, sh_24, Int.reducePow, Int.cast_ofNat_Int, w_of, wl_of, ltT, ltF, leT, leF, eqT, eqF, okF_0, okF_s, gF_0, gF_s, consC_o, sF_0, sF_s, clsO_o, inA_i, ldA_i, stA_i, inJ_l, ldJ_l, stJ_l, inR_r, ldR_r, stR_r, tgR_r, lenA_i, lenA_l, lenA_r, lenA_ex, nl_i, nl_o, nl_l, nl_n, wd_n, wd_i, wd_l, wd_o, fit_i, fit_l, fit_o, K_v, K_n, true_and, and_true, Nat.reduceAdd, Nat.reduceLeDiff, Nat.reduceEqDiff, Nat.reduceMul, Nat.reduceLT, reduceIte, true_or, or_true, cmp_lt, cmp_gt, cmp_eq, wb_0, b_01, cmp_lt', cmp_gt', cmp_eq', b_0, b_1, wb_1, Int.reduceSub, Int.reduceToNat, List.getD_cons_succ, List.getD_cons_zero, Int.reduceLE, Int.reduceLT, Int.reduceEq, Int.reduceNeg, Int.reduceAdd, Int.reduceMul, and_self, em_b, ne_eq, not_false_eq_true, not_true_eq_false]
theorem after_0 {c : KC} {w : Nat} {s : ST} : afterO c w s 0 = if downB c s then none else some (toM c w s 0) := by
  unfold afterO
  rw [show moveD c 0 = some 0 from rfl]
  dsimp only
  by_cases h : downB c s = true
  · rw [if_pos h]
    have : canM c w s 0 = false := by
      cases e : canM c w s 0 with
      | false => rfl
      | true => exact (can_down h (by omega) e).elim
    rw [this]; rfl
  · rw [if_neg h, canM_0 (by simpa using h)]; rfl
theorem To_tLp {ow : Nat → Nat} {ca : Nat} {c : KC} {w e : Nat} {l : List Int} {x2 : Int} (hO : okC c) (hl4 : ∀ k, k < l.length → 0 ≤ l.getD k 0 ∧ l.getD k 0 ≤ 3) :
    ∀ (r j : Nat) (h : PH) (t : ST) (o5 : Option PV), j + r = l.length → owF ow h → HoP ow h ca c w e → ToV h l l.length → okS c t → ∃ h', chg ow [1] h h' ∧ HoP ow h' ca c w e ∧ ∀ d Q, WP (d + 10) 105 5 [some (vr 61), some (vr 27), some (vi x2), some (vi (encC c t)), some (vi j), o5] [] h Q = Q (some (vi (if trd c w (l.drop j) t then 1 else 0))) h' := by
  have hK := hO.1
  have h24 := szC_le hK
  intro r
  induction r with
  | zero =>
    intro j h t o5 hj hF hH hV ht
    have ej : j = l.length := by omega
    subst ej
    obtain ⟨i, f, g, v1, v2, v3, v4, v5, v6⟩ := hV
    refine ⟨h, chg_r, hH, fun d Q => ?_⟩
    rw [List.drop_eq_nil_of_le (Nat.le_refl _), show trd c w [] t = true from rfl, if_pos rfl]
    rw [e_105_5]
    simp (disch := omega) only [e_105_7, e_105_8, e_105_11, e_105_57, e_105_58, v1, v4, true_and, toO_c, toO_g0, toO_k0, toO_g1, toO_k1, toO_s1, toO_g2, toO_k2, toO_s2, toO_g3, toO_k3, toO_s3, toO_g4, toO_k4, toO_s4, toO_g5, toO_k5, toO_g6, toO_k6, toO_s6, hoO_c, hoO_g0, hoO_k0, hoO_s0, hoO_g1, hoO_k1, hoO_s1, hoO_g2, hoO_k2, hoO_s2, hoO_g3, hoO_k3, hoO_g4, hoO_k4, hoO_g5, hoO_k5, hoO_g6, hoO_k6, hoO_g7, hoO_k7, hoO_g8, hoO_k8, hoO_g9, hoO_k9, hoO_s9, iup_s, iup_n, hp_up1, hp_upn, ne_eq, not_false_eq_true, sh_0, sh_1, sh_2, sh_3, sh_4, sh_5, sh_8, sh_15, sh_16, sh_24, Int.reducePow, Int.cast_ofNat_Int, w_of, wl_of, ltT, ltF, leT, leF, eqT, eqF, okF_0, okF_s, gF_0, gF_s, consC_o, sF_0, sF_s, clsO_o, inA_i, ldA_i, stA_i, inJ_l, ldJ_l, stJ_l, inR_r, ldR_r, stR_r, tgR_r, lenA_i, lenA_l, lenA_r, lenA_ex, nl_i, nl_o, nl_l, nl_n, wd_n, wd_i, wd_l, wd_o, fit_i, fit_l, fit_o, K_v, K_n, true_and, and_true, Nat.reduceAdd, Nat.reduceLeDiff, Nat.reduceEqDiff, Nat.reduceMul, Nat.reduceLT, reduceIte, true_or, or_true, cmp_lt, cmp_gt, cmp_eq, wb_0, b_01, cmp_lt', cmp_gt', cmp_eq', b_0, b_1, wb_1, Int.reduceSub, Int.reduceToNat, List.getD_cons_succ, List.getD_cons_zero, Int.reduceLE, Int.reduceLT, Int.reduceEq, Int.reduceNeg, Int.reduceAdd, Int.reduceMul, and_self, em_b, ne_eq, not_false_eq_true, not_true_eq_false]
    try rfl
  | succ r ih =>
    intro j h t o5 hj hF hH hV ht
    have hV' := hV
    obtain ⟨i, f, g, v1, v2, v3, v4, v5, v6⟩ := hV
    have hx : l[j]? = some l[j] := List.getElem?_eq_getElem (by omega)
    have hgd := getD_some (d := (0 : Int)) hx
    have hb4 := hl4 j (by omega)
    have hf := v6 j (by omega)
    rw [hgd] at hb4 hf
    generalize l[j] = x at hx hb4 hf hgd
    have htl := encC_lt hK ht
    obtain ⟨h1, b1, b2, b3⟩ := H_after (x := 0) hF hH ht ⟨by omega, by omega⟩
    rw [after_0] at b3
    have hF1 := chg_F b1 hF
    have hro := restS_ok (c := c) (w := w) ht
    have hrl := encC_lt hK hro
    obtain ⟨hKC⟩ : Nonempty (KCty ow h1 ca c) := by obtain ⟨_, _, _, _, _, _, _, _, _, _, a9⟩ := b2; exact ⟨a9⟩
    obtain ⟨y4, y5, y6, y7, y8, y9, y10, y11, y14, y15, y17, hA⟩ := KCty_sz hKC
    obtain ⟨iy, h27⟩ : ∃ i, hp h 27 = hoO i (vr ca) := by obtain ⟨i, A, a1, _⟩ := hH; exact ⟨i, a1⟩
    obtain ⟨iz, g27⟩ : ∃ i, hp h1 27 = hoO i (vr ca) := by obtain ⟨i, A, a1, _⟩ := b2; exact ⟨i, a1⟩
    have br := fun (d : Nat) (Q : PQ) => c_bearing (d := d) (Q := Q) hK hKC.1 hro
    have bl : bearS c (restS c w t) < 4 := by
      unfold bearS
      split
      · omega
      · exact ((okS_R hK hro).1 (restS c w t).1).2
    obtain ⟨t1, t2, t3⟩ := tg_to hF
    have e61 : hp h1 61 = toO i := by rw [chg_at b1 t1 (by decide)]; exact v1
    have e62 : hp h1 62 = aI 0 8 f := by rw [chg_at b1 t2 (by decide)]; exact v2
    have b3' := fun (d : Nat) (Q : PQ) => b3 d Q
    -- to pc 31
    have to31 : ∃ x5 : Int, ∀ d Q, WP (d + 10) 105 5 [some (vr 61), some (vr 27), some (vi x2), some (vi (encC c t)), some (vi j), o5] [] h Q = WP (d + 10) 105 31 [some (vr 61), some (vr 27), some (vi x2), some (vi (encC c (restS c w t))), some (vi j), some (vi x5)] [] h1 Q := by
      unfold restS
      by_cases hd : downB c t = true
      · rw [if_pos hd]
        simp only [hd, if_true, encO] at b3'
        refine ⟨-1, fun d Q => ?_⟩
        rw [e_105_5]
        simp (disch := omega) only [e_105_7, e_105_8, e_105_11, e_105_14, e_105_15, e_105_16, e_105_17, e_105_20, e_105_22, e_105_24, e_105_25, v1, v4, h27, b3', true_and, toO_c, toO_g0, toO_k0, toO_g1, toO_k1, toO_s1, toO_g2, toO_k2, toO_s2, toO_g3, toO_k3, toO_s3, toO_g4, toO_k4, toO_s4, toO_g5, toO_k5, toO_g6, toO_k6, toO_s6, hoO_c, hoO_g0, hoO_k0, hoO_s0, hoO_g1, hoO_k1, hoO_s1, hoO_g2, hoO_k2, hoO_s2, hoO_g3, hoO_k3, hoO_g4, hoO_k4, hoO_g5, hoO_k5, hoO_g6, hoO_k6, hoO_g7, hoO_k7, hoO_g8, hoO_k8, hoO_g9, hoO_k9, hoO_s9, iup_s, iup_n, hp_up1, hp_upn, ne_eq, not_false_eq_true, sh_0, sh_1, sh_2, sh_3, sh_4, sh_5, sh_8, sh_15, sh_16, sh_24, Int.reducePow, Int.cast_ofNat_Int, w_of, wl_of, ltT, ltF, leT, leF, eqT, eqF, okF_0, okF_s, gF_0, gF_s, consC_o, sF_0, sF_s, clsO_o, inA_i, ldA_i, stA_i, inJ_l, ldJ_l, stJ_l, inR_r, ldR_r, stR_r, tgR_r, lenA_i, lenA_l, lenA_r, lenA_ex, nl_i, nl_o, nl_l, nl_n, wd_n, wd_i, wd_l, wd_o, fit_i, fit_l, fit_o, K_v, K_n, true_and, and_true, Nat.reduceAdd, Nat.reduceLeDiff, Nat.reduceEqDiff, Nat.reduceMul, Nat.reduceLT, reduceIte, true_or, or_true, cmp_lt, cmp_gt, cmp_eq, wb_0, b_01, cmp_lt', cmp_gt', cmp_eq', b_0, b_1, wb_1, Int.reduceSub, Int.reduceToNat, List.getD_cons_succ, List.getD_cons_zero, Int.reduceLE, Int.reduceLT, Int.reduceEq, Int.reduceNeg, Int.reduceAdd, Int.reduceMul, and_self, em_b, ne_eq, not_false_eq_true, not_true_eq_false]
        try rfl
      · rw [if_neg hd]
        have hto : okS c (toM c w t 0) := toM_ok ht isMv_0
        have htol := encC_lt hK hto
        simp only [hd, if_false, encO, Bool.false_eq_true] at b3'
        refine ⟨(encC c (toM c w t 0) : Int), fun d Q => ?_⟩
        rw [e_105_5]
        simp (disch := omega) only [e_105_7, e_105_8, e_105_11, e_105_14, e_105_15, e_105_16, e_105_17, e_105_20, e_105_22, e_105_24, e_105_25, e_105_28, e_105_30, v1, v4, h27, b3', true_and, toO_c, toO_g0, toO_k0, toO_g1, toO_k1, toO_s1, toO_g2, toO_k2, toO_s2, toO_g3, toO_k3, toO_s3, toO_g4, toO_k4, toO_s4, toO_g5, toO_k5, toO_g6, toO_k6, toO_s6, hoO_c, hoO_g0, hoO_k0, hoO_s0, hoO_g1, hoO_k1, hoO_s1, hoO_g2, hoO_k2, hoO_s2, hoO_g3, hoO_k3, hoO_g4, hoO_k4, hoO_g5, hoO_k5, hoO_g6, hoO_k6, hoO_g7, hoO_k7, hoO_g8, hoO_k8, hoO_g9, hoO_k9, hoO_s9, iup_s, iup_n, hp_up1, hp_upn, ne_eq, not_false_eq_true, sh_0, sh_1, sh_2, sh_3, sh_4, sh_5, sh_8, sh_15, sh_16, sh_24, Int.reducePow, Int.cast_ofNat_Int, w_of, wl_of, ltT, ltF, leT, leF, eqT, eqF, okF_0, okF_s, gF_0, gF_s, consC_o, sF_0, sF_s, clsO_o, inA_i, ldA_i, stA_i, inJ_l, ldJ_l, stJ_l, inR_r, ldR_r, stR_r, tgR_r, lenA_i, lenA_l, lenA_r, lenA_ex, nl_i, nl_o, nl_l, nl_n, wd_n, wd_i, wd_l, wd_o, fit_i, fit_l, fit_o, K_v, K_n, true_and, and_true, Nat.reduceAdd, Nat.reduceLeDiff, Nat.reduceEqDiff, Nat.reduceMul, Nat.reduceLT, reduceIte, true_or, or_true, cmp_lt, cmp_gt, cmp_eq, wb_0, b_01, cmp_lt', cmp_gt', cmp_eq', b_0, b_1, wb_1, Int.reduceSub, Int.reduceToNat, List.getD_cons_succ, List.getD_cons_zero, Int.reduceLE, Int.reduceLT, Int.reduceEq, Int.reduceNeg, Int.reduceAdd, Int.reduceMul, and_self, em_b, ne_eq, not_false_eq_true, not_true_eq_false]
        try rfl
    obtain ⟨x5, to31⟩ := to31
    have hdr := drop_at hx
    have etr : trd c w (l.drop j) t = (decide ((bearS c (restS c w t) : Int) = x) && trd c w (l.drop (j + 1)) (restS c w t)) := by rw [hdr]; rfl
    by_cases hb : (bearS c (restS c w t) : Int) = x
    · obtain ⟨h', c1, c2, c3⟩ := ih (j + 1) h1 (restS c w t) (some (vi x5)) (by omega) hF1 b2 (ToV_c hF b1 (by decide) hV') hro
      refine ⟨h', chg_t b1 c1, c2, fun d Q => ?_⟩
      rw [to31 d Q, etr, decide_eq_true hb, Bool.true_and, ← c3 d Q]
      have ej : (j : Int) + 1 = ((j + 1 : Nat) : Int) := by omega
      simp (disch := omega) only [e_105_31, e_105_32, e_105_35, e_105_36, e_105_39, e_105_40, e_105_43, e_105_45, e_105_46, e_105_49, e_105_50, e_105_51, e_105_54, e61, e62, g27, hA, br, hf, ej, true_and, toO_c, toO_g0, toO_k0, toO_g1, toO_k1, toO_s1, toO_g2, toO_k2, toO_s2, toO_g3, toO_k3, toO_s3, toO_g4, toO_k4, toO_s4, toO_g5, toO_k5, toO_g6, toO_k6, toO_s6, hoO_c, hoO_g0, hoO_k0, hoO_s0, hoO_g1, hoO_k1, hoO_s1, hoO_g2, hoO_k2, hoO_s2, hoO_g3, hoO_k3, hoO_g4, hoO_k4, hoO_g5, hoO_k5, hoO_g6, hoO_k6, hoO_g7, hoO_k7, hoO_g8, hoO_k8, hoO_g9, hoO_k9, hoO_s9, iup_s, iup_n, hp_up1, hp_upn, ne_eq, not_false_eq_true, sh_0, sh_1, sh_2, sh_3, sh_4, sh_5, sh_8, sh_15, sh_16, sh_24, Int.reducePow, Int.cast_ofNat_Int, w_of, wl_of, ltT, ltF, leT, leF, eqT, eqF, okF_0, okF_s, gF_0, gF_s, consC_o, sF_0, sF_s, clsO_o, inA_i, ldA_i, stA_i, inJ_l, ldJ_l, stJ_l, inR_r, ldR_r, stR_r, tgR_r, lenA_i, lenA_l, lenA_r, lenA_ex, nl_i, nl_o, nl_l, nl_n, wd_n, wd_i, wd_l, wd_o, fit_i, fit_l, fit_o, K_v, K_n, true_and, and_true, Nat.reduceAdd, Nat.reduceLeDiff, Nat.reduceEqDiff, Nat.reduceMul, Nat.reduceLT, reduceIte, true_or, or_true, cmp_lt, cmp_gt, cmp_eq, wb_0, b_01, cmp_lt', cmp_gt', cmp_eq', b_0, b_1, wb_1, Int.reduceSub, Int.reduceToNat, List.getD_cons_succ, List.getD_cons_zero, Int.reduceLE, Int.reduceLT, Int.reduceEq, Int.reduceNeg, Int.reduceAdd, Int.reduceMul, and_self, em_b, ne_eq, not_false_eq_true, not_true_eq_false]
      try rfl
    · refine ⟨h1, b1, b2, fun d Q => ?_⟩
      rw [to31 d Q, etr, decide_eq_false hb, Bool.false_and, if_neg (by decide)]
      simp (disch := omega) only [e_105_31, e_105_32, e_105_35, e_105_36, e_105_39, e_105_40, e_105_43, e_105_45, e_105_46, e_105_49, e_105_50, e61, e62, g27, hA, br, hf, true_and, toO_c, toO_g0, toO_k0, toO_g1, toO_k1, toO_s1, toO_g2, toO_k2, toO_s2, toO_g3, toO_k3, toO_s3, toO_g4, toO_k4, toO_s4, toO_g5, toO_k5, toO_g6, toO_k6, toO_s6, hoO_c, hoO_g0, hoO_k0, hoO_s0, hoO_g1, hoO_k1, hoO_s1, hoO_g2, hoO_k2, hoO_s2, hoO_g3, hoO_k3, hoO_g4, hoO_k4, hoO_g5, hoO_k5, hoO_g6, hoO_k6, hoO_g7, hoO_k7, hoO_g8, hoO_k8, hoO_g9, hoO_k9, hoO_s9, iup_s, iup_n, hp_up1, hp_upn, ne_eq, not_false_eq_true, sh_0, sh_1, sh_2, sh_3, sh_4, sh_5, sh_8, sh_15, sh_16, sh_24, Int.reducePow, Int.cast_ofNat_Int, w_of, wl_of, ltT, ltF, leT, leF, eqT, eqF, okF_0, okF_s, gF_0, gF_s, consC_o, sF_0, sF_s, clsO_o, inA_i, ldA_i, stA_i, inJ_l, ldJ_l, stJ_l, inR_r, ldR_r, stR_r, tgR_r, lenA_i, lenA_l, lenA_r, lenA_ex, nl_i, nl_o, nl_l, nl_n, wd_n, wd_i, wd_l, wd_o, fit_i, fit_l, fit_o, K_v, K_n, true_and, and_true, Nat.reduceAdd, Nat.reduceLeDiff, Nat.reduceEqDiff, Nat.reduceMul, Nat.reduceLT, reduceIte, true_or, or_true, cmp_lt, cmp_gt, cmp_eq, wb_0, b_01, cmp_lt', cmp_gt', cmp_eq', b_0, b_1, wb_1, Int.reduceSub, Int.reduceToNat, List.getD_cons_succ, List.getD_cons_zero, Int.reduceLE, Int.reduceLT, Int.reduceEq, Int.reduceNeg, Int.reduceAdd, Int.reduceMul, and_self, em_b, ne_eq, not_false_eq_true, not_true_eq_false]
      try rfl
theorem To_sLp {ow : Nat → Nat} {ca : Nat} {c : KC} {e : Nat} {l : List Int} {s : ST} (hO : okC c) (hl4 : ∀ k, k < l.length → 0 ≤ l.getD k 0 ∧ l.getD k 0 ≤ 3) (hs : okS c s) :
    ∀ (r w : Nat) (h : PH) (sky : Nat), w + r = 10 → owF ow h → HoP ow h ca c sky e → ToV h l l.length → ∃ (h' : PH) (sky' : Nat), chg ow [1] h h' ∧ HoP ow h' ca c sky' e ∧ ∀ d Q, WP (d + 11) 104 5 [some (vr 61), some (vr 27), some (vi (encC c s)), some (vi (bitsF w (fun w => trd c w l s))), some (vi w)] [] h Q = Q (some (vi (weatV c l s))) h' := by
  intro r
  induction r with
  | zero =>
    intro w h sky hw hF hH hV
    have ew : w = 10 := by omega
    subst ew
    refine ⟨h, sky, chg_r, hH, fun d Q => ?_⟩
    unfold weatV
    have e10 : ((10 : Nat) : Int) = 10 := rfl
    rw [e_104_5]
    simp (disch := omega) only [e_104_7, e_104_9, e_104_44, e_104_45, e10, toO_c, toO_g0, toO_k0, toO_g1, toO_k1, toO_s1, toO_g2, toO_k2, toO_s2, toO_g3, toO_k3, toO_s3, toO_g4, toO_k4, toO_s4, toO_g5, toO_k5, toO_g6, toO_k6, toO_s6, hoO_c, hoO_g0, hoO_k0, hoO_s0, hoO_g1, hoO_k1, hoO_s1, hoO_g2, hoO_k2, hoO_s2, hoO_g3, hoO_k3, hoO_g4, hoO_k4, hoO_g5, hoO_k5, hoO_g6, hoO_k6, hoO_g7, hoO_k7, hoO_g8, hoO_k8, hoO_g9, hoO_k9, hoO_s9, iup_s, iup_n, hp_up1, hp_upn, ne_eq, not_false_eq_true, sh_0, sh_1, sh_2, sh_3, sh_4, sh_5, sh_8, sh_15, sh_16, sh_24, Int.reducePow, Int.cast_ofNat_Int, w_of, wl_of, ltT, ltF, leT, leF, eqT, eqF, okF_0, okF_s, gF_0, gF_s, consC_o, sF_0, sF_s, clsO_o, inA_i, ldA_i, stA_i, inJ_l, ldJ_l, stJ_l, inR_r, ldR_r, stR_r, tgR_r, lenA_i, lenA_l, lenA_r, lenA_ex, nl_i, nl_o, nl_l, nl_n, wd_n, wd_i, wd_l, wd_o, fit_i, fit_l, fit_o, K_v, K_n, true_and, and_true, Nat.reduceAdd, Nat.reduceLeDiff, Nat.reduceEqDiff, Nat.reduceMul, Nat.reduceLT, reduceIte, true_or, or_true, cmp_lt, cmp_gt, cmp_eq, wb_0, b_01, cmp_lt', cmp_gt', cmp_eq', b_0, b_1, wb_1, Int.reduceSub, Int.reduceToNat, List.getD_cons_succ, List.getD_cons_zero, Int.reduceLE, Int.reduceLT, Int.reduceEq, Int.reduceNeg, Int.reduceAdd, Int.reduceMul, and_self, em_b, ne_eq, not_false_eq_true, not_true_eq_false]
    try rfl
  | succ r ih =>
    intro w h sky hw hF hH hV
    obtain ⟨h1, b1, b2, b3⟩ := HoP_sky (sky' := w) hF hH (by omega)
    have hF1 := chg_F b1 hF
    have hV1 := ToV_c hF b1 (by decide) hV
    obtain ⟨h2, c1, c2, c3⟩ := To_tLp (x2 := (encC c s : Int)) hO hl4 l.length 0 h1 s none (by omega) hF1 b2 hV1 hs
    have ts : ∀ d Q, WP (d + 10) 105 0 [some (vr 61), some (vr 27), some (vi (encC c s)), none, none, none] [] h1 Q = Q (some (vi (if trd c w l s then 1 else 0))) h2 := fun d Q => by
      have := c3 d Q
      rw [nc0, List.drop_zero] at this
      rw [← this]
      simp (disch := omega) only [e_105_0, e_105_1, e_105_2, e_105_3, toO_c, toO_g0, toO_k0, toO_g1, toO_k1, toO_s1, toO_g2, toO_k2, toO_s2, toO_g3, toO_k3, toO_s3, toO_g4, toO_k4, toO_s4, toO_g5, toO_k5, toO_g6, toO_k6, toO_s6, hoO_c, hoO_g0, hoO_k0, hoO_s0, hoO_g1, hoO_k1, hoO_s1, hoO_g2, hoO_k2, hoO_s2, hoO_g3, hoO_k3, hoO_g4, hoO_k4, hoO_g5, hoO_k5, hoO_g6, hoO_k6, hoO_g7, hoO_k7, hoO_g8, hoO_k8, hoO_g9, hoO_k9, hoO_s9, iup_s, iup_n, hp_up1, hp_upn, ne_eq, not_false_eq_true, sh_0, sh_1, sh_2, sh_3, sh_4, sh_5, sh_8, sh_15, sh_16, sh_24, Int.reducePow, Int.cast_ofNat_Int, w_of, wl_of, ltT, ltF, leT, leF, eqT, eqF, okF_0, okF_s, gF_0, gF_s, consC_o, sF_0, sF_s, clsO_o, inA_i, ldA_i, stA_i, inJ_l, ldJ_l, stJ_l, inR_r, ldR_r, stR_r, tgR_r, lenA_i, lenA_l, lenA_r, lenA_ex, nl_i, nl_o, nl_l, nl_n, wd_n, wd_i, wd_l, wd_o, fit_i, fit_l, fit_o, K_v, K_n, true_and, and_true, Nat.reduceAdd, Nat.reduceLeDiff, Nat.reduceEqDiff, Nat.reduceMul, Nat.reduceLT, reduceIte, true_or, or_true, cmp_lt, cmp_gt, cmp_eq, wb_0, b_01, cmp_lt', cmp_gt', cmp_eq', b_0, b_1, wb_1, Int.reduceSub, Int.reduceToNat, List.getD_cons_succ, List.getD_cons_zero, Int.reduceLE, Int.reduceLT, Int.reduceEq, Int.reduceNeg, Int.reduceAdd, Int.reduceMul, and_self, em_b, ne_eq, not_false_eq_true, not_true_eq_false]
      try rfl
    obtain ⟨h', sky', d1, d2, d3⟩ := ih (w + 1) h2 w (by omega) (chg_F c1 hF1) c2 (ToV_c hF1 c1 (by decide) hV1)
    refine ⟨h', sky', chg_t b1 (chg_t c1 d1), d2, fun d Q => ?_⟩
    rw [← d3 d Q]
    obtain ⟨iy, h27⟩ : ∃ i, hp h 27 = hoO i (vr ca) := by obtain ⟨i, A, a1, _⟩ := hH; exact ⟨i, a1⟩
    obtain ⟨i, f, g, v1, v2, v3, v4, v5, v6⟩ := hV1
    have b3' := fun (d : Nat) (Q : PQ) => b3 d Q
    have ts' := fun (d : Nat) (Q : PQ) => ts d Q
    have ew : (w : Int) + 1 = ((w + 1 : Nat) : Int) := by omega
    have eb := bitsF_s (n := w) (f := fun w => trd c w l s) (by omega)
    by_cases ht : trd c w l s = true
    · rw [if_pos ht] at eb
      simp only [ht, if_true] at ts'
      rw [e_104_5]
      simp (disch := omega) only [e_104_7, e_104_9, e_104_12, e_104_13, e_104_14, e_104_17, e_104_19, e_104_22, e_104_23, e_104_24, e_104_25, e_104_28, e_104_31, e_104_32, e_104_33, e_104_35, e_104_36, e_104_37, e_104_38, e_104_41, h27, b3', ts', v1, eb, ew, true_and, toO_c, toO_g0, toO_k0, toO_g1, toO_k1, toO_s1, toO_g2, toO_k2, toO_s2, toO_g3, toO_k3, toO_s3, toO_g4, toO_k4, toO_s4, toO_g5, toO_k5, toO_g6, toO_k6, toO_s6, hoO_c, hoO_g0, hoO_k0, hoO_s0, hoO_g1, hoO_k1, hoO_s1, hoO_g2, hoO_k2, hoO_s2, hoO_g3, hoO_k3, hoO_g4, hoO_k4, hoO_g5, hoO_k5, hoO_g6, hoO_k6, hoO_g7, hoO_k7, hoO_g8, hoO_k8, hoO_g9, hoO_k9, hoO_s9, iup_s, iup_n, hp_up1, hp_upn, ne_eq, not_false_eq_true, sh_0, sh_1, sh_2, sh_3, sh_4, sh_5, sh_8, sh_15, sh_16, sh_24, Int.reducePow, Int.cast_ofNat_Int, w_of, wl_of, ltT, ltF, leT, leF, eqT, eqF, okF_0, okF_s, gF_0, gF_s, consC_o, sF_0, sF_s, clsO_o, inA_i, ldA_i, stA_i, inJ_l, ldJ_l, stJ_l, inR_r, ldR_r, stR_r, tgR_r, lenA_i, lenA_l, lenA_r, lenA_ex, nl_i, nl_o, nl_l, nl_n, wd_n, wd_i, wd_l, wd_o, fit_i, fit_l, fit_o, K_v, K_n, true_and, and_true, Nat.reduceAdd, Nat.reduceLeDiff, Nat.reduceEqDiff, Nat.reduceMul, Nat.reduceLT, reduceIte, true_or, or_true, cmp_lt, cmp_gt, cmp_eq, wb_0, b_01, cmp_lt', cmp_gt', cmp_eq', b_0, b_1, wb_1, Int.reduceSub, Int.reduceToNat, List.getD_cons_succ, List.getD_cons_zero, Int.reduceLE, Int.reduceLT, Int.reduceEq, Int.reduceNeg, Int.reduceAdd, Int.reduceMul, and_self, em_b, ne_eq, not_false_eq_true, not_true_eq_false]
      try rfl
    · rw [if_neg ht] at eb
      simp only [ht, if_false, Bool.false_eq_true] at ts'
      rw [e_104_5]
      simp (disch := omega) only [e_104_7, e_104_9, e_104_12, e_104_13, e_104_14, e_104_17, e_104_19, e_104_22, e_104_23, e_104_24, e_104_25, e_104_28, e_104_38, e_104_41, h27, b3', ts', v1, eb, ew, true_and, toO_c, toO_g0, toO_k0, toO_g1, toO_k1, toO_s1, toO_g2, toO_k2, toO_s2, toO_g3, toO_k3, toO_s3, toO_g4, toO_k4, toO_s4, toO_g5, toO_k5, toO_g6, toO_k6, toO_s6, hoO_c, hoO_g0, hoO_k0, hoO_s0, hoO_g1, hoO_k1, hoO_s1, hoO_g2, hoO_k2, hoO_s2, hoO_g3, hoO_k3, hoO_g4, hoO_k4, hoO_g5, hoO_k5, hoO_g6, hoO_k6, hoO_g7, hoO_k7, hoO_g8, hoO_k8, hoO_g9, hoO_k9, hoO_s9, iup_s, iup_n, hp_up1, hp_upn, ne_eq, not_false_eq_true, sh_0, sh_1, sh_2, sh_3, sh_4, sh_5, sh_8, sh_15, sh_16, sh_24, Int.reducePow, Int.cast_ofNat_Int, w_of, wl_of, ltT, ltF, leT, leF, eqT, eqF, okF_0, okF_s, gF_0, gF_s, consC_o, sF_0, sF_s, clsO_o, inA_i, ldA_i, stA_i, inJ_l, ldJ_l, stJ_l, inR_r, ldR_r, stR_r, tgR_r, lenA_i, lenA_l, lenA_r, lenA_ex, nl_i, nl_o, nl_l, nl_n, wd_n, wd_i, wd_l, wd_o, fit_i, fit_l, fit_o, K_v, K_n, true_and, and_true, Nat.reduceAdd, Nat.reduceLeDiff, Nat.reduceEqDiff, Nat.reduceMul, Nat.reduceLT, reduceIte, true_or, or_true, cmp_lt, cmp_gt, cmp_eq, wb_0, b_01, cmp_lt', cmp_gt', cmp_eq', b_0, b_1, wb_1, Int.reduceSub, Int.reduceToNat, List.getD_cons_succ, List.getD_cons_zero, Int.reduceLE, Int.reduceLT, Int.reduceEq, Int.reduceNeg, Int.reduceAdd, Int.reduceMul, and_self, em_b, ne_eq, not_false_eq_true, not_true_eq_false]
      try rfl
theorem To_skies {ow : Nat → Nat} {h : PH} {ca : Nat} {c : KC} {sky e : Nat} {l : List Int} {s : ST} (hl4 : ∀ k, k < l.length → 0 ≤ l.getD k 0 ∧ l.getD k 0 ≤ 3) (hs : okS c s) (hF : owF ow h) (hH : HoP ow h ca c sky e) (hV : ToV h l l.length) : ∃ (h' : PH) (sky' : Nat), chg ow [1] h h' ∧ HoP ow h' ca c sky' e ∧ ∀ d Q, WP (d + 11) 104 0 [some (vr 61), some (vr 27), some (vi (encC c s)), none, none] [] h Q = Q (some (vi (weatV c l s))) h' := by
  obtain ⟨hO⟩ : Nonempty (okC c) := by obtain ⟨_, _, _, _, _, _, _, _, _, _, a9⟩ := hH; exact ⟨a9.2.1⟩
  obtain ⟨h', sky', d1, d2, d3⟩ := To_sLp hO hl4 hs 10 0 h sky (by omega) hF hH hV
  refine ⟨h', sky', d1, d2, fun d Q => ?_⟩
  have := d3 d Q
  rw [nc0, show ((bitsF 0 (fun w => trd c w l s) : Nat) : Int) = 0 from rfl] at this
  rw [← this]
  simp (disch := omega) only [e_104_0, e_104_1, e_104_2, e_104_3, toO_c, toO_g0, toO_k0, toO_g1, toO_k1, toO_s1, toO_g2, toO_k2, toO_s2, toO_g3, toO_k3, toO_s3, toO_g4, toO_k4, toO_s4, toO_g5, toO_k5, toO_g6, toO_k6, toO_s6, hoO_c, hoO_g0, hoO_k0, hoO_s0, hoO_g1, hoO_k1, hoO_s1, hoO_g2, hoO_k2, hoO_s2, hoO_g3, hoO_k3, hoO_g4, hoO_k4, hoO_g5, hoO_k5, hoO_g6, hoO_k6, hoO_g7, hoO_k7, hoO_g8, hoO_k8, hoO_g9, hoO_k9, hoO_s9, iup_s, iup_n, hp_up1, hp_upn, ne_eq, not_false_eq_true, sh_0, sh_1, sh_2, sh_3, sh_4, sh_5, sh_8, sh_15, sh_16, sh_24, Int.reducePow, Int.cast_ofNat_Int, w_of, wl_of, ltT, ltF, leT, leF, eqT, eqF, okF_0, okF_s, gF_0, gF_s, consC_o, sF_0, sF_s, clsO_o, inA_i, ldA_i, stA_i, inJ_l, ldJ_l, stJ_l, inR_r, ldR_r, stR_r, tgR_r, lenA_i, lenA_l, lenA_r, lenA_ex, nl_i, nl_o, nl_l, nl_n, wd_n, wd_i, wd_l, wd_o, fit_i, fit_l, fit_o, K_v, K_n, true_and, and_true, Nat.reduceAdd, Nat.reduceLeDiff, Nat.reduceEqDiff, Nat.reduceMul, Nat.reduceLT, reduceIte, true_or, or_true, cmp_lt, cmp_gt, cmp_eq, wb_0, b_01, cmp_lt', cmp_gt', cmp_eq', b_0, b_1, wb_1, Int.reduceSub, Int.reduceToNat, List.getD_cons_succ, List.getD_cons_zero, Int.reduceLE, Int.reduceLT, Int.reduceEq, Int.reduceNeg, Int.reduceAdd, Int.reduceMul, and_self, em_b, ne_eq, not_false_eq_true, not_true_eq_false]
  try rfl
