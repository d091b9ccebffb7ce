/-! THE CLASS: centuries -/
section parts
variable {kc : Nat → KC} {ow : Nat → Nat} {M : MS} {S0 e k : Nat}
theorem EngP_7 {ow' : Nat → Nat} {h h' : PH} {nd nc nk nr nb : Nat} {T : List Nat} (hF : owF ow h) (hx : extO ow h ow' h' T) (ht : ∀ t, t ∈ [0, 2, 3, 4, 5, 6, 17, 18, 20] → ¬ t ∈ T) (hTo : ToP h') (hP : EngP kc ow h nd nc nk nr nb) : EngP kc ow' h' nd nc nk nr nb := by
  obtain ⟨p1, p2, p3, p4, ⟨lw, p5⟩, p6, p7, p8, p9, p10, p11⟩ := hP
  exact ⟨DesP_e hF hx (ht 2 (by decide)) p1, ComP_e hF hx (ht 3 (by decide)) p2, KepP_e hF hx (ht 4 (by decide)) p3, Wd_e hF hx (ht 17 (by decide)) p4, ⟨lw, RowV_e hF hx (ht 5 (by decide)) (ht 18 (by decide)) p5⟩, AhP_e hF hx (ht 0 (by decide)) (ht 20 (by decide)) p6, BeaP_e hF hx (ht 6 (by decide)) p7, hTo, cell_41 hF hx (ht 4 (by decide)) p9, cell_38 hF hx (ht 3 (by decide)) p10, cell_59 hF hx (ht 6 (by decide)) p11⟩
theorem bk_z7 {h h' : PH} {e' : Nat} {ca0 sky0 : Nat} {z : ZT} {past : List ZT} {T : List Nat} (hB : bkI kc ow h M S0 e k) (hx : chg ow T h h') (hT : ∀ t, t ∈ T → t ∈ [1, 7, 8, 9, 11, 16]) (hTo : ToP h') (hH : HoP ow h' ca0 (kc ca0) sky0 e') (he : e' ≤ e + 50) (hO : ∃ i : Nat → Int, hp h' 10 = bkO i ∧ i 12 = (past.length : Int) ∧ i 16 = mF M ∧ i 17 = mG M) (hM : ∃ ca, kc ca = mC M ∧ MoP ow h' 64 ca (mC M) z) (hT65 : ∃ i p, hp h' 65 = moO i p) (hP : PaP h' (mC M) past) : bkI kc ow h' (setZ M z past) S0 e' (k + 1) ∧ extO ow h ow h' allT := by
  obtain ⟨hF, ⟨s1, s2, s3, s4, s5, s6, s7, s8⟩, -, he0, nd, nc, nk, nr, nb, hE, hR⟩ := hB
  have hx' := ext_c hx
  have no : ∀ t, t ∈ [0, 2, 3, 4, 5, 6, 10, 12, 13, 14, 17, 18, 20] → ¬ t ∈ T := fun t ht z => by
    have := hT t z
    simp only [List.mem_cons, List.not_mem_nil, or_false] at this ht
    omega
  refine ⟨⟨ext_F hx' hF, ⟨hO, hM, hT65, ImP_e hF hx' (no 0 (by decide)) (no 10 (by decide)) s4, hP, TrP_e hF hx' (no 12 (by decide)) s6, TkP_e hF hx' (no 13 (by decide)) s7, RdP_e hF hx' (no 14 (by decide)) s8⟩, ⟨ca0, sky0, hH⟩, by omega, nd, nc, nk, nr, nb, EngP_7 hF hx' (fun t ht => no t (by
    simp only [List.mem_cons, List.not_mem_nil, or_false] at ht ⊢
    omega)) hTo hE, room_up (room_same hx.1 hx.2.1 hR)⟩, ext_w hx' (fun t ht => ?_)⟩
  have := hT t ht
  unfold allT
  simp only [List.mem_cons, List.not_mem_nil, or_false] at this ⊢
  omega
theorem cen_Lp {ca : Nat} {c : KC} {i : Nat → Int} {times : Nat} {sd : Int} (hkc : kc ca = c) (ht64 : ow 64 = 8) (htm : times ≤ 40) :
    ∀ (r q : Nat) (h : PH) (z : ZT) (x : Int) (dn : Nat) (e ca0 sky0 : Nat) (it : Nat → Int), q + r = times → dn ≤ q → e + r < 1000000 → owF ow h → HoP ow h ca0 (kc ca0) sky0 e → MoP ow h 64 ca c z → ToP h → hp h 61 = toO it → it 6 = x → hp h 10 = bkO i →
    ∃ (h' : PH) (ca1 sky1 e' : Nat), e' ≤ e + r ∧ chg ow [1, 7, 8] h h' ∧ HoP ow h' ca1 (kc ca1) sky1 e' ∧ MoP ow h' 64 ca c (cen c r x z).2 ∧ ToP h' ∧ ∀ d Q, WP (d + 11) 126 38 [some (vr 10), some (vi sd), some (vi times), some (vi dn), some (vi q)] [] h Q = WP (d + 11) 126 75 [some (vr 10), some (vi sd), some (vi times), some (vi ((dn + (cen c r x z).1 : Nat) : Int)), some (vi times)] [] h' Q := by
  intro r
  induction r with
  | zero =>
    intro q h z x dn e ca0 sky0 it hq hdn he hF hH hM hTo v61 hx b1
    have eq : q = times := by omega
    subst eq
    refine ⟨h, ca0, sky0, e, by omega, chg_r, hH, hM, hTo, fun d Q => ?_⟩
    rw [show dn + (cen c 0 x z).1 = dn from rfl]
    rw [e_126_38]
    simp (disch := omega) only [e_126_40, e_126_41, bkO_c, bkO_g0, bkO_k0, bkO_g1, bkO_k1, bkO_g2, bkO_k2, bkO_g3, bkO_k3, bkO_g4, bkO_k4, bkO_g5, bkO_k5, bkO_g6, bkO_k6, bkO_g7, bkO_k7, bkO_g8, bkO_k8, bkO_g9, bkO_k9, bkO_g10, bkO_k10, bkO_g11, bkO_k11, bkO_g12, bkO_k12, bkO_g13, bkO_k13, bkO_g14, bkO_k14, bkO_g15, bkO_k15, bkO_g16, bkO_k16, bkO_g17, bkO_k17, bkO_s12, bkO_s16, bkO_s17, moO_c, moO_g0, moO_k0, moO_g1, moO_k1, moO_g2, moO_k2, moO_g3, moO_k3, moO_s0, moO_s1, moO_s2, moO_s3, hoO_c, hoO_g0, hoO_k0, hoO_g1, hoO_k1, hoO_g2, hoO_k2, hoO_g3, hoO_k3, hoO_g4, hoO_k4, hoO_g5, hoO_k5, hoO_g6, hoO_k6, hoO_g7, hoO_k7, hoO_g8, hoO_k8, hoO_g9, hoO_k9, hoO_s0, hoO_s1, hoO_s2, hoO_s9, iup_s, iup_n, hp_up1, hp_upn, ne_eq, not_false_eq_true, sh_0, sh_1, sh_2, sh_3, sh_4, sh_5, sh_8, sh_15, sh_16, sh_24, Int.reducePow, Int.cast_ofNat_Int, w_of, wl_of, ltT, ltF, leT, leF, eqT, eqF, okF_0, okF_s, gF_0, gF_s, consC_o, sF_0, sF_s, clsO_o, inA_i, ldA_i, stA_i, inJ_l, ldJ_l, stJ_l, inR_r, ldR_r, stR_r, tgR_r, lenA_i, lenA_l, lenA_r, lenA_ex, nl_i, nl_o, nl_l, nl_n, wd_n, wd_i, wd_l, wd_o, fit_i, fit_l, fit_o, K_v, K_n, true_and, and_true, Nat.reduceAdd, Nat.reduceLeDiff, Nat.reduceEqDiff, Nat.reduceMul, Nat.reduceLT, reduceIte, true_or, or_true, cmp_lt, cmp_gt, cmp_eq, wb_0, b_01, cmp_lt', cmp_gt', cmp_eq', b_0, b_1, wb_1, Int.reduceSub, Int.reduceToNat, List.getD_cons_succ, List.getD_cons_zero, Int.reduceLE, Int.reduceLT, Int.reduceEq, Int.reduceNeg, Int.reduceAdd, Int.reduceMul, and_self, em_b, ne_eq, not_false_eq_true, not_true_eq_false]
    try rfl
  | succ r ih =>
    intro q h z x dn e ca0 sky0 it hq hdn he hF hH hM hTo v61 hx b1
    obtain ⟨t64, -, -, -, -, -, -, t10, -⟩ := tg_64 hF
    obtain ⟨t61, -⟩ := tg_to hF
    obtain ⟨h1, it1, d1, d2, d3, d4, d5⟩ := To_drawDeed hF hTo v61
    rw [hx] at d4 d5
    have hF1 := chg_F d1 hF
    have hb := cenD_b (x := x)
    have hM1 : MoP ow h1 64 ca c z := MoP_e (ext_c d1) (by have := hF.1; omega) (by decide) (by rw [t64]; decide) hM
    obtain ⟨h2, ca1, sky1, e1, a1, a2, a3, a4, a5⟩ := Mo_act (kc := kc) (x := (cenD x).1) hF1 (HoP_c hF d1 (by decide) (by decide) hH) hM1 hkc (by omega) (by rw [t64]; decide) (by rw [t64]; decide) ⟨by omega, by omega⟩ (by omega)
    rw [t64] at a2
    have c12 : chg ow [1, 7, 8] h h2 := chg_t (chg_w d1 (by decide)) (chg_w a2 (by decide))
    have hF2 := chg_F c12 hF
    have hTo2 := ToP_e hF1 (ext_c a2) (by decide) d2
    have v61b : hp h2 61 = toO it1 := by rw [chg_at a2 t61 (by decide)]; exact d3
    have v10 : hp h2 10 = bkO i := by rw [chg_at c12 t10 (by decide)]; exact b1
    have w10 : hp h1 10 = bkO i := by rw [chg_at d1 t10 (by decide)]; exact b1
    obtain ⟨iy, h27⟩ : ∃ i, hp h 27 = hoO i (vr ca0) := by obtain ⟨i, A, a1, _⟩ := hH; exact ⟨i, a1⟩
    have w27 : ∃ i, hp h1 27 = hoO i (vr ca0) := ⟨iy, by rw [chg_at d1 (tg_ho hF (by omega) (by omega)) (by decide)]; exact h27⟩
    obtain ⟨iz, g27⟩ := w27
    obtain ⟨j, m1, -⟩ := hM1
    have hwl : actW c z (cenD x).1 ≤ 4 := by
      unfold actW
      split
      · split <;> omega
      · split
        · omega
        · unfold whyD
          split
          · omega
          · unfold whyM
            repeat' split
            all_goals omega
    have eq1 : (q : Int) + 1 = ((q + 1 : Nat) : Int) := by omega
    have ed1 : (dn : Int) + 1 = ((dn + 1 : Nat) : Int) := by omega
    have d5' := fun (Q : PQ) (d : Nat) => d5 d Q
    have ec : cen c (r + 1) x z = if actW c z (cenD x).1 = 0 then ((cen c r (cenD x).2 (actN c z (cenD x).1)).1 + 1, (cen c r (cenD x).2 (actN c z (cenD x).1)).2) else cen c r (cenD x).2 z := rfl
    have n64 : ∃ jn, hp h 64 = moO jn (vr ca) := ⟨j, by rw [← chg_at d1 t64 (by decide)]; exact m1⟩
    obtain ⟨jn, n64⟩ := n64
    by_cases hw : actW c z (cenD x).1 = 0
    · rw [if_pos hw] at a4 ec
      rw [hw] at a5
      obtain ⟨h', ca2, sky2, e2, c1, c2, c3, c4, c5, c6⟩ := ih (q + 1) h2 (actN c z (cenD x).1) (cenD x).2 (dn + 1) e1 ca1 sky1 it1 (by omega) (by omega) (by omega) hF2 a3 a4 hTo2 v61b d4 v10
      rw [ec]
      refine ⟨h', ca2, sky2, e2, by omega, chg_t c12 c2, c3, c4, c5, fun d Q => ?_⟩
      rw [show dn + (((cen c r (cenD x).2 (actN c z (cenD x).1)).1 + 1, (cen c r (cenD x).2 (actN c z (cenD x).1)).2) : Nat × ZT).1 = dn + 1 + (cen c r (cenD x).2 (actN c z (cenD x).1)).1 by show dn + ((cen c r (cenD x).2 (actN c z (cenD x).1)).1 + 1) = _; omega, ← c6 d Q]
      have a5' := fun (Q : PQ) => a5 d Q
      rw [e_126_38]
      simp (disch := omega) only [e_126_40, e_126_41, e_126_44, e_126_45, e_126_48, e_126_49, e_126_52, e_126_53, e_126_56, e_126_59, e_126_60, e_126_63, e_126_66, e_126_69, e_126_72, b1, n64, v61, h27, d5', w10, m1, g27, a5', eq1, ed1, nc0, true_and, bkO_c, bkO_g0, bkO_k0, bkO_g1, bkO_k1, bkO_g2, bkO_k2, bkO_g3, bkO_k3, bkO_g4, bkO_k4, bkO_g5, bkO_k5, bkO_g6, bkO_k6, bkO_g7, bkO_k7, bkO_g8, bkO_k8, bkO_g9, bkO_k9, bkO_g10, bkO_k10, bkO_g11, bkO_k11, bkO_g12, bkO_k12, bkO_g13, bkO_k13, bkO_g14, bkO_k14, bkO_g15, bkO_k15, bkO_g16, bkO_k16, bkO_g17, bkO_k17, bkO_s12, bkO_s16, bkO_s17, moO_c, moO_g0, moO_k0, moO_g1, moO_k1, moO_g2, moO_k2, moO_g3, moO_k3, moO_s0, moO_s1, moO_s2, moO_s3, hoO_c, hoO_g0, hoO_k0, hoO_g1, hoO_k1, hoO_g2, hoO_k2, hoO_g3, hoO_k3, hoO_g4, hoO_k4, hoO_g5, hoO_k5, hoO_g6, hoO_k6, hoO_g7, hoO_k7, hoO_g8, hoO_k8, hoO_g9, hoO_k9, hoO_s0, hoO_s1, hoO_s2, hoO_s9, toO_c, toO_g0, toO_k0, toO_g1, toO_k1, toO_g2, toO_k2, toO_g3, toO_k3, toO_g4, toO_k4, toO_g5, toO_k5, toO_g6, toO_k6, toO_s1, toO_s2, toO_s3, toO_s4, toO_s6, rwO_c, rwO_g0, rwO_k0, rwO_g1, rwO_k1, rwO_g2, rwO_k2, rwO_g3, rwO_k3, rwO_g4, rwO_k4, rwO_g5, rwO_k5, rwO_g6, rwO_k6, rwO_s1, rwO_s2, rwO_s4, tkO_c, tkO_g0, tkO_k0, tkO_g1, tkO_k1, tkO_g2, tkO_k2, tkO_g3, tkO_k3, tkO_g4, tkO_k4, tkO_g5, tkO_k5, tkO_g6, tkO_k6, tkO_g7, tkO_k7, tkO_g8, tkO_k8, tkO_s1, tkO_s2, tkO_s3, tkO_s4, tkO_s5, tkO_s6, tkO_s7, tkO_s8, rdO_c, rdO_g0, rdO_k0, rdO_g1, rdO_k1, rdO_g2, rdO_k2, rdO_g3, rdO_k3, rdO_g4, rdO_k4, rdO_g5, rdO_k5, rdO_g6, rdO_k6, rdO_g7, rdO_k7, rdO_g8, rdO_k8, rdO_g9, rdO_k9, rdO_g10, rdO_k10, rdO_g11, rdO_k11, rdO_g12, rdO_k12, rdO_g13, rdO_k13, rdO_g14, rdO_k14, rdO_g15, rdO_k15, rdO_g16, rdO_k16, rdO_g17, rdO_k17, rdO_s2, rdO_s3, rdO_s4, rdO_s10, rdO_s11, rdO_s12, rdO_s13, rdO_s14, rdO_s15, rdO_s16, rdO_s17, kpO_c, kpO_g0, kpO_k0, kpO_g1, kpO_k1, kpO_g2, kpO_k2, kpO_g3, kpO_k3, kpO_g4, kpO_k4, kpO_g5, kpO_k5, kpO_g6, kpO_k6, kpO_s1, kpO_s2, kpO_s3, kpO_s4, beO_c, beO_g0, beO_k0, beO_g1, beO_k1, beO_g2, beO_k2, beO_g3, beO_k3, beO_g4, beO_k4, beO_s1, beO_s2, beO_s3, beO_s4, cmO_c, cmO_g0, cmO_k0, cmO_g1, cmO_k1, cmO_g2, cmO_k2, cmO_g3, cmO_k3, cmO_g4, cmO_k4, cmO_g5, cmO_k5, cmO_g6, cmO_k6, cmO_s0, cmO_s1, cmO_s2, cmO_s3, cmO_s4, cmO_s5, cmO_s6, dkO_c, dkO_g0, dkO_k0, dkO_g1, dkO_k1, dkO_g2, dkO_k2, dkO_s0, dkO_s1, dkO_s2, iup_s, iup_n, hp_up1, hp_upn, ne_eq, not_false_eq_true, sh_0, sh_1, sh_2, sh_3, sh_4, sh_5, sh_8, sh_15, sh_16, sh_24, Int.reducePow, Int.cast_ofNat_Int, w_of, wl_of, ltT, ltF, leT, leF, eqT, eqF, okF_0, okF_s, gF_0, gF_s, consC_o, sF_0, sF_s, clsO_o, inA_i, ldA_i, stA_i, inJ_l, ldJ_l, stJ_l, inR_r, ldR_r, stR_r, tgR_r, lenA_i, lenA_l, lenA_r, lenA_ex, nl_i, nl_o, nl_l, nl_n, wd_n, wd_i, wd_l, wd_o, fit_i, fit_l, fit_o, K_v, K_n, true_and, and_true, Nat.reduceAdd, Nat.reduceLeDiff, Nat.reduceEqDiff, Nat.reduceMul, Nat.reduceLT, reduceIte, true_or, or_true, cmp_lt, cmp_gt, cmp_eq, wb_0, b_01, cmp_lt', cmp_gt', cmp_eq', b_0, b_1, wb_1, Int.reduceSub, Int.reduceToNat, List.getD_cons_succ, List.getD_cons_zero, Int.reduceLE, Int.reduceLT, Int.reduceEq, Int.reduceNeg, Int.reduceAdd, Int.reduceMul, and_self, em_b, ne_eq, not_false_eq_true, not_true_eq_false]
      try rfl
    · rw [if_neg hw] at a4 ec
      obtain ⟨h', ca2, sky2, e2, c1, c2, c3, c4, c5, c6⟩ := ih (q + 1) h2 z (cenD x).2 dn e1 ca1 sky1 it1 (by omega) (by omega) (by omega) hF2 a3 a4 hTo2 v61b d4 v10
      rw [ec]
      refine ⟨h', ca2, sky2, e2, by omega, chg_t c12 c2, c3, c4, c5, fun d Q => ?_⟩
      rw [← c6 d Q]
      have a5' := fun (Q : PQ) => a5 d Q
      rw [e_126_38]
      simp (disch := omega) only [e_126_40, e_126_41, e_126_44, e_126_45, e_126_48, e_126_49, e_126_52, e_126_53, e_126_56, e_126_59, e_126_60, e_126_63, e_126_69, e_126_72, b1, n64, v61, h27, d5', w10, m1, g27, a5', eq1, true_and, bkO_c, bkO_g0, bkO_k0, bkO_g1, bkO_k1, bkO_g2, bkO_k2, bkO_g3, bkO_k3, bkO_g4, bkO_k4, bkO_g5, bkO_k5, bkO_g6, bkO_k6, bkO_g7, bkO_k7, bkO_g8, bkO_k8, bkO_g9, bkO_k9, bkO_g10, bkO_k10, bkO_g11, bkO_k11, bkO_g12, bkO_k12, bkO_g13, bkO_k13, bkO_g14, bkO_k14, bkO_g15, bkO_k15, bkO_g16, bkO_k16, bkO_g17, bkO_k17, bkO_s12, bkO_s16, bkO_s17, moO_c, moO_g0, moO_k0, moO_g1, moO_k1, moO_g2, moO_k2, moO_g3, moO_k3, moO_s0, moO_s1, moO_s2, moO_s3, hoO_c, hoO_g0, hoO_k0, hoO_g1, hoO_k1, hoO_g2, hoO_k2, hoO_g3, hoO_k3, hoO_g4, hoO_k4, hoO_g5, hoO_k5, hoO_g6, hoO_k6, hoO_g7, hoO_k7, hoO_g8, hoO_k8, hoO_g9, hoO_k9, hoO_s0, hoO_s1, hoO_s2, hoO_s9, toO_c, toO_g0, toO_k0, toO_g1, toO_k1, toO_g2, toO_k2, toO_g3, toO_k3, toO_g4, toO_k4, toO_g5, toO_k5, toO_g6, toO_k6, toO_s1, toO_s2, toO_s3, toO_s4, toO_s6, rwO_c, rwO_g0, rwO_k0, rwO_g1, rwO_k1, rwO_g2, rwO_k2, rwO_g3, rwO_k3, rwO_g4, rwO_k4, rwO_g5, rwO_k5, rwO_g6, rwO_k6, rwO_s1, rwO_s2, rwO_s4, tkO_c, tkO_g0, tkO_k0, tkO_g1, tkO_k1, tkO_g2, tkO_k2, tkO_g3, tkO_k3, tkO_g4, tkO_k4, tkO_g5, tkO_k5, tkO_g6, tkO_k6, tkO_g7, tkO_k7, tkO_g8, tkO_k8, tkO_s1, tkO_s2, tkO_s3, tkO_s4, tkO_s5, tkO_s6, tkO_s7, tkO_s8, rdO_c, rdO_g0, rdO_k0, rdO_g1, rdO_k1, rdO_g2, rdO_k2, rdO_g3, rdO_k3, rdO_g4, rdO_k4, rdO_g5, rdO_k5, rdO_g6, rdO_k6, rdO_g7, rdO_k7, rdO_g8, rdO_k8, rdO_g9, rdO_k9, rdO_g10, rdO_k10, rdO_g11, rdO_k11, rdO_g12, rdO_k12, rdO_g13, rdO_k13, rdO_g14, rdO_k14, rdO_g15, rdO_k15, rdO_g16, rdO_k16, rdO_g17, rdO_k17, rdO_s2, rdO_s3, rdO_s4, rdO_s10, rdO_s11, rdO_s12, rdO_s13, rdO_s14, rdO_s15, rdO_s16, rdO_s17, kpO_c, kpO_g0, kpO_k0, kpO_g1, kpO_k1, kpO_g2, kpO_k2, kpO_g3, kpO_k3, kpO_g4, kpO_k4, kpO_g5, kpO_k5, kpO_g6, kpO_k6, kpO_s1, kpO_s2, kpO_s3, kpO_s4, beO_c, beO_g0, beO_k0, beO_g1, beO_k1, beO_g2, beO_k2, beO_g3, beO_k3, beO_g4, beO_k4, beO_s1, beO_s2, beO_s3, beO_s4, cmO_c, cmO_g0, cmO_k0, cmO_g1, cmO_k1, cmO_g2, cmO_k2, cmO_g3, cmO_k3, cmO_g4, cmO_k4, cmO_g5, cmO_k5, cmO_g6, cmO_k6, cmO_s0, cmO_s1, cmO_s2, cmO_s3, cmO_s4, cmO_s5, cmO_s6, dkO_c, dkO_g0, dkO_k0, dkO_g1, dkO_k1, dkO_g2, dkO_k2, dkO_s0, dkO_s1, dkO_s2, iup_s, iup_n, hp_up1, hp_upn, ne_eq, not_false_eq_true, sh_0, sh_1, sh_2, sh_3, sh_4, sh_5, sh_8, sh_15, sh_16, sh_24, Int.reducePow, Int.cast_ofNat_Int, w_of, wl_of, ltT, ltF, leT, leF, eqT, eqF, okF_0, okF_s, gF_0, gF_s, consC_o, sF_0, sF_s, clsO_o, inA_i, ldA_i, stA_i, inJ_l, ldJ_l, stJ_l, inR_r, ldR_r, stR_r, tgR_r, lenA_i, lenA_l, lenA_r, lenA_ex, nl_i, nl_o, nl_l, nl_n, wd_n, wd_i, wd_l, wd_o, fit_i, fit_l, fit_o, K_v, K_n, true_and, and_true, Nat.reduceAdd, Nat.reduceLeDiff, Nat.reduceEqDiff, Nat.reduceMul, Nat.reduceLT, reduceIte, true_or, or_true, cmp_lt, cmp_gt, cmp_eq, wb_0, b_01, cmp_lt', cmp_gt', cmp_eq', b_0, b_1, wb_1, Int.reduceSub, Int.reduceToNat, List.getD_cons_succ, List.getD_cons_zero, Int.reduceLE, Int.reduceLT, Int.reduceEq, Int.reduceNeg, Int.reduceAdd, Int.reduceMul, and_self, em_b, ne_eq, not_false_eq_true, not_true_eq_false]
      try rfl
end parts
