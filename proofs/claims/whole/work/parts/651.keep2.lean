theorem k_lookLp {ow : Nat → Nat} {ca : Nat} {c : KC} {sky b n kA : Nat} {s : ST} {kn : Int → Int} {P : List ST} {lf x3 : Int} {cc wv : PV} {L : List (Nat × ST)} (hL : nx c sky s = L) (hO : okC c) (hs : okS c s) (hb : lfO lf b) (hI : knI c sky b kn P) (hn : szC c ≤ n) (hkA : kA ≠ 41) :
    ∀ (r j : Nat) (h : PH) (i : Nat → Int) (most : Nat) (o7 o8 : Option PV), j + r = L.length → owF ow h → KCty ow h ca c → spr h ca c L → hp h 41 = kpO i cc wv → hp h kA = aI 0 n kn → lkI c b kn L j most (i 4) → most ≤ 24000 →
    ∃ (v : Int) (i' : Nat → Int), lkR c b kn L v (i' 4) ∧ i' 2 = i 2 ∧ ∀ d Q, WP (d + 3) 54 16 [some (vr 41), some (vr 27), some (vr kA), some (vi x3), some (vi lf), some (vi most), some (vi j), o7, o8] [] h Q = Q (some (vi v)) (hup h 41 (kpO i' cc wv)) := by
  have hK := hO.1
  have h24 := szC_le hK
  intro r
  induction r with
  | zero =>
    intro j h i most o7 o8 hj hF hC hS h41 hkn hlk hm
    have hj' : j = L.length := by omega
    subst hj'
    obtain ⟨ii, f, g', a1, a2, a3, a4, a5⟩ := hS
    have hl := nx_len (sky := sky) hO hs
    rw [hL] at hl
    refine ⟨(most : Int) + 1, i, Or.inr ⟨most, rfl, hm, hlk⟩, rfl, fun d Q => ?_⟩
    rw [hup_self h41]
    rw [e_54_16]
    simp (disch := omega) only [e_54_18, e_54_19, e_54_22, e_54_113, e_54_115, e_54_116, e_54_117, a1, a2, kpO_c, kpO_g0, kpO_k0, kpO_g1, kpO_k1, kpO_s1, kpO_g2, kpO_k2, kpO_s2, kpO_g3, kpO_k3, kpO_s3, kpO_g4, kpO_k4, kpO_s4, kpO_g5, kpO_k5, kpO_g6, kpO_k6, dkO_c, dkO_g0, dkO_k0, dkO_s0, dkO_g1, dkO_k1, dkO_s1, dkO_g2, dkO_k2, dkO_s2, hoO_c, hoO_g0, hoO_k0, hoO_s0, hoO_g1, hoO_k1, hoO_s1, hoO_g2, hoO_k2, hoO_s2, hoO_g3, hoO_k3, hoO_g4, hoO_k4, hoO_g5, hoO_k5, hoO_g6, hoO_k6, hoO_g7, hoO_k7, hoO_g8, hoO_k8, hoO_g9, hoO_k9, hoO_s9, iup_s, iup_n, hp_up1, hp_upn, ne_eq, not_false_eq_true, sh_0, sh_1, sh_2, sh_3, sh_4, sh_5, sh_8, sh_15, sh_16, sh_24, Int.reducePow, Int.cast_ofNat_Int, w_of, wl_of, ltT, ltF, leT, leF, eqT, eqF, okF_0, okF_s, gF_0, gF_s, consC_o, sF_0, sF_s, clsO_o, inA_i, ldA_i, stA_i, inJ_l, ldJ_l, stJ_l, inR_r, ldR_r, stR_r, tgR_r, lenA_i, lenA_l, lenA_r, lenA_ex, nl_i, nl_o, nl_l, nl_n, wd_n, wd_i, wd_l, wd_o, fit_i, fit_l, fit_o, K_v, K_n, true_and, and_true, Nat.reduceAdd, Nat.reduceLeDiff, Nat.reduceEqDiff, Nat.reduceMul, Nat.reduceLT, reduceIte, true_or, or_true, cmp_lt, cmp_gt, cmp_eq, wb_0, b_01, cmp_lt', cmp_gt', cmp_eq', b_0, b_1, wb_1, Int.reduceSub, Int.reduceToNat, List.getD_cons_succ, List.getD_cons_zero, Int.reduceLE, Int.reduceLT, Int.reduceEq, Int.reduceNeg, Int.reduceAdd, Int.reduceMul, and_self, em_b, ne_eq, not_false_eq_true, not_true_eq_false]
    try rfl
  | succ r ih =>
    intro j h i most o7 o8 hj hF hC hS h41 hkn hlk hm
    have hS' := hS
    obtain ⟨ii, f, g', a1, a2, a3, a4, a5⟩ := hS
    have hl := nx_len (sky := sky) hO hs
    rw [hL] at hl
    have hx : L[j]? = some L[j] := List.getElem?_eq_getElem (by omega)
    generalize L[j] = x at hx
    obtain ⟨x1, x2⟩ := a5 j x hx
    have hxm : x ∈ nx c sky s := by rw [hL]; exact List.mem_of_getElem? hx
    have hxo := nx_ok hs hxm
    have hxl := encC_lt hK hxo
    have dn := fun (d : Nat) (Q : PQ) => c_isDown (d := d) (Q := Q) hK hC.1 hxo
    have nd := fun (d : Nat) (h : PH) (Q : PQ) => k_needs (d := d) (h := h) (Q := Q) (nx_deed3 hxm) hb
    have ej : (j : Int) + 1 = ((j + 1 : Nat) : Int) := by omega
    have hcn := hC.2.2.2.1
    obtain ⟨y4, y5, y6, y7, y8, y9, y10, y11, y14, y15, y17, hA⟩ := KCty_sz hC
    by_cases g1 : downB c x.2 = true
    · simp only [g1, if_true] at dn
      obtain ⟨v, i', b1, b2, b3⟩ := ih (j + 1) h i most (some (vi (encC c x.2))) o8 (by omega) hF hC hS' h41 hkn (lk_skip hlk hx (fun z => by have := z.1; rw [g1] at this; cases this)) hm
      refine ⟨v, i', b1, b2, fun d Q => ?_⟩
      rw [← b3 d Q]
      rw [e_54_16]
      simp (disch := omega) only [e_54_18, e_54_19, e_54_22, e_54_25, e_54_26, e_54_29, e_54_31, e_54_32, e_54_34, e_54_35, e_54_38, e_54_40, e_54_43, e_54_46, e_54_47, e_54_48, e_54_51, e_54_53, e_54_54, e_54_56, e_54_59, e_54_62, e_54_65, e_54_66, e_54_68, e_54_69, e_54_71, e_54_73, e_54_74, e_54_77, e_54_79, e_54_81, e_54_84, e_54_86, e_54_87, e_54_89, e_54_92, e_54_93, e_54_95, e_54_98, e_54_100, e_54_102, e_54_105, e_54_107, e_54_110, hA, true_and, a1, a2, a4, x2, dn, ej, kpO_c, kpO_g0, kpO_k0, kpO_g1, kpO_k1, kpO_s1, kpO_g2, kpO_k2, kpO_s2, kpO_g3, kpO_k3, kpO_s3, kpO_g4, kpO_k4, kpO_s4, kpO_g5, kpO_k5, kpO_g6, kpO_k6, dkO_c, dkO_g0, dkO_k0, dkO_s0, dkO_g1, dkO_k1, dkO_s1, dkO_g2, dkO_k2, dkO_s2, hoO_c, hoO_g0, hoO_k0, hoO_s0, hoO_g1, hoO_k1, hoO_s1, hoO_g2, hoO_k2, hoO_s2, hoO_g3, hoO_k3, hoO_g4, hoO_k4, hoO_g5, hoO_k5, hoO_g6, hoO_k6, hoO_g7, hoO_k7, hoO_g8, hoO_k8, hoO_g9, hoO_k9, hoO_s9, iup_s, iup_n, hp_up1, hp_upn, ne_eq, not_false_eq_true, sh_0, sh_1, sh_2, sh_3, sh_4, sh_5, sh_8, sh_15, sh_16, sh_24, Int.reducePow, Int.cast_ofNat_Int, w_of, wl_of, ltT, ltF, leT, leF, eqT, eqF, okF_0, okF_s, gF_0, gF_s, consC_o, sF_0, sF_s, clsO_o, inA_i, ldA_i, stA_i, inJ_l, ldJ_l, stJ_l, inR_r, ldR_r, stR_r, tgR_r, lenA_i, lenA_l, lenA_r, lenA_ex, nl_i, nl_o, nl_l, nl_n, wd_n, wd_i, wd_l, wd_o, fit_i, fit_l, fit_o, K_v, K_n, true_and, and_true, Nat.reduceAdd, Nat.reduceLeDiff, Nat.reduceEqDiff, Nat.reduceMul, Nat.reduceLT, reduceIte, true_or, or_true, cmp_lt, cmp_gt, cmp_eq, wb_0, b_01, cmp_lt', cmp_gt', cmp_eq', b_0, b_1, wb_1, Int.reduceSub, Int.reduceToNat, List.getD_cons_succ, List.getD_cons_zero, Int.reduceLE, Int.reduceLT, Int.reduceEq, Int.reduceNeg, Int.reduceAdd, Int.reduceMul, and_self, em_b, ne_eq, not_false_eq_true, not_true_eq_false]
      try rfl
    · have g1' : downB c x.2 = false := by simpa using g1
      simp only [g1', if_false, Bool.false_eq_true] at dn
      by_cases g2 : needB x.1 b = true
      · simp only [g2, if_true] at nd
        obtain ⟨v, i', b1, b2, b3⟩ := ih (j + 1) h i most (some (vi (encC c x.2))) o8 (by omega) hF hC hS' h41 hkn (lk_skip hlk hx (fun z => by have := z.2; rw [g2] at this; cases this)) hm
        refine ⟨v, i', b1, b2, fun d Q => ?_⟩
        rw [← b3 d Q]
        rw [e_54_16]
        simp (disch := omega) only [e_54_18, e_54_19, e_54_22, e_54_25, e_54_26, e_54_29, e_54_31, e_54_32, e_54_34, e_54_35, e_54_38, e_54_40, e_54_43, e_54_46, e_54_47, e_54_48, e_54_51, e_54_53, e_54_54, e_54_56, e_54_59, e_54_62, e_54_65, e_54_66, e_54_68, e_54_69, e_54_71, e_54_73, e_54_74, e_54_77, e_54_79, e_54_81, e_54_84, e_54_86, e_54_87, e_54_89, e_54_92, e_54_93, e_54_95, e_54_98, e_54_100, e_54_102, e_54_105, e_54_107, e_54_110, hA, true_and, a1, a2, a3, a4, x1, x2, dn, nd, ej, h41, kpO_c, kpO_g0, kpO_k0, kpO_g1, kpO_k1, kpO_s1, kpO_g2, kpO_k2, kpO_s2, kpO_g3, kpO_k3, kpO_s3, kpO_g4, kpO_k4, kpO_s4, kpO_g5, kpO_k5, kpO_g6, kpO_k6, dkO_c, dkO_g0, dkO_k0, dkO_s0, dkO_g1, dkO_k1, dkO_s1, dkO_g2, dkO_k2, dkO_s2, hoO_c, hoO_g0, hoO_k0, hoO_s0, hoO_g1, hoO_k1, hoO_s1, hoO_g2, hoO_k2, hoO_s2, hoO_g3, hoO_k3, hoO_g4, hoO_k4, hoO_g5, hoO_k5, hoO_g6, hoO_k6, hoO_g7, hoO_k7, hoO_g8, hoO_k8, hoO_g9, hoO_k9, hoO_s9, iup_s, iup_n, hp_up1, hp_upn, ne_eq, not_false_eq_true, sh_0, sh_1, sh_2, sh_3, sh_4, sh_5, sh_8, sh_15, sh_16, sh_24, Int.reducePow, Int.cast_ofNat_Int, w_of, wl_of, ltT, ltF, leT, leF, eqT, eqF, okF_0, okF_s, gF_0, gF_s, consC_o, sF_0, sF_s, clsO_o, inA_i, ldA_i, stA_i, inJ_l, ldJ_l, stJ_l, inR_r, ldR_r, stR_r, tgR_r, lenA_i, lenA_l, lenA_r, lenA_ex, nl_i, nl_o, nl_l, nl_n, wd_n, wd_i, wd_l, wd_o, fit_i, fit_l, fit_o, K_v, K_n, true_and, and_true, Nat.reduceAdd, Nat.reduceLeDiff, Nat.reduceEqDiff, Nat.reduceMul, Nat.reduceLT, reduceIte, true_or, or_true, cmp_lt, cmp_gt, cmp_eq, wb_0, b_01, cmp_lt', cmp_gt', cmp_eq', b_0, b_1, wb_1, Int.reduceSub, Int.reduceToNat, List.getD_cons_succ, List.getD_cons_zero, Int.reduceLE, Int.reduceLT, Int.reduceEq, Int.reduceNeg, Int.reduceAdd, Int.reduceMul, and_self, em_b, ne_eq, not_false_eq_true, not_true_eq_false]
        try rfl
      · have g2' : needB x.1 b = false := by simpa using g2
        simp only [g2', if_false, Bool.false_eq_true] at nd
        have hg : gdX c b x := ⟨g1', g2'⟩
        have rng := kn_rng hK hI hxo
        by_cases k1 : kn (encC c x.2) = -1
        · refine ⟨2147483647, i, Or.inl ⟨rfl, x, List.mem_of_getElem? hx, hg, Or.inl k1⟩, rfl, fun d Q => ?_⟩
          rw [hup_self h41]
          rw [e_54_16]
          simp (disch := omega) only [e_54_18, e_54_19, e_54_22, e_54_25, e_54_26, e_54_29, e_54_31, e_54_32, e_54_34, e_54_35, e_54_38, e_54_40, e_54_43, e_54_46, e_54_47, e_54_48, e_54_51, e_54_53, e_54_54, e_54_56, e_54_59, e_54_62, e_54_65, e_54_66, e_54_68, e_54_69, e_54_71, e_54_73, e_54_74, e_54_77, e_54_79, e_54_81, e_54_84, e_54_86, hA, true_and, a1, a2, a3, a4, x1, x2, dn, nd, hkn, k1, h41, kpO_c, kpO_g0, kpO_k0, kpO_g1, kpO_k1, kpO_s1, kpO_g2, kpO_k2, kpO_s2, kpO_g3, kpO_k3, kpO_s3, kpO_g4, kpO_k4, kpO_s4, kpO_g5, kpO_k5, kpO_g6, kpO_k6, dkO_c, dkO_g0, dkO_k0, dkO_s0, dkO_g1, dkO_k1, dkO_s1, dkO_g2, dkO_k2, dkO_s2, hoO_c, hoO_g0, hoO_k0, hoO_s0, hoO_g1, hoO_k1, hoO_s1, hoO_g2, hoO_k2, hoO_s2, hoO_g3, hoO_k3, hoO_g4, hoO_k4, hoO_g5, hoO_k5, hoO_g6, hoO_k6, hoO_g7, hoO_k7, hoO_g8, hoO_k8, hoO_g9, hoO_k9, hoO_s9, iup_s, iup_n, hp_up1, hp_upn, ne_eq, not_false_eq_true, sh_0, sh_1, sh_2, sh_3, sh_4, sh_5, sh_8, sh_15, sh_16, sh_24, Int.reducePow, Int.cast_ofNat_Int, w_of, wl_of, ltT, ltF, leT, leF, eqT, eqF, okF_0, okF_s, gF_0, gF_s, consC_o, sF_0, sF_s, clsO_o, inA_i, ldA_i, stA_i, inJ_l, ldJ_l, stJ_l, inR_r, ldR_r, stR_r, tgR_r, lenA_i, lenA_l, lenA_r, lenA_ex, nl_i, nl_o, nl_l, nl_n, wd_n, wd_i, wd_l, wd_o, fit_i, fit_l, fit_o, K_v, K_n, true_and, and_true, Nat.reduceAdd, Nat.reduceLeDiff, Nat.reduceEqDiff, Nat.reduceMul, Nat.reduceLT, reduceIte, true_or, or_true, cmp_lt, cmp_gt, cmp_eq, wb_0, b_01, cmp_lt', cmp_gt', cmp_eq', b_0, b_1, wb_1, Int.reduceSub, Int.reduceToNat, List.getD_cons_succ, List.getD_cons_zero, Int.reduceLE, Int.reduceLT, Int.reduceEq, Int.reduceNeg, Int.reduceAdd, Int.reduceMul, and_self, em_b, ne_eq, not_false_eq_true, not_true_eq_false]
          try rfl
        · by_cases k2 : kn (encC c x.2) = 2147483647
          · refine ⟨2147483647, i, Or.inl ⟨rfl, x, List.mem_of_getElem? hx, hg, Or.inr k2⟩, rfl, fun d Q => ?_⟩
            rw [hup_self h41]
            rw [e_54_16]
            simp (disch := omega) only [e_54_18, e_54_19, e_54_22, e_54_25, e_54_26, e_54_29, e_54_31, e_54_32, e_54_34, e_54_35, e_54_38, e_54_40, e_54_43, e_54_46, e_54_47, e_54_48, e_54_51, e_54_53, e_54_54, e_54_56, e_54_59, e_54_62, e_54_65, e_54_66, e_54_68, e_54_69, e_54_71, e_54_73, e_54_74, e_54_77, e_54_79, e_54_81, e_54_84, e_54_86, hA, true_and, a1, a2, a3, a4, x1, x2, dn, nd, hkn, k2, h41, kpO_c, kpO_g0, kpO_k0, kpO_g1, kpO_k1, kpO_s1, kpO_g2, kpO_k2, kpO_s2, kpO_g3, kpO_k3, kpO_s3, kpO_g4, kpO_k4, kpO_s4, kpO_g5, kpO_k5, kpO_g6, kpO_k6, dkO_c, dkO_g0, dkO_k0, dkO_s0, dkO_g1, dkO_k1, dkO_s1, dkO_g2, dkO_k2, dkO_s2, hoO_c, hoO_g0, hoO_k0, hoO_s0, hoO_g1, hoO_k1, hoO_s1, hoO_g2, hoO_k2, hoO_s2, hoO_g3, hoO_k3, hoO_g4, hoO_k4, hoO_g5, hoO_k5, hoO_g6, hoO_k6, hoO_g7, hoO_k7, hoO_g8, hoO_k8, hoO_g9, hoO_k9, hoO_s9, iup_s, iup_n, hp_up1, hp_upn, ne_eq, not_false_eq_true, sh_0, sh_1, sh_2, sh_3, sh_4, sh_5, sh_8, sh_15, sh_16, sh_24, Int.reducePow, Int.cast_ofNat_Int, w_of, wl_of, ltT, ltF, leT, leF, eqT, eqF, okF_0, okF_s, gF_0, gF_s, consC_o, sF_0, sF_s, clsO_o, inA_i, ldA_i, stA_i, inJ_l, ldJ_l, stJ_l, inR_r, ldR_r, stR_r, tgR_r, lenA_i, lenA_l, lenA_r, lenA_ex, nl_i, nl_o, nl_l, nl_n, wd_n, wd_i, wd_l, wd_o, fit_i, fit_l, fit_o, K_v, K_n, true_and, and_true, Nat.reduceAdd, Nat.reduceLeDiff, Nat.reduceEqDiff, Nat.reduceMul, Nat.reduceLT, reduceIte, true_or, or_true, cmp_lt, cmp_gt, cmp_eq, wb_0, b_01, cmp_lt', cmp_gt', cmp_eq', b_0, b_1, wb_1, Int.reduceSub, Int.reduceToNat, List.getD_cons_succ, List.getD_cons_zero, Int.reduceLE, Int.reduceLT, Int.reduceEq, Int.reduceNeg, Int.reduceAdd, Int.reduceMul, and_self, em_b, ne_eq, not_false_eq_true, not_true_eq_false]
            try rfl
          · obtain ⟨v, hv⟩ : ∃ v : Nat, kn (encC c x.2) = (v : Int) := ⟨(kn (encC c x.2)).toNat, by omega⟩
            rw [hv] at k1 k2 rng
            have v24 : v ≤ 24000 := by omega
            have st := lk_step hlk hx hg hv v24
            have em : (if (most : Int) < (v : Int) then (v : Int) else (most : Int)) = ((if most < v then v else most : Nat) : Int) := by split <;> split <;> omega
            have hm' : (if most < v then v else most) ≤ 24000 := by split <;> omega
            by_cases v0 : v = 0
            · rw [if_pos v0] at st
              have hch : chg ow [4] h (hup h 41 (kpO (iup i 4 (encC c x.2)) cc wv)) := chg_up (hF.2 41 (by have := hF.1; omega)) (by decide)
              obtain ⟨u, i', b1, b2, b3⟩ := ih (j + 1) (hup h 41 (kpO (iup i 4 (encC c x.2)) cc wv)) (iup i 4 (encC c x.2)) (if most < v then v else most) (some (vi (encC c x.2))) (some (vi v)) (by omega) (chg_F hch hF) (KCty_c hch (by decide) hC) (spr_c hF hch (by decide) hS') hp_up1 (by rw [hp_upn hkA]; exact hkn) (by rw [iup_s]; exact st) hm'
              refine ⟨u, i', b1, by rw [b2, iup_n (by omega)], fun d Q => ?_⟩
              have b3' := b3 d Q
              rw [hup_tt] at b3'
              rw [← b3']
              subst v0
              rw [nc0] at hv
              rw [show (if most < 0 then 0 else most) = most from if_neg (by omega)]
              rw [e_54_16]
              simp (disch := omega) only [e_54_18, e_54_19, e_54_22, e_54_25, e_54_26, e_54_29, e_54_31, e_54_32, e_54_34, e_54_35, e_54_38, e_54_40, e_54_43, e_54_46, e_54_47, e_54_48, e_54_51, e_54_53, e_54_54, e_54_56, e_54_59, e_54_62, e_54_65, e_54_66, e_54_68, e_54_69, e_54_71, e_54_73, e_54_74, e_54_77, e_54_79, e_54_81, e_54_84, e_54_86, e_54_87, e_54_89, e_54_92, e_54_93, e_54_95, e_54_98, e_54_100, e_54_102, e_54_105, e_54_107, e_54_110, hA, true_and, a1, a2, a3, a4, x1, x2, dn, nd, hkn, hv, h41, ej, m_max, nc0, kpO_c, kpO_g0, kpO_k0, kpO_g1, kpO_k1, kpO_s1, kpO_g2, kpO_k2, kpO_s2, kpO_g3, kpO_k3, kpO_s3, kpO_g4, kpO_k4, kpO_s4, kpO_g5, kpO_k5, kpO_g6, kpO_k6, dkO_c, dkO_g0, dkO_k0, dkO_s0, dkO_g1, dkO_k1, dkO_s1, dkO_g2, dkO_k2, dkO_s2, hoO_c, hoO_g0, hoO_k0, hoO_s0, hoO_g1, hoO_k1, hoO_s1, hoO_g2, hoO_k2, hoO_s2, hoO_g3, hoO_k3, hoO_g4, hoO_k4, hoO_g5, hoO_k5, hoO_g6, hoO_k6, hoO_g7, hoO_k7, hoO_g8, hoO_k8, hoO_g9, hoO_k9, hoO_s9, iup_s, iup_n, hp_up1, hp_upn, ne_eq, not_false_eq_true, sh_0, sh_1, sh_2, sh_3, sh_4, sh_5, sh_8, sh_15, sh_16, sh_24, Int.reducePow, Int.cast_ofNat_Int, w_of, wl_of, ltT, ltF, leT, leF, eqT, eqF, okF_0, okF_s, gF_0, gF_s, consC_o, sF_0, sF_s, clsO_o, inA_i, ldA_i, stA_i, inJ_l, ldJ_l, stJ_l, inR_r, ldR_r, stR_r, tgR_r, lenA_i, lenA_l, lenA_r, lenA_ex, nl_i, nl_o, nl_l, nl_n, wd_n, wd_i, wd_l, wd_o, fit_i, fit_l, fit_o, K_v, K_n, true_and, and_true, Nat.reduceAdd, Nat.reduceLeDiff, Nat.reduceEqDiff, Nat.reduceMul, Nat.reduceLT, reduceIte, true_or, or_true, cmp_lt, cmp_gt, cmp_eq, wb_0, b_01, cmp_lt', cmp_gt', cmp_eq', b_0, b_1, wb_1, Int.reduceSub, Int.reduceToNat, List.getD_cons_succ, List.getD_cons_zero, Int.reduceLE, Int.reduceLT, Int.reduceEq, Int.reduceNeg, Int.reduceAdd, Int.reduceMul, and_self, em_b, ne_eq, not_false_eq_true, not_true_eq_false]
              try rfl
            · rw [if_neg v0] at st
              obtain ⟨u, i', b1, b2, b3⟩ := ih (j + 1) h i (if most < v then v else most) (some (vi (encC c x.2))) (some (vi v)) (by omega) hF hC hS' h41 hkn st hm'
              refine ⟨u, i', b1, b2, fun d Q => ?_⟩
              rw [← b3 d Q]
              rw [e_54_16]
              simp (disch := omega) only [e_54_18, e_54_19, e_54_22, e_54_25, e_54_26, e_54_29, e_54_31, e_54_32, e_54_34, e_54_35, e_54_38, e_54_40, e_54_43, e_54_46, e_54_47, e_54_48, e_54_51, e_54_53, e_54_54, e_54_56, e_54_59, e_54_62, e_54_65, e_54_66, e_54_68, e_54_69, e_54_71, e_54_73, e_54_74, e_54_77, e_54_79, e_54_81, e_54_84, e_54_86, e_54_87, e_54_89, e_54_92, e_54_93, e_54_95, e_54_98, e_54_100, e_54_102, e_54_105, e_54_107, e_54_110, hA, true_and, a1, a2, a3, a4, x1, x2, dn, nd, hkn, hv, h41, ej, m_max, em, kpO_c, kpO_g0, kpO_k0, kpO_g1, kpO_k1, kpO_s1, kpO_g2, kpO_k2, kpO_s2, kpO_g3, kpO_k3, kpO_s3, kpO_g4, kpO_k4, kpO_s4, kpO_g5, kpO_k5, kpO_g6, kpO_k6, dkO_c, dkO_g0, dkO_k0, dkO_s0, dkO_g1, dkO_k1, dkO_s1, dkO_g2, dkO_k2, dkO_s2, hoO_c, hoO_g0, hoO_k0, hoO_s0, hoO_g1, hoO_k1, hoO_s1, hoO_g2, hoO_k2, hoO_s2, hoO_g3, hoO_k3, hoO_g4, hoO_k4, hoO_g5, hoO_k5, hoO_g6, hoO_k6, hoO_g7, hoO_k7, hoO_g8, hoO_k8, hoO_g9, hoO_k9, hoO_s9, iup_s, iup_n, hp_up1, hp_upn, ne_eq, not_false_eq_true, sh_0, sh_1, sh_2, sh_3, sh_4, sh_5, sh_8, sh_15, sh_16, sh_24, Int.reducePow, Int.cast_ofNat_Int, w_of, wl_of, ltT, ltF, leT, leF, eqT, eqF, okF_0, okF_s, gF_0, gF_s, consC_o, sF_0, sF_s, clsO_o, inA_i, ldA_i, stA_i, inJ_l, ldJ_l, stJ_l, inR_r, ldR_r, stR_r, tgR_r, lenA_i, lenA_l, lenA_r, lenA_ex, nl_i, nl_o, nl_l, nl_n, wd_n, wd_i, wd_l, wd_o, fit_i, fit_l, fit_o, K_v, K_n, true_and, and_true, Nat.reduceAdd, Nat.reduceLeDiff, Nat.reduceEqDiff, Nat.reduceMul, Nat.reduceLT, reduceIte, true_or, or_true, cmp_lt, cmp_gt, cmp_eq, wb_0, b_01, cmp_lt', cmp_gt', cmp_eq', b_0, b_1, wb_1, Int.reduceSub, Int.reduceToNat, List.getD_cons_succ, List.getD_cons_zero, Int.reduceLE, Int.reduceLT, Int.reduceEq, Int.reduceNeg, Int.reduceAdd, Int.reduceMul, and_self, em_b, ne_eq, not_false_eq_true, not_true_eq_false]
              try rfl
