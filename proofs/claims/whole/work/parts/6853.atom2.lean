/-! READING LAWS: atoms, all together -/
section jl
variable {b : List Int} {n l deep : Nat}
theorem J_atom {FS GS FT GT K : Nat} {WS WT : List Int → Prop} (hnb : n ≤ b.length) (hb9 : b.length ≤ 900) (hl : l < 2) (hF : 7 ≤ FS) (hFT : 7 ≤ FT) (hG : 8 ≤ GS) (hGT : GT ≤ GS) (hK : 1 ≤ K) (hdp : deep ≤ 6) (hSF : FS ≤ FT)
    (hsm : deep < 6 → ∀ s, okq n s → JN b n l 73 [none, none] FS 184 [none] GS WS (deep + 1) s) (htr : deep < 6 → ∀ s, okq n s → JN b n l 70 [none] FT 187 [] GT WT (deep + 1) s) (hW : ∀ L1 L2 L3, WT L1 → WS L2 → WS L3 → wfS K false (L1 ++ L2 ++ L3 ++ [1019])) (hWS : ∀ L, WS L → wfS K false L) : ∀ s, okq n s → JN b n l 75 [none] (FT + 1) 181 [] (GS + 2) (wfS K false) deep s := by
  intro s hq
  by_cases hB : isB b n s 30 = true
  · obtain ⟨q, rfl, hk⟩ := isB_t hB
    have hqn := hq q rfl
    have hlt := tkE_lt hqn (show tkK b n q ≠ 32 by omega)
    have hle := (tkE_le (b := b) hqn).2
    have h33 : tkK b n q ≠ 33 := by omega
    obtain ⟨v1, v2⟩ := tkV_b hqn hk
    refine ⟨.inl (tkE b n q), [tkV b n q], ⟨fun q' e => by cases e; exact ⟨q, rfl, by show q + 1 ≤ _; omega, hle⟩, fun x e => by cases e⟩, fun _ => wf_num hK v1 v2, fun h i j A C hX hT hc hcd hC hj => ?_, fun h i A C m hX hT hr hcd hC hi => ?_⟩
    · have hal : alC b n (.inl q) := ⟨q, rfl, h33⟩
      have hCq := hC q rfl
      rw [nrm_ok h33] at hc
      have c5 : i 5 = 30 := by rw [hc.2.2.2.2.2.1]; exact hk
      have c6 : i 6 = tkV b n q := hc.2.2.2.2.2.2.2.2 hk
      obtain ⟨j1, A1, d1, d2, d3, d4⟩ := C_em (h := h) (i := i) (o := tkV b n q) hcd (fun _ => by omega)
      obtain ⟨i1, a1, a2, a3⟩ := C_st1 (h := h) (j := j1) hX (tapC_fr hT d3) hnb hc
      refine ⟨i1, j1, A1, a1, ⟨d1.1, fun _ => d1.2 hal⟩, a2, d2, d3, fun d Q hd => ?_⟩
      obtain ⟨d', rfl⟩ : ∃ d', d = d' + 1 := ⟨d - 1, by omega⟩
      simp (disch := omega) only [e_75_0, e_75_1, e_75_4, e_75_7, e_75_9, e_75_12, e_75_13, e_75_14, e_75_17, e_75_20, e_75_23, e_75_24, e_75_27, e_75_30, e_75_192, c5, c6, a3, d4, true_and, tkO_c, tkO_g0, tkO_k0, tkO_g1, tkO_k1, tkO_g2, tkO_k2, tkO_g3, tkO_k3, tkO_g4, tkO_k4, tkO_g5, tkO_k5, tkO_g6, tkO_k6, tkO_g7, tkO_k7, tkO_g8, tkO_k8, tkO_s1, tkO_s2, tkO_s3, tkO_s4, tkO_s5, tkO_s6, tkO_s7, tkO_s8, rdO_c, rdO_g0, rdO_k0, rdO_g1, rdO_k1, rdO_g2, rdO_k2, rdO_g3, rdO_k3, rdO_g4, rdO_k4, rdO_g5, rdO_k5, rdO_g6, rdO_k6, rdO_g7, rdO_k7, rdO_g8, rdO_k8, rdO_g9, rdO_k9, rdO_g10, rdO_k10, rdO_g11, rdO_k11, rdO_g12, rdO_k12, rdO_g13, rdO_k13, rdO_g14, rdO_k14, rdO_g15, rdO_k15, rdO_g16, rdO_k16, rdO_g17, rdO_k17, rdO_s2, rdO_s3, rdO_s4, rdO_s10, rdO_s11, rdO_s12, rdO_s13, rdO_s14, rdO_s15, rdO_s16, rdO_s17, rh_1, rh_2, rh_g11, rh_g12, rh_g13, rh_g14, rh_g15, rh_g16, rh_g17, rh_g18, rh_g19, rh_out, rh_u11, rh_u12, rh_u13, rh_u14, rh_u15, rh_u16, rh_u17, rh_u18, rh_u19, iup_s, iup_n, aup_s, aup_n, ne_eq, not_false_eq_true, sh_0, sh_1, sh_2, sh_3, sh_4, sh_5, sh_8, sh_15, sh_16, sh_24, Int.reducePow, Int.cast_ofNat_Int, w_of, wl_of, ltT, ltF, leT, leF, eqT, eqF, okF_0, okF_s, gF_0, gF_s, consC_o, sF_0, sF_s, clsO_o, inA_i, ldA_i, stA_i, inJ_l, ldJ_l, stJ_l, inR_r, ldR_r, stR_r, tgR_r, lenA_i, lenA_l, lenA_r, lenA_ex, nl_i, nl_o, nl_l, nl_n, wd_n, wd_i, wd_l, wd_o, fit_i, fit_l, fit_o, K_v, K_n, true_and, and_true, Nat.reduceAdd, Nat.reduceLeDiff, Nat.reduceEqDiff, Nat.reduceMul, Nat.reduceLT, reduceIte, true_or, or_true, cmp_lt, cmp_gt, cmp_eq, wb_0, b_01, cmp_lt', cmp_gt', cmp_eq', b_0, b_1, wb_1, Int.reduceSub, Int.reduceToNat, List.getD_cons_succ, List.getD_cons_zero, Int.reduceLE, Int.reduceLT, Int.reduceEq, Int.reduceNeg, Int.reduceAdd, Int.reduceMul, and_self, em_b, ne_eq, not_false_eq_true, not_true_eq_false]
      try rfl
    · have hCq := hC q rfl
      have is := r_is (h := h) (A := A) (kd := 30) (by decide) hr
      rw [if_pos hB, show rkK 30 = 23 from rfl] at is
      have c10 : i 10 = tkV b n q := hr.2.2.2.2.2.2 hk
      obtain ⟨A1, d1, d2, d3⟩ := R_co (h := h) (l := l) (o := tkV b n q) (v := tkV b n q) (by unfold trO; rw [if_pos (by omega)]) hr (fun z => ⟨hcd z, by omega⟩)
      obtain ⟨i1, a1, a2, a3⟩ := R_nx1 (h := h) (A := A1) hX (tapM_fr hT d2) hnb hr
      refine ⟨i1, A1, a1, fun _ => d1 ⟨q, rfl⟩, a2, d2, fun d Q hd => ?_⟩
      obtain ⟨d', rfl⟩ : ∃ d', d = d' + 1 := ⟨d - 1, by omega⟩
      simp (disch := omega) only [e_181_0, e_181_1, e_181_3, e_181_6, e_181_9, e_181_10, e_181_11, e_181_14, e_181_17, e_181_18, e_181_21, e_181_130, is, c10, a3, d3, true_and, mdO_c, mdO_g0, mdO_k0, mdO_g1, mdO_k1, mdO_g2, mdO_k2, mdO_g3, mdO_k3, mdO_g4, mdO_k4, mdO_g5, mdO_k5, mdO_g6, mdO_k6, mdO_g7, mdO_k7, mdO_g8, mdO_k8, mdO_g9, mdO_k9, mdO_g10, mdO_k10, mdO_g11, mdO_k11, mdO_g12, mdO_k12, mdO_g13, mdO_k13, mdO_g14, mdO_k14, mdO_g15, mdO_k15, mdO_g16, mdO_k16, mdO_g17, mdO_k17, mdO_g18, mdO_k18, mdO_g19, mdO_k19, mdO_g20, mdO_k20, mdO_g21, mdO_k21, mdO_g22, mdO_k22, mdO_g23, mdO_k23, mdO_g24, mdO_k24, mdO_g25, mdO_k25, mdO_g26, mdO_k26, mdO_g27, mdO_k27, mdO_g28, mdO_k28, mdO_g29, mdO_k29, mdO_g30, mdO_k30, mdO_g31, mdO_k31, mdO_g32, mdO_k32, mdO_g33, mdO_k33, mdO_g34, mdO_k34, mdO_g35, mdO_k35, mdO_s0, mdO_s5, mdO_s6, mdO_s7, mdO_s8, mdO_s9, mdO_s10, mdO_s11, mdO_s12, mdO_s13, mdO_s14, mdO_s15, mdO_s19, mdO_s20, mdO_s25, mdO_s26, mdO_s31, mdO_s32, md_1, md_2, md_g71, md_g72, md_g73, md_g74, md_g75, md_g76, md_g77, md_g78, md_g79, md_g80, md_g81, md_g82, md_g83, md_g84, md_g85, md_g86, md_g87, md_g88, md_g89, md_out, md_u71, md_u72, md_u73, md_u74, md_u75, md_u76, md_u77, md_u78, md_u79, md_u80, md_u81, md_u82, md_u83, md_u84, md_u85, md_u86, md_u87, md_u88, md_u89, md_uo, iup_s, iup_n, aup_s, aup_n, ne_eq, not_false_eq_true, sh_0, sh_1, sh_2, sh_3, sh_4, sh_5, sh_8, sh_15, sh_16, sh_24, Int.reducePow, Int.cast_ofNat_Int, w_of, wl_of, ltT, ltF, leT, leF, eqT, eqF, okF_0, okF_s, gF_0, gF_s, consC_o, sF_0, sF_s, clsO_o, inA_i, ldA_i, stA_i, inJ_l, ldJ_l, stJ_l, inR_r, ldR_r, stR_r, tgR_r, lenA_i, lenA_l, lenA_r, lenA_ex, nl_i, nl_o, nl_l, nl_n, wd_n, wd_i, wd_l, wd_o, fit_i, fit_l, fit_o, K_v, K_n, true_and, and_true, Nat.reduceAdd, Nat.reduceLeDiff, Nat.reduceEqDiff, Nat.reduceMul, Nat.reduceLT, reduceIte, true_or, or_true, cmp_lt, cmp_gt, cmp_eq, wb_0, b_01, cmp_lt', cmp_gt', cmp_eq', b_0, b_1, wb_1, Int.reduceSub, Int.reduceToNat, List.getD_cons_succ, List.getD_cons_zero, Int.reduceLE, Int.reduceLT, Int.reduceEq, Int.reduceNeg, Int.reduceAdd, Int.reduceMul, and_self, em_b, ne_eq, not_false_eq_true, not_true_eq_false]
      try rfl
  · by_cases hBo : isB b n s 40 = true
    · obtain ⟨q, rfl, hk⟩ := isB_t hBo
      have hqn := hq q rfl
      have hlt := tkE_lt hqn (show tkK b n q ≠ 32 by omega)
      have hle := (tkE_le (b := b) hqn).2
      have h33 : tkK b n q ≠ 33 := by omega
      have ew : fctR l 40 = -1 := fctR_n (by unfold fctK; repeat' (rw [if_neg (by omega)]))
      by_cases h6 : deep = 6
      · refine ⟨rfS b n 4 (.inl q), [], rf_prg, fun z => absurd z rf_no, fun h i j A C hX hT hc hcd hC hj => ?_, fun h i A C m hX hT hr hcd hC hi => ?_⟩
        · rw [nrm_ok h33] at hc
          have c5 : i 5 = 40 := by rw [hc.2.2.2.2.2.1]; exact hk
          obtain ⟨i1, a1, a2, a3⟩ := C_deep (h := h) (j := j) (deep := deep) hX hT hnb hdp h33 hc
          rw [if_pos h6] at a1 a3
          refine ⟨i1, j, A, a1, ⟨hcd.1, fun z => absurd (alC_R z) rf_no⟩, a2, frI_r, frA_r, fun d Q hd => ?_⟩
          obtain ⟨d', rfl⟩ : ∃ d', d = d' + 1 := ⟨d - 1, by omega⟩
          simp (disch := omega) only [e_75_0, e_75_1, e_75_4, e_75_7, e_75_9, e_75_33, e_75_34, e_75_37, e_75_40, e_75_42, e_75_45, e_75_46, e_75_47, e_75_50, e_75_192, c5, a3, true_and, tkO_c, tkO_g0, tkO_k0, tkO_g1, tkO_k1, tkO_g2, tkO_k2, tkO_g3, tkO_k3, tkO_g4, tkO_k4, tkO_g5, tkO_k5, tkO_g6, tkO_k6, tkO_g7, tkO_k7, tkO_g8, tkO_k8, tkO_s1, tkO_s2, tkO_s3, tkO_s4, tkO_s5, tkO_s6, tkO_s7, tkO_s8, rdO_c, rdO_g0, rdO_k0, rdO_g1, rdO_k1, rdO_g2, rdO_k2, rdO_g3, rdO_k3, rdO_g4, rdO_k4, rdO_g5, rdO_k5, rdO_g6, rdO_k6, rdO_g7, rdO_k7, rdO_g8, rdO_k8, rdO_g9, rdO_k9, rdO_g10, rdO_k10, rdO_g11, rdO_k11, rdO_g12, rdO_k12, rdO_g13, rdO_k13, rdO_g14, rdO_k14, rdO_g15, rdO_k15, rdO_g16, rdO_k16, rdO_g17, rdO_k17, rdO_s2, rdO_s3, rdO_s4, rdO_s10, rdO_s11, rdO_s12, rdO_s13, rdO_s14, rdO_s15, rdO_s16, rdO_s17, rh_1, rh_2, rh_g11, rh_g12, rh_g13, rh_g14, rh_g15, rh_g16, rh_g17, rh_g18, rh_g19, rh_out, rh_u11, rh_u12, rh_u13, rh_u14, rh_u15, rh_u16, rh_u17, rh_u18, rh_u19, iup_s, iup_n, aup_s, aup_n, ne_eq, not_false_eq_true, sh_0, sh_1, sh_2, sh_3, sh_4, sh_5, sh_8, sh_15, sh_16, sh_24, Int.reducePow, Int.cast_ofNat_Int, w_of, wl_of, ltT, ltF, leT, leF, eqT, eqF, okF_0, okF_s, gF_0, gF_s, consC_o, sF_0, sF_s, clsO_o, inA_i, ldA_i, stA_i, inJ_l, ldJ_l, stJ_l, inR_r, ldR_r, stR_r, tgR_r, lenA_i, lenA_l, lenA_r, lenA_ex, nl_i, nl_o, nl_l, nl_n, wd_n, wd_i, wd_l, wd_o, fit_i, fit_l, fit_o, K_v, K_n, true_and, and_true, Nat.reduceAdd, Nat.reduceLeDiff, Nat.reduceEqDiff, Nat.reduceMul, Nat.reduceLT, reduceIte, true_or, or_true, cmp_lt, cmp_gt, cmp_eq, wb_0, b_01, cmp_lt', cmp_gt', cmp_eq', b_0, b_1, wb_1, Int.reduceSub, Int.reduceToNat, List.getD_cons_succ, List.getD_cons_zero, Int.reduceLE, Int.reduceLT, Int.reduceEq, Int.reduceNeg, Int.reduceAdd, Int.reduceMul, and_self, em_b, ne_eq, not_false_eq_true, not_true_eq_false]
          try rfl
        · obtain ⟨i1, a1, a2, a3⟩ := R_gi (h := h) (A := A) (deep := deep) hX hT hnb hdp h33 hr
          rw [if_pos h6] at a1 a3
          have is := r_is (h := h) (A := A) (kd := 30) (by decide) hr
          rw [if_neg hB, show rkK 30 = 23 from rfl] at is
          have is2 := r_is (h := h) (A := A) (kd := 40) (by decide) hr
          rw [if_pos hBo, show rkK 40 = 35 from rfl] at is2
          have c11 : i 11 = 0 := hr.2.2.1
          have c9 : i 9 = 35 := by rw [hr.2.2.2.1, hk]; rfl
          have wd := R_wd (h := h) (A := A) (l := l) (k := 40) hl (by decide) hi
          rw [ew, show rkK 40 = 35 from rfl] at wd
          refine ⟨i1, A, a1, fun z => absurd z rf_no, a2, frF_r, fun d Q hd => ?_⟩
          obtain ⟨d', rfl⟩ : ∃ d', d = d' + 1 := ⟨d - 1, by omega⟩
          simp (disch := omega) only [e_181_0, e_181_1, e_181_3, e_181_6, e_181_24, e_181_25, e_181_28, e_181_31, e_181_32, e_181_33, e_181_36, e_181_39, e_181_40, e_181_66, e_181_67, e_181_69, e_181_72, e_181_75, e_181_76, e_181_77, e_181_80, e_181_83, is, is2, c11, c9, wd, a3, true_and, mdO_c, mdO_g0, mdO_k0, mdO_g1, mdO_k1, mdO_g2, mdO_k2, mdO_g3, mdO_k3, mdO_g4, mdO_k4, mdO_g5, mdO_k5, mdO_g6, mdO_k6, mdO_g7, mdO_k7, mdO_g8, mdO_k8, mdO_g9, mdO_k9, mdO_g10, mdO_k10, mdO_g11, mdO_k11, mdO_g12, mdO_k12, mdO_g13, mdO_k13, mdO_g14, mdO_k14, mdO_g15, mdO_k15, mdO_g16, mdO_k16, mdO_g17, mdO_k17, mdO_g18, mdO_k18, mdO_g19, mdO_k19, mdO_g20, mdO_k20, mdO_g21, mdO_k21, mdO_g22, mdO_k22, mdO_g23, mdO_k23, mdO_g24, mdO_k24, mdO_g25, mdO_k25, mdO_g26, mdO_k26, mdO_g27, mdO_k27, mdO_g28, mdO_k28, mdO_g29, mdO_k29, mdO_g30, mdO_k30, mdO_g31, mdO_k31, mdO_g32, mdO_k32, mdO_g33, mdO_k33, mdO_g34, mdO_k34, mdO_g35, mdO_k35, mdO_s0, mdO_s5, mdO_s6, mdO_s7, mdO_s8, mdO_s9, mdO_s10, mdO_s11, mdO_s12, mdO_s13, mdO_s14, mdO_s15, mdO_s19, mdO_s20, mdO_s25, mdO_s26, mdO_s31, mdO_s32, md_1, md_2, md_g71, md_g72, md_g73, md_g74, md_g75, md_g76, md_g77, md_g78, md_g79, md_g80, md_g81, md_g82, md_g83, md_g84, md_g85, md_g86, md_g87, md_g88, md_g89, md_out, md_u71, md_u72, md_u73, md_u74, md_u75, md_u76, md_u77, md_u78, md_u79, md_u80, md_u81, md_u82, md_u83, md_u84, md_u85, md_u86, md_u87, md_u88, md_u89, md_uo, iup_s, iup_n, aup_s, aup_n, ne_eq, not_false_eq_true, sh_0, sh_1, sh_2, sh_3, sh_4, sh_5, sh_8, sh_15, sh_16, sh_24, Int.reducePow, Int.cast_ofNat_Int, w_of, wl_of, ltT, ltF, leT, leF, eqT, eqF, okF_0, okF_s, gF_0, gF_s, consC_o, sF_0, sF_s, clsO_o, inA_i, ldA_i, stA_i, inJ_l, ldJ_l, stJ_l, inR_r, ldR_r, stR_r, tgR_r, lenA_i, lenA_l, lenA_r, lenA_ex, nl_i, nl_o, nl_l, nl_n, wd_n, wd_i, wd_l, wd_o, fit_i, fit_l, fit_o, K_v, K_n, true_and, and_true, Nat.reduceAdd, Nat.reduceLeDiff, Nat.reduceEqDiff, Nat.reduceMul, Nat.reduceLT, reduceIte, true_or, or_true, cmp_lt, cmp_gt, cmp_eq, wb_0, b_01, cmp_lt', cmp_gt', cmp_eq', b_0, b_1, wb_1, Int.reduceSub, Int.reduceToNat, List.getD_cons_succ, List.getD_cons_zero, Int.reduceLE, Int.reduceLT, Int.reduceEq, Int.reduceNeg, Int.reduceAdd, Int.reduceMul, and_self, em_b, ne_eq, not_false_eq_true, not_true_eq_false]
          try rfl
      · obtain ⟨s2, L2, p2, w2, cs2, rs2⟩ := hsm (by omega) (.inl (tkE b n q)) (fun z e => by cases e; exact hle)
        have hp2 : ∀ q2, s2 = .inl q2 → tkE b n q + L2.length ≤ q2 ∧ q2 ≤ n := fun q2 e => by
          obtain ⟨z, e1, e2, e3⟩ := p2.1 q2 e
          cases e1
          exact ⟨e2, e3⟩
        have ed : (deep : Int) + 1 = ((deep + 1 : Nat) : Int) := by omega
        have pe := ex_prg (b := b) (kd := 41) (by omega) (prg_ok p2)
        refine ⟨exS b n 41 s2, L2, ⟨fun q3 e => ?_, fun x e => by cases e⟩, fun z => hWS L2 (w2 (ex_alR z)), fun h i j A C hX hT hc hcd hC hj => ?_, fun h i A C m hX hT hr hcd hC hi => ?_⟩
        · obtain ⟨q2, e2, e3, e4⟩ := pe.1 q3 e
          have e3' : q2 + 0 ≤ q3 := e3
          have := hp2 q2 e2
          exact ⟨q, rfl, by omega, e4⟩
        · have hal : alC b n (.inl q) := ⟨q, rfl, h33⟩
          have hCq := hC q rfl
          rw [nrm_ok h33] at hc
          have c5 : i 5 = 40 := by rw [hc.2.2.2.2.2.1]; exact hk
          obtain ⟨i1, a1, a2, a3⟩ := C_deep (h := h) (j := j) (deep := deep) hX hT hnb hdp h33 hc
          rw [if_neg h6] at a1 a3
          obtain ⟨i2, j2, A2, b1, b2, b3, b4, b5, b6⟩ := cs2 h i1 j A C hX hT a1 ⟨hcd.1, fun _ => hcd.2 hal⟩ (fun z e => by cases e; omega) hj
          obtain ⟨i3, d1, d2, d3⟩ := C_ex (h := h) (j := j2) (A := A2) (kd := 41) hX (tapC_fr hT b5) hnb (by omega) (by omega) (by omega) (by omega) b1
          refine ⟨i3, j2, A2, d1, cd_exK (by omega) b2, frI_t a2 (frI_t b3 d2), b4, b5, fun d Q hd => ?_⟩
          obtain ⟨d', rfl⟩ : ∃ d', d = d' + 1 := ⟨d - 1, by omega⟩
          simp (disch := omega) only [e_75_0, e_75_1, e_75_4, e_75_7, e_75_9, e_75_33, e_75_34, e_75_37, e_75_40, e_75_42, e_75_45, e_75_46, e_75_47, e_75_50, e_75_53, e_75_54, e_75_55, e_75_56, e_75_57, e_75_60, e_75_61, e_75_64, e_75_66, e_75_69, e_75_192, c5, a3, b6, d3, ed, true_and, tkO_c, tkO_g0, tkO_k0, tkO_g1, tkO_k1, tkO_g2, tkO_k2, tkO_g3, tkO_k3, tkO_g4, tkO_k4, tkO_g5, tkO_k5, tkO_g6, tkO_k6, tkO_g7, tkO_k7, tkO_g8, tkO_k8, tkO_s1, tkO_s2, tkO_s3, tkO_s4, tkO_s5, tkO_s6, tkO_s7, tkO_s8, rdO_c, rdO_g0, rdO_k0, rdO_g1, rdO_k1, rdO_g2, rdO_k2, rdO_g3, rdO_k3, rdO_g4, rdO_k4, rdO_g5, rdO_k5, rdO_g6, rdO_k6, rdO_g7, rdO_k7, rdO_g8, rdO_k8, rdO_g9, rdO_k9, rdO_g10, rdO_k10, rdO_g11, rdO_k11, rdO_g12, rdO_k12, rdO_g13, rdO_k13, rdO_g14, rdO_k14, rdO_g15, rdO_k15, rdO_g16, rdO_k16, rdO_g17, rdO_k17, rdO_s2, rdO_s3, rdO_s4, rdO_s10, rdO_s11, rdO_s12, rdO_s13, rdO_s14, rdO_s15, rdO_s16, rdO_s17, rh_1, rh_2, rh_g11, rh_g12, rh_g13, rh_g14, rh_g15, rh_g16, rh_g17, rh_g18, rh_g19, rh_out, rh_u11, rh_u12, rh_u13, rh_u14, rh_u15, rh_u16, rh_u17, rh_u18, rh_u19, iup_s, iup_n, aup_s, aup_n, ne_eq, not_false_eq_true, sh_0, sh_1, sh_2, sh_3, sh_4, sh_5, sh_8, sh_15, sh_16, sh_24, Int.reducePow, Int.cast_ofNat_Int, w_of, wl_of, ltT, ltF, leT, leF, eqT, eqF, okF_0, okF_s, gF_0, gF_s, consC_o, sF_0, sF_s, clsO_o, inA_i, ldA_i, stA_i, inJ_l, ldJ_l, stJ_l, inR_r, ldR_r, stR_r, tgR_r, lenA_i, lenA_l, lenA_r, lenA_ex, nl_i, nl_o, nl_l, nl_n, wd_n, wd_i, wd_l, wd_o, fit_i, fit_l, fit_o, K_v, K_n, true_and, and_true, Nat.reduceAdd, Nat.reduceLeDiff, Nat.reduceEqDiff, Nat.reduceMul, Nat.reduceLT, reduceIte, true_or, or_true, cmp_lt, cmp_gt, cmp_eq, wb_0, b_01, cmp_lt', cmp_gt', cmp_eq', b_0, b_1, wb_1, Int.reduceSub, Int.reduceToNat, List.getD_cons_succ, List.getD_cons_zero, Int.reduceLE, Int.reduceLT, Int.reduceEq, Int.reduceNeg, Int.reduceAdd, Int.reduceMul, and_self, em_b, ne_eq, not_false_eq_true, not_true_eq_false]
          try rfl
        · have hCq := hC q rfl
          obtain ⟨i1, a1, a2, a3⟩ := R_gi (h := h) (A := A) (deep := deep) hX hT hnb hdp h33 hr
          rw [if_neg h6] at a1 a3
          have is := r_is (h := h) (A := A) (kd := 30) (by decide) hr
          rw [if_neg hB, show rkK 30 = 23 from rfl] at is
          have is2 := r_is (h := h) (A := A) (kd := 40) (by decide) hr
          rw [if_pos hBo, show rkK 40 = 35 from rfl] at is2
          have c11 : i 11 = 0 := hr.2.2.1
          have c9 : i 9 = 35 := by rw [hr.2.2.2.1, hk]; rfl
          have wd := R_wd (h := h) (A := A) (l := l) (k := 40) hl (by decide) hi
          rw [ew, show rkK 40 = 35 from rfl] at wd
          obtain ⟨i2, A2, b1, b2, b3, b4, b5⟩ := rs2 h i1 A C m hX hT a1 (fun _ => hcd ⟨q, rfl⟩) (fun z e => by cases e; omega) (by rw [a2 15 (by decide)]; exact hi)
          obtain ⟨i3, i4, d1, d2, d3, d4, d5⟩ := R_exB (h := h) (A := A2) (kd := 41) hX (tapM_fr hT b4) hnb (by decide) b1
          rw [show rkK 41 = 36 from rfl] at d3
          refine ⟨i4, A2, d1, fun z => b2 (ex_alR z), frI_t a2 (frI_t b3 d2), b4, fun d Q hd => ?_⟩
          obtain ⟨d', rfl⟩ : ∃ d', d = d' + 1 := ⟨d - 1, by omega⟩
          by_cases z : isB b n s2 41 = true
          · rw [d4 z]
            rw [if_pos z] at d3
            simp (disch := omega) only [e_181_0, e_181_1, e_181_3, e_181_6, e_181_24, e_181_25, e_181_28, e_181_31, e_181_32, e_181_33, e_181_36, e_181_39, e_181_40, e_181_66, e_181_67, e_181_69, e_181_72, e_181_75, e_181_76, e_181_77, e_181_80, e_181_83, e_181_84, e_181_85, e_181_86, e_181_87, e_181_88, e_181_91, e_181_92, e_181_94, e_181_97, e_181_130, is, is2, c11, c9, wd, a3, b5, d3, ed, true_and, mdO_c, mdO_g0, mdO_k0, mdO_g1, mdO_k1, mdO_g2, mdO_k2, mdO_g3, mdO_k3, mdO_g4, mdO_k4, mdO_g5, mdO_k5, mdO_g6, mdO_k6, mdO_g7, mdO_k7, mdO_g8, mdO_k8, mdO_g9, mdO_k9, mdO_g10, mdO_k10, mdO_g11, mdO_k11, mdO_g12, mdO_k12, mdO_g13, mdO_k13, mdO_g14, mdO_k14, mdO_g15, mdO_k15, mdO_g16, mdO_k16, mdO_g17, mdO_k17, mdO_g18, mdO_k18, mdO_g19, mdO_k19, mdO_g20, mdO_k20, mdO_g21, mdO_k21, mdO_g22, mdO_k22, mdO_g23, mdO_k23, mdO_g24, mdO_k24, mdO_g25, mdO_k25, mdO_g26, mdO_k26, mdO_g27, mdO_k27, mdO_g28, mdO_k28, mdO_g29, mdO_k29, mdO_g30, mdO_k30, mdO_g31, mdO_k31, mdO_g32, mdO_k32, mdO_g33, mdO_k33, mdO_g34, mdO_k34, mdO_g35, mdO_k35, mdO_s0, mdO_s5, mdO_s6, mdO_s7, mdO_s8, mdO_s9, mdO_s10, mdO_s11, mdO_s12, mdO_s13, mdO_s14, mdO_s15, mdO_s19, mdO_s20, mdO_s25, mdO_s26, mdO_s31, mdO_s32, md_1, md_2, md_g71, md_g72, md_g73, md_g74, md_g75, md_g76, md_g77, md_g78, md_g79, md_g80, md_g81, md_g82, md_g83, md_g84, md_g85, md_g86, md_g87, md_g88, md_g89, md_out, md_u71, md_u72, md_u73, md_u74, md_u75, md_u76, md_u77, md_u78, md_u79, md_u80, md_u81, md_u82, md_u83, md_u84, md_u85, md_u86, md_u87, md_u88, md_u89, md_uo, iup_s, iup_n, aup_s, aup_n, ne_eq, not_false_eq_true, sh_0, sh_1, sh_2, sh_3, sh_4, sh_5, sh_8, sh_15, sh_16, sh_24, Int.reducePow, Int.cast_ofNat_Int, w_of, wl_of, ltT, ltF, leT, leF, eqT, eqF, okF_0, okF_s, gF_0, gF_s, consC_o, sF_0, sF_s, clsO_o, inA_i, ldA_i, stA_i, inJ_l, ldJ_l, stJ_l, inR_r, ldR_r, stR_r, tgR_r, lenA_i, lenA_l, lenA_r, lenA_ex, nl_i, nl_o, nl_l, nl_n, wd_n, wd_i, wd_l, wd_o, fit_i, fit_l, fit_o, K_v, K_n, true_and, and_true, Nat.reduceAdd, Nat.reduceLeDiff, Nat.reduceEqDiff, Nat.reduceMul, Nat.reduceLT, reduceIte, true_or, or_true, cmp_lt, cmp_gt, cmp_eq, wb_0, b_01, cmp_lt', cmp_gt', cmp_eq', b_0, b_1, wb_1, Int.reduceSub, Int.reduceToNat, List.getD_cons_succ, List.getD_cons_zero, Int.reduceLE, Int.reduceLT, Int.reduceEq, Int.reduceNeg, Int.reduceAdd, Int.reduceMul, and_self, em_b, ne_eq, not_false_eq_true, not_true_eq_false]
            try rfl
          · rw [if_neg z] at d3
            have d5' := d5 z
            simp (disch := omega) only [e_181_0, e_181_1, e_181_3, e_181_6, e_181_24, e_181_25, e_181_28, e_181_31, e_181_32, e_181_33, e_181_36, e_181_39, e_181_40, e_181_66, e_181_67, e_181_69, e_181_72, e_181_75, e_181_76, e_181_77, e_181_80, e_181_83, e_181_84, e_181_85, e_181_86, e_181_87, e_181_88, e_181_91, e_181_92, e_181_94, e_181_97, e_181_100, e_181_101, e_181_102, e_181_105, e_181_130, is, is2, c11, c9, wd, a3, b5, d3, d5', ed, true_and, mdO_c, mdO_g0, mdO_k0, mdO_g1, mdO_k1, mdO_g2, mdO_k2, mdO_g3, mdO_k3, mdO_g4, mdO_k4, mdO_g5, mdO_k5, mdO_g6, mdO_k6, mdO_g7, mdO_k7, mdO_g8, mdO_k8, mdO_g9, mdO_k9, mdO_g10, mdO_k10, mdO_g11, mdO_k11, mdO_g12, mdO_k12, mdO_g13, mdO_k13, mdO_g14, mdO_k14, mdO_g15, mdO_k15, mdO_g16, mdO_k16, mdO_g17, mdO_k17, mdO_g18, mdO_k18, mdO_g19, mdO_k19, mdO_g20, mdO_k20, mdO_g21, mdO_k21, mdO_g22, mdO_k22, mdO_g23, mdO_k23, mdO_g24, mdO_k24, mdO_g25, mdO_k25, mdO_g26, mdO_k26, mdO_g27, mdO_k27, mdO_g28, mdO_k28, mdO_g29, mdO_k29, mdO_g30, mdO_k30, mdO_g31, mdO_k31, mdO_g32, mdO_k32, mdO_g33, mdO_k33, mdO_g34, mdO_k34, mdO_g35, mdO_k35, mdO_s0, mdO_s5, mdO_s6, mdO_s7, mdO_s8, mdO_s9, mdO_s10, mdO_s11, mdO_s12, mdO_s13, mdO_s14, mdO_s15, mdO_s19, mdO_s20, mdO_s25, mdO_s26, mdO_s31, mdO_s32, md_1, md_2, md_g71, md_g72, md_g73, md_g74, md_g75, md_g76, md_g77, md_g78, md_g79, md_g80, md_g81, md_g82, md_g83, md_g84, md_g85, md_g86, md_g87, md_g88, md_g89, md_out, md_u71, md_u72, md_u73, md_u74, md_u75, md_u76, md_u77, md_u78, md_u79, md_u80, md_u81, md_u82, md_u83, md_u84, md_u85, md_u86, md_u87, md_u88, md_u89, md_uo, iup_s, iup_n, aup_s, aup_n, ne_eq, not_false_eq_true, sh_0, sh_1, sh_2, sh_3, sh_4, sh_5, sh_8, sh_15, sh_16, sh_24, Int.reducePow, Int.cast_ofNat_Int, w_of, wl_of, ltT, ltF, leT, leF, eqT, eqF, okF_0, okF_s, gF_0, gF_s, consC_o, sF_0, sF_s, clsO_o, inA_i, ldA_i, stA_i, inJ_l, ldJ_l, stJ_l, inR_r, ldR_r, stR_r, tgR_r, lenA_i, lenA_l, lenA_r, lenA_ex, nl_i, nl_o, nl_l, nl_n, wd_n, wd_i, wd_l, wd_o, fit_i, fit_l, fit_o, K_v, K_n, true_and, and_true, Nat.reduceAdd, Nat.reduceLeDiff, Nat.reduceEqDiff, Nat.reduceMul, Nat.reduceLT, reduceIte, true_or, or_true, cmp_lt, cmp_gt, cmp_eq, wb_0, b_01, cmp_lt', cmp_gt', cmp_eq', b_0, b_1, wb_1, Int.reduceSub, Int.reduceToNat, List.getD_cons_succ, List.getD_cons_zero, Int.reduceLE, Int.reduceLT, Int.reduceEq, Int.reduceNeg, Int.reduceAdd, Int.reduceMul, and_self, em_b, ne_eq, not_false_eq_true, not_true_eq_false]
            try rfl
    · by_cases hBi : isB b n s 12 = true
      · obtain ⟨q, rfl, hk⟩ := isB_t hBi
        have hqn := hq q rfl
        have h33 : tkK b n q ≠ 33 := by omega
        have ew : fctR l 12 = -1 := fctR_n (by unfold fctK; repeat' (rw [if_neg (by omega)]))
        by_cases h6 : deep = 6
        · refine ⟨rfS b n 4 (.inl q), [], rf_prg, fun z => absurd z rf_no, fun h i j A C hX hT hc hcd hC hj => ?_, fun h i A C m hX hT hr hcd hC hi => ?_⟩
          · rw [nrm_ok h33] at hc
            have c5 : i 5 = 12 := by rw [hc.2.2.2.2.2.1]; exact hk
            obtain ⟨i1, a1, a2, a3⟩ := C_deep (h := h) (j := j) (deep := deep) hX hT hnb hdp h33 hc
            rw [if_pos h6] at a1 a3
            refine ⟨i1, j, A, a1, ⟨hcd.1, fun z => absurd (alC_R z) rf_no⟩, a2, frI_r, frA_r, fun d Q hd => ?_⟩
            obtain ⟨d', rfl⟩ : ∃ d', d = d' + 1 := ⟨d - 1, by omega⟩
            simp (disch := omega) only [e_75_0, e_75_1, e_75_4, e_75_7, e_75_9, e_75_33, e_75_34, e_75_37, e_75_40, e_75_42, e_75_72, e_75_73, e_75_76, e_75_79, e_75_81, e_75_84, e_75_85, e_75_86, e_75_89, e_75_192, c5, a3, true_and, tkO_c, tkO_g0, tkO_k0, tkO_g1, tkO_k1, tkO_g2, tkO_k2, tkO_g3, tkO_k3, tkO_g4, tkO_k4, tkO_g5, tkO_k5, tkO_g6, tkO_k6, tkO_g7, tkO_k7, tkO_g8, tkO_k8, tkO_s1, tkO_s2, tkO_s3, tkO_s4, tkO_s5, tkO_s6, tkO_s7, tkO_s8, rdO_c, rdO_g0, rdO_k0, rdO_g1, rdO_k1, rdO_g2, rdO_k2, rdO_g3, rdO_k3, rdO_g4, rdO_k4, rdO_g5, rdO_k5, rdO_g6, rdO_k6, rdO_g7, rdO_k7, rdO_g8, rdO_k8, rdO_g9, rdO_k9, rdO_g10, rdO_k10, rdO_g11, rdO_k11, rdO_g12, rdO_k12, rdO_g13, rdO_k13, rdO_g14, rdO_k14, rdO_g15, rdO_k15, rdO_g16, rdO_k16, rdO_g17, rdO_k17, rdO_s2, rdO_s3, rdO_s4, rdO_s10, rdO_s11, rdO_s12, rdO_s13, rdO_s14, rdO_s15, rdO_s16, rdO_s17, rh_1, rh_2, rh_g11, rh_g12, rh_g13, rh_g14, rh_g15, rh_g16, rh_g17, rh_g18, rh_g19, rh_out, rh_u11, rh_u12, rh_u13, rh_u14, rh_u15, rh_u16, rh_u17, rh_u18, rh_u19, iup_s, iup_n, aup_s, aup_n, ne_eq, not_false_eq_true, sh_0, sh_1, sh_2, sh_3, sh_4, sh_5, sh_8, sh_15, sh_16, sh_24, Int.reducePow, Int.cast_ofNat_Int, w_of, wl_of, ltT, ltF, leT, leF, eqT, eqF, okF_0, okF_s, gF_0, gF_s, consC_o, sF_0, sF_s, clsO_o, inA_i, ldA_i, stA_i, inJ_l, ldJ_l, stJ_l, inR_r, ldR_r, stR_r, tgR_r, lenA_i, lenA_l, lenA_r, lenA_ex, nl_i, nl_o, nl_l, nl_n, wd_n, wd_i, wd_l, wd_o, fit_i, fit_l, fit_o, K_v, K_n, true_and, and_true, Nat.reduceAdd, Nat.reduceLeDiff, Nat.reduceEqDiff, Nat.reduceMul, Nat.reduceLT, reduceIte, true_or, or_true, cmp_lt, cmp_gt, cmp_eq, wb_0, b_01, cmp_lt', cmp_gt', cmp_eq', b_0, b_1, wb_1, Int.reduceSub, Int.reduceToNat, List.getD_cons_succ, List.getD_cons_zero, Int.reduceLE, Int.reduceLT, Int.reduceEq, Int.reduceNeg, Int.reduceAdd, Int.reduceMul, and_self, em_b, ne_eq, not_false_eq_true, not_true_eq_false]
            try rfl
          · obtain ⟨i1, a1, a2, a3⟩ := R_gi (h := h) (A := A) (deep := deep) hX hT hnb hdp h33 hr
            rw [if_pos h6] at a1 a3
            have is := r_is (h := h) (A := A) (kd := 30) (by decide) hr
            rw [if_neg hB, show rkK 30 = 23 from rfl] at is
            have is2 := r_is (h := h) (A := A) (kd := 40) (by decide) hr
            rw [if_neg hBo, show rkK 40 = 35 from rfl] at is2
            have is3 := r_is (h := h) (A := A) (kd := 12) (by decide) hr
            rw [if_pos hBi, show rkK 12 = 12 from rfl] at is3
            have c11 : i 11 = 0 := hr.2.2.1
            have c9 : i 9 = 12 := by rw [hr.2.2.2.1, hk]; rfl
            have wd := R_wd (h := h) (A := A) (l := l) (k := 12) hl (by decide) hi
            rw [ew, show rkK 12 = 12 from rfl] at wd
            refine ⟨i1, A, a1, fun z => absurd z rf_no, a2, frF_r, fun d Q hd => ?_⟩
            obtain ⟨d', rfl⟩ : ∃ d', d = d' + 2 := ⟨d - 2, by omega⟩
            simp (disch := omega) only [e_181_0, e_181_1, e_181_3, e_181_6, e_181_24, e_181_25, e_181_28, e_181_31, e_181_32, e_181_33, e_181_36, e_181_39, e_181_40, e_181_66, e_181_67, e_181_69, e_181_72, e_181_108, e_181_109, e_181_111, e_181_114, e_181_117, e_181_118, e_181_119, e_181_122, e_181_125, e_181_126, e_181_127, e_181_130, e_182_0, e_182_1, e_182_2, e_182_5, e_182_8, is, is2, is3, c11, c9, wd, a3, true_and, mdO_c, mdO_g0, mdO_k0, mdO_g1, mdO_k1, mdO_g2, mdO_k2, mdO_g3, mdO_k3, mdO_g4, mdO_k4, mdO_g5, mdO_k5, mdO_g6, mdO_k6, mdO_g7, mdO_k7, mdO_g8, mdO_k8, mdO_g9, mdO_k9, mdO_g10, mdO_k10, mdO_g11, mdO_k11, mdO_g12, mdO_k12, mdO_g13, mdO_k13, mdO_g14, mdO_k14, mdO_g15, mdO_k15, mdO_g16, mdO_k16, mdO_g17, mdO_k17, mdO_g18, mdO_k18, mdO_g19, mdO_k19, mdO_g20, mdO_k20, mdO_g21, mdO_k21, mdO_g22, mdO_k22, mdO_g23, mdO_k23, mdO_g24, mdO_k24, mdO_g25, mdO_k25, mdO_g26, mdO_k26, mdO_g27, mdO_k27, mdO_g28, mdO_k28, mdO_g29, mdO_k29, mdO_g30, mdO_k30, mdO_g31, mdO_k31, mdO_g32, mdO_k32, mdO_g33, mdO_k33, mdO_g34, mdO_k34, mdO_g35, mdO_k35, mdO_s0, mdO_s5, mdO_s6, mdO_s7, mdO_s8, mdO_s9, mdO_s10, mdO_s11, mdO_s12, mdO_s13, mdO_s14, mdO_s15, mdO_s19, mdO_s20, mdO_s25, mdO_s26, mdO_s31, mdO_s32, md_1, md_2, md_g71, md_g72, md_g73, md_g74, md_g75, md_g76, md_g77, md_g78, md_g79, md_g80, md_g81, md_g82, md_g83, md_g84, md_g85, md_g86, md_g87, md_g88, md_g89, md_out, md_u71, md_u72, md_u73, md_u74, md_u75, md_u76, md_u77, md_u78, md_u79, md_u80, md_u81, md_u82, md_u83, md_u84, md_u85, md_u86, md_u87, md_u88, md_u89, md_uo, iup_s, iup_n, aup_s, aup_n, ne_eq, not_false_eq_true, sh_0, sh_1, sh_2, sh_3, sh_4, sh_5, sh_8, sh_15, sh_16, sh_24, Int.reducePow, Int.cast_ofNat_Int, w_of, wl_of, ltT, ltF, leT, leF, eqT, eqF, okF_0, okF_s, gF_0, gF_s, consC_o, sF_0, sF_s, clsO_o, inA_i, ldA_i, stA_i, inJ_l, ldJ_l, stJ_l, inR_r, ldR_r, stR_r, tgR_r, lenA_i, lenA_l, lenA_r, lenA_ex, nl_i, nl_o, nl_l, nl_n, wd_n, wd_i, wd_l, wd_o, fit_i, fit_l, fit_o, K_v, K_n, true_and, and_true, Nat.reduceAdd, Nat.reduceLeDiff, Nat.reduceEqDiff, Nat.reduceMul, Nat.reduceLT, reduceIte, true_or, or_true, cmp_lt, cmp_gt, cmp_eq, wb_0, b_01, cmp_lt', cmp_gt', cmp_eq', b_0, b_1, wb_1, Int.reduceSub, Int.reduceToNat, List.getD_cons_succ, List.getD_cons_zero, Int.reduceLE, Int.reduceLT, Int.reduceEq, Int.reduceNeg, Int.reduceAdd, Int.reduceMul, and_self, em_b, ne_eq, not_false_eq_true, not_true_eq_false]
            try rfl
        · obtain ⟨s', L, p, w, cs, rs⟩ := J_if hnb hb9 hl hG hGT (by omega) hqn hk (hsm (by omega)) (htr (by omega)) hW
          refine ⟨s', L, p, w, fun h i j A C hX hT hc hcd hC hj => ?_, fun h i A C m hX hT hr hcd hC hi => ?_⟩
          · have hc' := hc
            rw [nrm_ok h33] at hc'
            have c5 : i 5 = 12 := by rw [hc'.2.2.2.2.2.1]; exact hk
            obtain ⟨i2, j2, A2, b1, b2, b3, b4, b5, b6⟩ := cs (FT + 1) (by omega) (by omega) (by omega) h i j A C hX hT hc hcd hC hj
            refine ⟨i2, j2, A2, b1, b2, b3, b4, b5, fun d Q hd => ?_⟩
            rw [← b6 d Q hd]
            simp (disch := omega) only [e_75_0, e_75_1, e_75_4, e_75_7, e_75_9, e_75_33, e_75_34, e_75_37, e_75_40, e_75_42, e_75_72, e_75_73, e_75_76, e_75_79, e_75_81, c5, true_and, tkO_c, tkO_g0, tkO_k0, tkO_g1, tkO_k1, tkO_g2, tkO_k2, tkO_g3, tkO_k3, tkO_g4, tkO_k4, tkO_g5, tkO_k5, tkO_g6, tkO_k6, tkO_g7, tkO_k7, tkO_g8, tkO_k8, tkO_s1, tkO_s2, tkO_s3, tkO_s4, tkO_s5, tkO_s6, tkO_s7, tkO_s8, rdO_c, rdO_g0, rdO_k0, rdO_g1, rdO_k1, rdO_g2, rdO_k2, rdO_g3, rdO_k3, rdO_g4, rdO_k4, rdO_g5, rdO_k5, rdO_g6, rdO_k6, rdO_g7, rdO_k7, rdO_g8, rdO_k8, rdO_g9, rdO_k9, rdO_g10, rdO_k10, rdO_g11, rdO_k11, rdO_g12, rdO_k12, rdO_g13, rdO_k13, rdO_g14, rdO_k14, rdO_g15, rdO_k15, rdO_g16, rdO_k16, rdO_g17, rdO_k17, rdO_s2, rdO_s3, rdO_s4, rdO_s10, rdO_s11, rdO_s12, rdO_s13, rdO_s14, rdO_s15, rdO_s16, rdO_s17, rh_1, rh_2, rh_g11, rh_g12, rh_g13, rh_g14, rh_g15, rh_g16, rh_g17, rh_g18, rh_g19, rh_out, rh_u11, rh_u12, rh_u13, rh_u14, rh_u15, rh_u16, rh_u17, rh_u18, rh_u19, iup_s, iup_n, aup_s, aup_n, ne_eq, not_false_eq_true, sh_0, sh_1, sh_2, sh_3, sh_4, sh_5, sh_8, sh_15, sh_16, sh_24, Int.reducePow, Int.cast_ofNat_Int, w_of, wl_of, ltT, ltF, leT, leF, eqT, eqF, okF_0, okF_s, gF_0, gF_s, consC_o, sF_0, sF_s, clsO_o, inA_i, ldA_i, stA_i, inJ_l, ldJ_l, stJ_l, inR_r, ldR_r, stR_r, tgR_r, lenA_i, lenA_l, lenA_r, lenA_ex, nl_i, nl_o, nl_l, nl_n, wd_n, wd_i, wd_l, wd_o, fit_i, fit_l, fit_o, K_v, K_n, true_and, and_true, Nat.reduceAdd, Nat.reduceLeDiff, Nat.reduceEqDiff, Nat.reduceMul, Nat.reduceLT, reduceIte, true_or, or_true, cmp_lt, cmp_gt, cmp_eq, wb_0, b_01, cmp_lt', cmp_gt', cmp_eq', b_0, b_1, wb_1, Int.reduceSub, Int.reduceToNat, List.getD_cons_succ, List.getD_cons_zero, Int.reduceLE, Int.reduceLT, Int.reduceEq, Int.reduceNeg, Int.reduceAdd, Int.reduceMul, and_self, em_b, ne_eq, not_false_eq_true, not_true_eq_false]
            try rfl
          · have is := r_is (h := h) (A := A) (kd := 30) (by decide) hr
            rw [if_neg hB, show rkK 30 = 23 from rfl] at is
            have is2 := r_is (h := h) (A := A) (kd := 40) (by decide) hr
            rw [if_neg hBo, show rkK 40 = 35 from rfl] at is2
            have is3 := r_is (h := h) (A := A) (kd := 12) (by decide) hr
            rw [if_pos hBi, show rkK 12 = 12 from rfl] at is3
            have c11 : i 11 = 0 := hr.2.2.1
            have c9 : i 9 = 12 := by rw [hr.2.2.2.1, hk]; rfl
            have wd := R_wd (h := h) (A := A) (l := l) (k := 12) hl (by decide) hi
            rw [ew, show rkK 12 = 12 from rfl] at wd
            obtain ⟨i2, A2, b1, b2, b3, b4, b5⟩ := rs h i A C m hX hT hr hcd hC hi
            refine ⟨i2, A2, b1, b2, b3, b4, fun d Q hd => ?_⟩
            obtain ⟨d', rfl⟩ : ∃ d', d = d' + 1 := ⟨d - 1, by omega⟩
            simp (disch := omega) only [e_181_0, e_181_1, e_181_3, e_181_6, e_181_24, e_181_25, e_181_28, e_181_31, e_181_32, e_181_33, e_181_36, e_181_39, e_181_40, e_181_66, e_181_67, e_181_69, e_181_72, e_181_108, e_181_109, e_181_111, e_181_114, e_181_117, e_181_118, e_181_119, e_181_122, e_181_130, is, is2, is3, c11, c9, wd, b5, true_and, mdO_c, mdO_g0, mdO_k0, mdO_g1, mdO_k1, mdO_g2, mdO_k2, mdO_g3, mdO_k3, mdO_g4, mdO_k4, mdO_g5, mdO_k5, mdO_g6, mdO_k6, mdO_g7, mdO_k7, mdO_g8, mdO_k8, mdO_g9, mdO_k9, mdO_g10, mdO_k10, mdO_g11, mdO_k11, mdO_g12, mdO_k12, mdO_g13, mdO_k13, mdO_g14, mdO_k14, mdO_g15, mdO_k15, mdO_g16, mdO_k16, mdO_g17, mdO_k17, mdO_g18, mdO_k18, mdO_g19, mdO_k19, mdO_g20, mdO_k20, mdO_g21, mdO_k21, mdO_g22, mdO_k22, mdO_g23, mdO_k23, mdO_g24, mdO_k24, mdO_g25, mdO_k25, mdO_g26, mdO_k26, mdO_g27, mdO_k27, mdO_g28, mdO_k28, mdO_g29, mdO_k29, mdO_g30, mdO_k30, mdO_g31, mdO_k31, mdO_g32, mdO_k32, mdO_g33, mdO_k33, mdO_g34, mdO_k34, mdO_g35, mdO_k35, mdO_s0, mdO_s5, mdO_s6, mdO_s7, mdO_s8, mdO_s9, mdO_s10, mdO_s11, mdO_s12, mdO_s13, mdO_s14, mdO_s15, mdO_s19, mdO_s20, mdO_s25, mdO_s26, mdO_s31, mdO_s32, md_1, md_2, md_g71, md_g72, md_g73, md_g74, md_g75, md_g76, md_g77, md_g78, md_g79, md_g80, md_g81, md_g82, md_g83, md_g84, md_g85, md_g86, md_g87, md_g88, md_g89, md_out, md_u71, md_u72, md_u73, md_u74, md_u75, md_u76, md_u77, md_u78, md_u79, md_u80, md_u81, md_u82, md_u83, md_u84, md_u85, md_u86, md_u87, md_u88, md_u89, md_uo, iup_s, iup_n, aup_s, aup_n, ne_eq, not_false_eq_true, sh_0, sh_1, sh_2, sh_3, sh_4, sh_5, sh_8, sh_15, sh_16, sh_24, Int.reducePow, Int.cast_ofNat_Int, w_of, wl_of, ltT, ltF, leT, leF, eqT, eqF, okF_0, okF_s, gF_0, gF_s, consC_o, sF_0, sF_s, clsO_o, inA_i, ldA_i, stA_i, inJ_l, ldJ_l, stJ_l, inR_r, ldR_r, stR_r, tgR_r, lenA_i, lenA_l, lenA_r, lenA_ex, nl_i, nl_o, nl_l, nl_n, wd_n, wd_i, wd_l, wd_o, fit_i, fit_l, fit_o, K_v, K_n, true_and, and_true, Nat.reduceAdd, Nat.reduceLeDiff, Nat.reduceEqDiff, Nat.reduceMul, Nat.reduceLT, reduceIte, true_or, or_true, cmp_lt, cmp_gt, cmp_eq, wb_0, b_01, cmp_lt', cmp_gt', cmp_eq', b_0, b_1, wb_1, Int.reduceSub, Int.reduceToNat, List.getD_cons_succ, List.getD_cons_zero, Int.reduceLE, Int.reduceLT, Int.reduceEq, Int.reduceNeg, Int.reduceAdd, Int.reduceMul, and_self, em_b, ne_eq, not_false_eq_true, not_true_eq_false]
            try rfl
      · by_cases hf : ∃ q, s = .inl q ∧ fctK (16 + (l : Int)) (tkK b n q) ≠ -1
        · obtain ⟨q, rfl, hf⟩ := hf
          have hqn := hq q rfl
          have hkk := fct_k hl hf
          have h33 : tkK b n q ≠ 33 := by omega
          have hlt := tkE_lt hqn (show tkK b n q ≠ 32 by omega)
          have hle := (tkE_le (b := b) hqn).2
          obtain ⟨v1, v2⟩ := fct_b hf
          refine ⟨.inl (tkE b n q), [1000 + fctK (16 + (l : Int)) (tkK b n q)], ⟨fun q' e => by cases e; exact ⟨q, rfl, by show q + 1 ≤ _; omega, hle⟩, fun x e => by cases e⟩, fun _ => wf_fact hK v1 v2, fun h i j A C hX hT hc hcd hC hj => ?_, fun h i A C m hX hT hr hcd hC hi => ?_⟩
          · have hal : alC b n (.inl q) := ⟨q, rfl, h33⟩
            have hCq := hC q rfl
            rw [nrm_ok h33] at hc
            have c5 : i 5 = tkK b n q := hc.2.2.2.2.2.1
            have hb := tkK_b (b := b) (n := n) (q := q)
            have fc := C_fact (h := h) (i := i) (A := A) (lf := 16 + (l : Int)) (k := tkK b n q) (by omega) hb.1 hb.2 hj
            obtain ⟨j1, A1, d1, d2, d3, d4⟩ := C_em (h := h) (i := i) (o := 1000 + fctK (16 + (l : Int)) (tkK b n q)) hcd (fun _ => by omega)
            obtain ⟨i1, a1, a2, a3⟩ := C_st1 (h := h) (j := j1) hX (tapC_fr hT d3) hnb hc
            refine ⟨i1, j1, A1, a1, ⟨d1.1, fun _ => d1.2 hal⟩, a2, d2, d3, fun d Q hd => ?_⟩
            obtain ⟨d', rfl⟩ : ∃ d', d = d' + 1 := ⟨d - 1, by omega⟩
            have k1 : tkK b n q ≠ 30 := by omega
            have k2 : tkK b n q ≠ 40 := by omega
            have k3 : tkK b n q ≠ 12 := by omega
            clear hkk
            generalize fctK (16 + (l : Int)) (tkK b n q) = f at *
            generalize tkK b n q = K at *
            simp (disch := omega) only [e_75_0, e_75_1, e_75_4, e_75_7, e_75_9, e_75_33, e_75_34, e_75_37, e_75_40, e_75_42, e_75_72, e_75_73, e_75_76, e_75_79, e_75_81, e_75_150, e_75_151, e_75_152, e_75_155, e_75_158, e_75_161, e_75_162, e_75_163, e_75_164, e_75_176, e_75_177, e_75_180, e_75_181, e_75_182, e_75_185, e_75_186, e_75_189, e_75_192, c5, fc, a3, d4, true_and, tkO_c, tkO_g0, tkO_k0, tkO_g1, tkO_k1, tkO_g2, tkO_k2, tkO_g3, tkO_k3, tkO_g4, tkO_k4, tkO_g5, tkO_k5, tkO_g6, tkO_k6, tkO_g7, tkO_k7, tkO_g8, tkO_k8, tkO_s1, tkO_s2, tkO_s3, tkO_s4, tkO_s5, tkO_s6, tkO_s7, tkO_s8, rdO_c, rdO_g0, rdO_k0, rdO_g1, rdO_k1, rdO_g2, rdO_k2, rdO_g3, rdO_k3, rdO_g4, rdO_k4, rdO_g5, rdO_k5, rdO_g6, rdO_k6, rdO_g7, rdO_k7, rdO_g8, rdO_k8, rdO_g9, rdO_k9, rdO_g10, rdO_k10, rdO_g11, rdO_k11, rdO_g12, rdO_k12, rdO_g13, rdO_k13, rdO_g14, rdO_k14, rdO_g15, rdO_k15, rdO_g16, rdO_k16, rdO_g17, rdO_k17, rdO_s2, rdO_s3, rdO_s4, rdO_s10, rdO_s11, rdO_s12, rdO_s13, rdO_s14, rdO_s15, rdO_s16, rdO_s17, rh_1, rh_2, rh_g11, rh_g12, rh_g13, rh_g14, rh_g15, rh_g16, rh_g17, rh_g18, rh_g19, rh_out, rh_u11, rh_u12, rh_u13, rh_u14, rh_u15, rh_u16, rh_u17, rh_u18, rh_u19, iup_s, iup_n, aup_s, aup_n, ne_eq, not_false_eq_true, sh_0, sh_1, sh_2, sh_3, sh_4, sh_5, sh_8, sh_15, sh_16, sh_24, Int.reducePow, Int.cast_ofNat_Int, w_of, wl_of, ltT, ltF, leT, leF, eqT, eqF, okF_0, okF_s, gF_0, gF_s, consC_o, sF_0, sF_s, clsO_o, inA_i, ldA_i, stA_i, inJ_l, ldJ_l, stJ_l, inR_r, ldR_r, stR_r, tgR_r, lenA_i, lenA_l, lenA_r, lenA_ex, nl_i, nl_o, nl_l, nl_n, wd_n, wd_i, wd_l, wd_o, fit_i, fit_l, fit_o, K_v, K_n, true_and, and_true, Nat.reduceAdd, Nat.reduceLeDiff, Nat.reduceEqDiff, Nat.reduceMul, Nat.reduceLT, reduceIte, true_or, or_true, cmp_lt, cmp_gt, cmp_eq, wb_0, b_01, cmp_lt', cmp_gt', cmp_eq', b_0, b_1, wb_1, Int.reduceSub, Int.reduceToNat, List.getD_cons_succ, List.getD_cons_zero, Int.reduceLE, Int.reduceLT, Int.reduceEq, Int.reduceNeg, Int.reduceAdd, Int.reduceMul, and_self, em_b, ne_eq, not_false_eq_true, not_true_eq_false]
            try rfl
          · have hCq := hC q rfl
            have is := r_is (h := h) (A := A) (kd := 30) (by decide) hr
            rw [if_neg hB, show rkK 30 = 23 from rfl] at is
            have c11 : i 11 = 0 := hr.2.2.1
            have c9 : i 9 = rkK (tkK b n q) := hr.2.2.2.1
            have wd := R_wd (h := h) (A := A) (l := l) (k := tkK b n q) hl tkK_v hi
            have ft := fct_tr hl hf
            have fr : 0 ≤ fctR l (tkK b n q) ∧ fctR l (tkK b n q) < 8 := by
              unfold fctR
              split <;> omega
            obtain ⟨fr1, fr2⟩ := fr
            obtain ⟨A1, d1, d2, d3⟩ := R_co (h := h) (l := l) (o := 1000 + fctK (16 + (l : Int)) (tkK b n q)) (v := 1000 + fctR l (tkK b n q)) ft hr (fun z => ⟨hcd z, by omega⟩)
            obtain ⟨i1, a1, a2, a3⟩ := R_nx1 (h := h) (A := A1) hX (tapM_fr hT d2) hnb hr
            refine ⟨i1, A1, a1, fun _ => d1 ⟨q, rfl⟩, a2, d2, fun d Q hd => ?_⟩
            obtain ⟨d', rfl⟩ : ∃ d', d = d' + 1 := ⟨d - 1, by omega⟩
            generalize fctR l (tkK b n q) = f at *
            generalize rkK (tkK b n q) = R at *
            simp (disch := omega) only [e_181_0, e_181_1, e_181_3, e_181_6, e_181_24, e_181_25, e_181_28, e_181_31, e_181_32, e_181_33, e_181_36, e_181_39, e_181_40, e_181_43, e_181_44, e_181_47, e_181_48, e_181_49, e_181_52, e_181_55, e_181_56, e_181_59, e_181_60, e_181_63, e_181_130, is, c11, c9, wd, a3, d3, true_and, mdO_c, mdO_g0, mdO_k0, mdO_g1, mdO_k1, mdO_g2, mdO_k2, mdO_g3, mdO_k3, mdO_g4, mdO_k4, mdO_g5, mdO_k5, mdO_g6, mdO_k6, mdO_g7, mdO_k7, mdO_g8, mdO_k8, mdO_g9, mdO_k9, mdO_g10, mdO_k10, mdO_g11, mdO_k11, mdO_g12, mdO_k12, mdO_g13, mdO_k13, mdO_g14, mdO_k14, mdO_g15, mdO_k15, mdO_g16, mdO_k16, mdO_g17, mdO_k17, mdO_g18, mdO_k18, mdO_g19, mdO_k19, mdO_g20, mdO_k20, mdO_g21, mdO_k21, mdO_g22, mdO_k22, mdO_g23, mdO_k23, mdO_g24, mdO_k24, mdO_g25, mdO_k25, mdO_g26, mdO_k26, mdO_g27, mdO_k27, mdO_g28, mdO_k28, mdO_g29, mdO_k29, mdO_g30, mdO_k30, mdO_g31, mdO_k31, mdO_g32, mdO_k32, mdO_g33, mdO_k33, mdO_g34, mdO_k34, mdO_g35, mdO_k35, mdO_s0, mdO_s5, mdO_s6, mdO_s7, mdO_s8, mdO_s9, mdO_s10, mdO_s11, mdO_s12, mdO_s13, mdO_s14, mdO_s15, mdO_s19, mdO_s20, mdO_s25, mdO_s26, mdO_s31, mdO_s32, md_1, md_2, md_g71, md_g72, md_g73, md_g74, md_g75, md_g76, md_g77, md_g78, md_g79, md_g80, md_g81, md_g82, md_g83, md_g84, md_g85, md_g86, md_g87, md_g88, md_g89, md_out, md_u71, md_u72, md_u73, md_u74, md_u75, md_u76, md_u77, md_u78, md_u79, md_u80, md_u81, md_u82, md_u83, md_u84, md_u85, md_u86, md_u87, md_u88, md_u89, md_uo, iup_s, iup_n, aup_s, aup_n, ne_eq, not_false_eq_true, sh_0, sh_1, sh_2, sh_3, sh_4, sh_5, sh_8, sh_15, sh_16, sh_24, Int.reducePow, Int.cast_ofNat_Int, w_of, wl_of, ltT, ltF, leT, leF, eqT, eqF, okF_0, okF_s, gF_0, gF_s, consC_o, sF_0, sF_s, clsO_o, inA_i, ldA_i, stA_i, inJ_l, ldJ_l, stJ_l, inR_r, ldR_r, stR_r, tgR_r, lenA_i, lenA_l, lenA_r, lenA_ex, nl_i, nl_o, nl_l, nl_n, wd_n, wd_i, wd_l, wd_o, fit_i, fit_l, fit_o, K_v, K_n, true_and, and_true, Nat.reduceAdd, Nat.reduceLeDiff, Nat.reduceEqDiff, Nat.reduceMul, Nat.reduceLT, reduceIte, true_or, or_true, cmp_lt, cmp_gt, cmp_eq, wb_0, b_01, cmp_lt', cmp_gt', cmp_eq', b_0, b_1, wb_1, Int.reduceSub, Int.reduceToNat, List.getD_cons_succ, List.getD_cons_zero, Int.reduceLE, Int.reduceLT, Int.reduceEq, Int.reduceNeg, Int.reduceAdd, Int.reduceMul, and_self, em_b, ne_eq, not_false_eq_true, not_true_eq_false]
            try rfl
        · refine ⟨rfS b n 2 s, [], rf_prg, fun z => absurd z rf_no, fun h i j A C hX hT hc hcd hC hj => ?_, fun h i A C m hX hT hr hcd hC hi => ?_⟩
          · obtain ⟨c1, c2, c3⟩ := cl_kind (by omega) (by omega) hc hB
            obtain ⟨c4, -, -⟩ := cl_kind (by omega) (by omega) hc hBo
            obtain ⟨c5, -, -⟩ := cl_kind (by omega) (by omega) hc hBi
            have fc := C_fact (h := h) (i := i) (A := A) (lf := 16 + (l : Int)) (k := i 5) (by omega) c2 c3 hj
            have e5 : fctK (16 + (l : Int)) (i 5) = -1 := by
              by_cases q : alC b n s
              · obtain ⟨q, rfl, hk⟩ := q
                rw [nrm_ok hk] at hc
                rw [hc.2.2.2.2.2.1]
                by_cases z : fctK (16 + (l : Int)) (tkK b n q) = -1
                · exact z
                · exact absurd ⟨q, rfl, z⟩ hf
              · obtain ⟨f, a, e, k7, k8, k5, f1, f2⟩ := cl_dead q hc
                rw [k5]
                unfold fctK
                repeat' (rw [if_neg (by omega)])
            rw [e5] at fc
            obtain ⟨i2, g1, g2, g3⟩ := C_rf (h := h) (j := j) (A := A) (w := 2) (by omega) hc
            refine ⟨i2, j, A, g1, ⟨hcd.1, fun z => absurd (alC_R z) rf_no⟩, g2, frI_r, frA_r, fun d Q hd => ?_⟩
            obtain ⟨d', rfl⟩ : ∃ d', d = d' + 1 := ⟨d - 1, by omega⟩
            simp (disch := omega) only [e_75_0, e_75_1, e_75_4, e_75_7, e_75_9, e_75_33, e_75_34, e_75_37, e_75_40, e_75_42, e_75_72, e_75_73, e_75_76, e_75_79, e_75_81, e_75_150, e_75_151, e_75_152, e_75_155, e_75_158, e_75_161, e_75_162, e_75_163, e_75_164, e_75_167, e_75_168, e_75_171, e_75_172, e_75_175, fc, g3, true_and, tkO_c, tkO_g0, tkO_k0, tkO_g1, tkO_k1, tkO_g2, tkO_k2, tkO_g3, tkO_k3, tkO_g4, tkO_k4, tkO_g5, tkO_k5, tkO_g6, tkO_k6, tkO_g7, tkO_k7, tkO_g8, tkO_k8, tkO_s1, tkO_s2, tkO_s3, tkO_s4, tkO_s5, tkO_s6, tkO_s7, tkO_s8, rdO_c, rdO_g0, rdO_k0, rdO_g1, rdO_k1, rdO_g2, rdO_k2, rdO_g3, rdO_k3, rdO_g4, rdO_k4, rdO_g5, rdO_k5, rdO_g6, rdO_k6, rdO_g7, rdO_k7, rdO_g8, rdO_k8, rdO_g9, rdO_k9, rdO_g10, rdO_k10, rdO_g11, rdO_k11, rdO_g12, rdO_k12, rdO_g13, rdO_k13, rdO_g14, rdO_k14, rdO_g15, rdO_k15, rdO_g16, rdO_k16, rdO_g17, rdO_k17, rdO_s2, rdO_s3, rdO_s4, rdO_s10, rdO_s11, rdO_s12, rdO_s13, rdO_s14, rdO_s15, rdO_s16, rdO_s17, rh_1, rh_2, rh_g11, rh_g12, rh_g13, rh_g14, rh_g15, rh_g16, rh_g17, rh_g18, rh_g19, rh_out, rh_u11, rh_u12, rh_u13, rh_u14, rh_u15, rh_u16, rh_u17, rh_u18, rh_u19, iup_s, iup_n, aup_s, aup_n, ne_eq, not_false_eq_true, sh_0, sh_1, sh_2, sh_3, sh_4, sh_5, sh_8, sh_15, sh_16, sh_24, Int.reducePow, Int.cast_ofNat_Int, w_of, wl_of, ltT, ltF, leT, leF, eqT, eqF, okF_0, okF_s, gF_0, gF_s, consC_o, sF_0, sF_s, clsO_o, inA_i, ldA_i, stA_i, inJ_l, ldJ_l, stJ_l, inR_r, ldR_r, stR_r, tgR_r, lenA_i, lenA_l, lenA_r, lenA_ex, nl_i, nl_o, nl_l, nl_n, wd_n, wd_i, wd_l, wd_o, fit_i, fit_l, fit_o, K_v, K_n, true_and, and_true, Nat.reduceAdd, Nat.reduceLeDiff, Nat.reduceEqDiff, Nat.reduceMul, Nat.reduceLT, reduceIte, true_or, or_true, cmp_lt, cmp_gt, cmp_eq, wb_0, b_01, cmp_lt', cmp_gt', cmp_eq', b_0, b_1, wb_1, Int.reduceSub, Int.reduceToNat, List.getD_cons_succ, List.getD_cons_zero, Int.reduceLE, Int.reduceLT, Int.reduceEq, Int.reduceNeg, Int.reduceAdd, Int.reduceMul, and_self, em_b, ne_eq, not_false_eq_true, not_true_eq_false]
            try rfl
          · have is := r_is (h := h) (A := A) (kd := 30) (by decide) hr
            rw [if_neg hB, show rkK 30 = 23 from rfl] at is
            have is2 := r_is (h := h) (A := A) (kd := 40) (by decide) hr
            rw [if_neg hBo, show rkK 40 = 35 from rfl] at is2
            have is3 := r_is (h := h) (A := A) (kd := 12) (by decide) hr
            rw [if_neg hBi, show rkK 12 = 12 from rfl] at is3
            obtain ⟨i2, g1, g2, g10, g3⟩ := R_fl (h := h) (A := A) (w := 2) (by omega) hr
            refine ⟨i2, A, g1, fun z => absurd z rf_no, g2, frF_r, fun d Q hd => ?_⟩
            obtain ⟨d', rfl⟩ : ∃ d', d = d' + 1 := ⟨d - 1, by omega⟩
            match s, hr, hf with
            | .inl q, hr, hf =>
              have c11 : i 11 = 0 := hr.2.2.1
              have c9 : i 9 = rkK (tkK b n q) := hr.2.2.2.1
              have wd := R_wd (h := h) (A := A) (l := l) (k := tkK b n q) hl tkK_v hi
              have e5 : fctR l (tkK b n q) = -1 := fctR_n (by
                by_cases z : fctK (16 + (l : Int)) (tkK b n q) = -1
                · exact z
                · exact absurd ⟨q, rfl, z⟩ hf)
              rw [e5] at wd
              generalize rkK (tkK b n q) = R at *
              simp (disch := omega) only [e_181_0, e_181_1, e_181_3, e_181_6, e_181_24, e_181_25, e_181_28, e_181_31, e_181_32, e_181_33, e_181_36, e_181_39, e_181_40, e_181_66, e_181_67, e_181_69, e_181_72, e_181_108, e_181_109, e_181_111, e_181_114, e_181_125, e_181_126, e_181_127, e_181_130, is, is2, is3, c11, c9, wd, g3, true_and, mdO_c, mdO_g0, mdO_k0, mdO_g1, mdO_k1, mdO_g2, mdO_k2, mdO_g3, mdO_k3, mdO_g4, mdO_k4, mdO_g5, mdO_k5, mdO_g6, mdO_k6, mdO_g7, mdO_k7, mdO_g8, mdO_k8, mdO_g9, mdO_k9, mdO_g10, mdO_k10, mdO_g11, mdO_k11, mdO_g12, mdO_k12, mdO_g13, mdO_k13, mdO_g14, mdO_k14, mdO_g15, mdO_k15, mdO_g16, mdO_k16, mdO_g17, mdO_k17, mdO_g18, mdO_k18, mdO_g19, mdO_k19, mdO_g20, mdO_k20, mdO_g21, mdO_k21, mdO_g22, mdO_k22, mdO_g23, mdO_k23, mdO_g24, mdO_k24, mdO_g25, mdO_k25, mdO_g26, mdO_k26, mdO_g27, mdO_k27, mdO_g28, mdO_k28, mdO_g29, mdO_k29, mdO_g30, mdO_k30, mdO_g31, mdO_k31, mdO_g32, mdO_k32, mdO_g33, mdO_k33, mdO_g34, mdO_k34, mdO_g35, mdO_k35, mdO_s0, mdO_s5, mdO_s6, mdO_s7, mdO_s8, mdO_s9, mdO_s10, mdO_s11, mdO_s12, mdO_s13, mdO_s14, mdO_s15, mdO_s19, mdO_s20, mdO_s25, mdO_s26, mdO_s31, mdO_s32, md_1, md_2, md_g71, md_g72, md_g73, md_g74, md_g75, md_g76, md_g77, md_g78, md_g79, md_g80, md_g81, md_g82, md_g83, md_g84, md_g85, md_g86, md_g87, md_g88, md_g89, md_out, md_u71, md_u72, md_u73, md_u74, md_u75, md_u76, md_u77, md_u78, md_u79, md_u80, md_u81, md_u82, md_u83, md_u84, md_u85, md_u86, md_u87, md_u88, md_u89, md_uo, iup_s, iup_n, aup_s, aup_n, ne_eq, not_false_eq_true, sh_0, sh_1, sh_2, sh_3, sh_4, sh_5, sh_8, sh_15, sh_16, sh_24, Int.reducePow, Int.cast_ofNat_Int, w_of, wl_of, ltT, ltF, leT, leF, eqT, eqF, okF_0, okF_s, gF_0, gF_s, consC_o, sF_0, sF_s, clsO_o, inA_i, ldA_i, stA_i, inJ_l, ldJ_l, stJ_l, inR_r, ldR_r, stR_r, tgR_r, lenA_i, lenA_l, lenA_r, lenA_ex, nl_i, nl_o, nl_l, nl_n, wd_n, wd_i, wd_l, wd_o, fit_i, fit_l, fit_o, K_v, K_n, true_and, and_true, Nat.reduceAdd, Nat.reduceLeDiff, Nat.reduceEqDiff, Nat.reduceMul, Nat.reduceLT, reduceIte, true_or, or_true, cmp_lt, cmp_gt, cmp_eq, wb_0, b_01, cmp_lt', cmp_gt', cmp_eq', b_0, b_1, wb_1, Int.reduceSub, Int.reduceToNat, List.getD_cons_succ, List.getD_cons_zero, Int.reduceLE, Int.reduceLT, Int.reduceEq, Int.reduceNeg, Int.reduceAdd, Int.reduceMul, and_self, em_b, ne_eq, not_false_eq_true, not_true_eq_false]
              try rfl
            | .inr (f, a), hr, hf =>
              obtain ⟨c8, c11, c12, f1, f2⟩ := hr
              simp (disch := omega) only [e_181_0, e_181_1, e_181_3, e_181_6, e_181_24, e_181_25, e_181_28, e_181_66, e_181_67, e_181_69, e_181_72, e_181_108, e_181_109, e_181_111, e_181_114, e_181_125, e_181_126, e_181_127, e_181_130, is, is2, is3, c11, g3, true_and, mdO_c, mdO_g0, mdO_k0, mdO_g1, mdO_k1, mdO_g2, mdO_k2, mdO_g3, mdO_k3, mdO_g4, mdO_k4, mdO_g5, mdO_k5, mdO_g6, mdO_k6, mdO_g7, mdO_k7, mdO_g8, mdO_k8, mdO_g9, mdO_k9, mdO_g10, mdO_k10, mdO_g11, mdO_k11, mdO_g12, mdO_k12, mdO_g13, mdO_k13, mdO_g14, mdO_k14, mdO_g15, mdO_k15, mdO_g16, mdO_k16, mdO_g17, mdO_k17, mdO_g18, mdO_k18, mdO_g19, mdO_k19, mdO_g20, mdO_k20, mdO_g21, mdO_k21, mdO_g22, mdO_k22, mdO_g23, mdO_k23, mdO_g24, mdO_k24, mdO_g25, mdO_k25, mdO_g26, mdO_k26, mdO_g27, mdO_k27, mdO_g28, mdO_k28, mdO_g29, mdO_k29, mdO_g30, mdO_k30, mdO_g31, mdO_k31, mdO_g32, mdO_k32, mdO_g33, mdO_k33, mdO_g34, mdO_k34, mdO_g35, mdO_k35, mdO_s0, mdO_s5, mdO_s6, mdO_s7, mdO_s8, mdO_s9, mdO_s10, mdO_s11, mdO_s12, mdO_s13, mdO_s14, mdO_s15, mdO_s19, mdO_s20, mdO_s25, mdO_s26, mdO_s31, mdO_s32, md_1, md_2, md_g71, md_g72, md_g73, md_g74, md_g75, md_g76, md_g77, md_g78, md_g79, md_g80, md_g81, md_g82, md_g83, md_g84, md_g85, md_g86, md_g87, md_g88, md_g89, md_out, md_u71, md_u72, md_u73, md_u74, md_u75, md_u76, md_u77, md_u78, md_u79, md_u80, md_u81, md_u82, md_u83, md_u84, md_u85, md_u86, md_u87, md_u88, md_u89, md_uo, iup_s, iup_n, aup_s, aup_n, ne_eq, not_false_eq_true, sh_0, sh_1, sh_2, sh_3, sh_4, sh_5, sh_8, sh_15, sh_16, sh_24, Int.reducePow, Int.cast_ofNat_Int, w_of, wl_of, ltT, ltF, leT, leF, eqT, eqF, okF_0, okF_s, gF_0, gF_s, consC_o, sF_0, sF_s, clsO_o, inA_i, ldA_i, stA_i, inJ_l, ldJ_l, stJ_l, inR_r, ldR_r, stR_r, tgR_r, lenA_i, lenA_l, lenA_r, lenA_ex, nl_i, nl_o, nl_l, nl_n, wd_n, wd_i, wd_l, wd_o, fit_i, fit_l, fit_o, K_v, K_n, true_and, and_true, Nat.reduceAdd, Nat.reduceLeDiff, Nat.reduceEqDiff, Nat.reduceMul, Nat.reduceLT, reduceIte, true_or, or_true, cmp_lt, cmp_gt, cmp_eq, wb_0, b_01, cmp_lt', cmp_gt', cmp_eq', b_0, b_1, wb_1, Int.reduceSub, Int.reduceToNat, List.getD_cons_succ, List.getD_cons_zero, Int.reduceLE, Int.reduceLT, Int.reduceEq, Int.reduceNeg, Int.reduceAdd, Int.reduceMul, and_self, em_b, ne_eq, not_false_eq_true, not_true_eq_false]
              try rfl
theorem JN_G {cm F rm G G' : Nat} {ct rt : PL} {W : List Int → Prop} {s : TS} (hG : G ≤ G') (h : JN b n l cm ct F rm rt G W deep s) : JN b n l cm ct F rm rt G' W deep s := by
  obtain ⟨s', L, p, w, c, r⟩ := h
  refine ⟨s', L, p, w, c, fun h i A C m hX hT hr hcd hC hi => ?_⟩
  obtain ⟨i', A', a1, a2, a3, a4, a5⟩ := r h i A C m hX hT hr hcd hC hi
  exact ⟨i', A', a1, a2, a3, a4, fun d Q hd => a5 d Q (by omega)⟩
/-- the laws' grammar: both readers, at each depth -/
def JA (b : List Int) (n l D deep : Nat) : Prop := (∀ s, okq n s → JN b n l 75 [none] (6 * D + 9) 181 [] (7 * D + 10) (wfS (6 * D + 4) false) deep s) ∧ (∀ s, okq n s → JN b n l 73 [none, none] (6 * D + 11) 184 [none] (7 * D + 12) (wfS (6 * D + 6) false) deep s) ∧ (∀ s, okq n s → JN b n l 72 [none] (6 * D + 12) 185 [none] (7 * D + 13) (wfS (6 * D + 7) true) deep s) ∧ (∀ s, okq n s → JN b n l 70 [none] (6 * D + 14) 187 [] (7 * D + 15) (wfS (6 * D + 9) true) deep s)
theorem JA_of {D : Nat} (hnb : n ≤ b.length) (hb9 : b.length ≤ 900) (hl : l < 2) (hD : D ≤ 6) (hdp : deep + D = 6) (ha : ∀ s, okq n s → JN b n l 75 [none] (6 * D + 9) 181 [] (7 * D + 10) (wfS (6 * D + 4) false) deep s) (hp : 0 < D → JA b n l (D - 1) (deep + 1)) : JA b n l D deep := by
  have ht := J_term (K := 6 * D + 5) hnb hb9 (by omega) (by omega) ha (fun L w => wf_bin (by omega) (wfS_w w (by omega)) (by omega) (by omega) (fun z => by omega) (fun z => by cases z)) (fun L w => wfS_w w (by omega))
  have hs := J_sum (K := 6 * D + 6) hnb hb9 (by omega) (by omega) ht (fun L o w ho => wf_bin (by omega) (wfS_w w (by omega)) (by omega) (by omega) (fun z => by omega) (fun z => by cases z)) (fun L w => wfS_w w (by omega))
  have hu : ∀ s, okq n s → JN b n l 72 [none] (6 * D + 12) 185 [none] (7 * D + 13) (wfS (6 * D + 7) true) deep s := by
    rcases Nat.eq_zero_or_pos D with z | z
    · exact J_unit (FU := 0) (GU := 0) (FT := 0) (GT := 0) (K := 6 * D + 7) (WU := fun _ => False) (WT := fun _ => False) hnb hb9 (by omega) (by omega) (by omega) (by omega) (by omega) (by omega) (by omega) (by omega) hs (fun z => by omega) (fun z => by omega) (fun L w => w.elim) (fun L w => w.elim)
    · exact J_unit (FU := 6 * (D - 1) + 12) (GU := 7 * (D - 1) + 13) (FT := 6 * (D - 1) + 14) (GT := 7 * (D - 1) + 15) (K := 6 * D + 7) (WU := wfS (6 * (D - 1) + 7) true) (WT := wfS (6 * (D - 1) + 9) true) hnb hb9 (by omega) (by omega) (by omega) (by omega) (by omega) (by omega) (by omega) (by omega) hs (fun _ => (hp z).2.2.1) (fun _ => (hp z).2.2.2) (fun L w => wfS_w w (by omega)) (fun L w => wfS_w w (by omega))
  have hb := J_both (K := 6 * D + 8) hnb hb9 (by omega) (by omega) hu (fun L w => wf_bin (by omega) (wfS_w w (by omega)) (by omega) (by omega) (fun _ => rfl) (fun _ => by omega)) (fun L w => wfS_w w (by omega))
  have htr := J_truth (K := 6 * D + 9) hnb hb9 (by omega) (by omega) hb (fun L w => wf_bin (by omega) (wfS_w w (by omega)) (by omega) (by omega) (fun _ => rfl) (fun _ => by omega)) (fun L w => wfS_w w (by omega))
  exact ⟨ha, hs, hu, htr⟩
theorem J_all (hnb : n ≤ b.length) (hb9 : b.length ≤ 900) (hl : l < 2) : ∀ D deep, deep + D = 6 → JA b n l D deep := by
  intro D
  induction D with
  | zero =>
    intro deep hd
    refine JA_of hnb hb9 hl (by omega) hd ?_ (fun z => by omega)
    have := J_atom (b := b) (n := n) (l := l) (deep := deep) (FS := 7) (FT := 8) (GS := 8) (GT := 8) (K := 4) (WS := fun _ => False) (WT := fun _ => False) hnb hb9 hl (by omega) (by omega) (by omega) (by omega) (by omega) (by omega) (by omega) (fun z => by omega) (fun z => by omega) (fun L1 L2 L3 z => z.elim) (fun L z => z.elim)
    exact this
  | succ D ih =>
    intro deep hd
    have hp := ih (deep + 1) (by omega)
    refine JA_of hnb hb9 hl (by omega) hd ?_ (fun _ => hp)
    exact J_atom (b := b) (n := n) (l := l) (deep := deep) (FS := 6 * D + 11) (FT := 6 * D + 14) (GS := 7 * D + 15) (GT := 7 * D + 15) (K := 6 * (D + 1) + 4) hnb hb9 hl (by omega) (by omega) (by omega) (by omega) (by omega) (by omega) (by omega) (fun _ s hq => JN_G (by omega) (hp.2.1 s hq)) (fun _ => hp.2.2.2) (fun L1 L2 L3 w1 w2 w3 => wf_if (by omega) (wfS_w w1 (by omega)) (wfS_w w2 (by omega)) (wfS_w w3 (by omega))) (fun L w => wfS_w w (by omega))
end jl
