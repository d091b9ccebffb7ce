/-! READING LAWS: units -/
section jl
variable {b : List Int} {n l deep : Nat}
theorem ex_prg {s : TS} {kd : Int} (hk : kd ≠ 32) (hq : okq n s) : prg n s (exS b n kd s) [] := by
  unfold exS
  by_cases z : isB b n s kd = true
  · rw [if_pos z]
    obtain ⟨q, rfl, hk2⟩ := isB_t z
    have hqn := hq q rfl
    have := tkE_le (b := b) hqn
    exact ⟨fun q' e => ⟨q, rfl, by have : tkE b n q = q' := Sum.inl.inj e; show q + 0 ≤ q'; omega, by have : tkE b n q = q' := Sum.inl.inj e; omega⟩, fun x e => by cases e⟩
  · rw [if_neg z]
    match s with
    | .inl q => exact ⟨(fun q' e => by cases e), (fun x e => by cases e)⟩
    | .inr x => exact ⟨(fun q' e => by cases e), fun x e => e⟩
theorem rf_prg {s : TS} {w : Int} {L : List Int} : prg n s (rfS b n w s) L := by
  match s with
  | .inl q => exact ⟨(fun q' e => by cases e), (fun x e => by cases e)⟩
  | .inr x => exact ⟨(fun q' e => by cases e), fun x e => e⟩
theorem rf_no {s : TS} {w : Int} : ¬ alR (rfS b n w s) := by
  match s with
  | .inl q => rintro ⟨q', e⟩; cases e
  | .inr x => rintro ⟨q', e⟩; cases e
theorem alC_R {s : TS} (h : alC b n s) : alR s := by obtain ⟨q, e, -⟩ := h; exact ⟨q, e⟩
theorem ex_al {s : TS} {kd : Int} (h : alC b n (exS b n kd s)) (hk : kd ≠ 33) : alC b n s := by
  obtain ⟨q', e, -⟩ := h
  unfold exS at e
  by_cases z : isB b n s kd = true
  · obtain ⟨q, rfl, hk2⟩ := isB_t z
    exact ⟨q, rfl, by omega⟩
  · rw [if_neg z] at e
    exact absurd ⟨q', e⟩ rf_no
theorem cd_ex {j : Nat → Int} {A : Nat → Int → Int} {C : List Int} {s : TS} (h : cdC j A C (alC b n s)) : cdC j A C (alC b n (exS b n 93 s)) := ⟨h.1, fun z => h.2 (ex_al z (by omega))⟩
theorem cd_exK {j : Nat → Int} {A : Nat → Int → Int} {C : List Int} {s : TS} {kd : Int} (hk : kd ≠ 33) (h : cdC j A C (alC b n s)) : cdC j A C (alC b n (exS b n kd s)) := ⟨h.1, fun z => h.2 (ex_al z hk)⟩
/-- the reference's 'it must stand there': eats, or fails -/
theorem R_exB {h : PH} {i : Nat → Int} {A : Nat → Int → Int} {s : TS} {kd : Int} (hX : txE h) (hT : tapM b A) (hnb : n ≤ b.length) (hkd : kd ∈ kindsL) (hr : rfT b n i s) : ∃ i1 i2, rfT b n i2 (exS b n kd s) ∧ frI [6, 7, 9, 10, 11, 12] i i2 ∧ (∀ d Q, 7 ≤ d → WP d 175 0 [some (vr 71), some (vi (rkK kd))] [] (mdH h i A) Q = Q (some (vi (if isB b n s kd then 1 else 0))) (mdH h i1 A)) ∧ (isB b n s kd = true → i2 = i1) ∧ (¬ isB b n s kd = true → ∀ d Q, WP d 173 0 [some (vr 71), some (vi 2)] [] (mdH h i1 A) Q = Q none (mdH h i2 A)) := by
  obtain ⟨i1, a1, a2, a3⟩ := R_ea (h := h) (A := A) hX hT hnb hkd hr
  unfold exS
  by_cases z : isB b n s kd = true
  · rw [if_pos z] at a1
    rw [if_pos z]
    exact ⟨i1, i1, a1, a2, a3, fun _ => rfl, fun w => absurd z w⟩
  · rw [if_neg z] at a1
    rw [if_neg z]
    obtain ⟨i2, c1, c2, c10, c3⟩ := R_fl (h := h) (A := A) (w := 2) (by omega) a1
    exact ⟨i1, i2, c1, frI_t a2 c2, a3, fun w => absurd w z, fun _ => c3⟩
theorem J_unit {FS GS FU GU FT GT K : Nat} {WU WT : List Int → Prop} (hnb : n ≤ b.length) (hb9 : b.length ≤ 900) (hF : 8 ≤ FS) (hG : 8 ≤ GS) (hFU : FU ≤ FS) (hGU : GU ≤ GS) (hFT : FT ≤ FS) (hGT : GT ≤ GS) (hK : 3 ≤ K) (hdp : deep ≤ 6) (hsum : ∀ s, okq n s → JN b n l 73 [none, none] FS 184 [none] GS (wfS (K - 1) false) deep s)
    (hun : deep < 6 → ∀ s, okq n s → JN b n l 72 [none] FU 185 [none] GU WU (deep + 1) s) (htr : deep < 6 → ∀ s, okq n s → JN b n l 70 [none] FT 187 [] GT WT (deep + 1) s) (hWU : ∀ L, WU L → wfS K true L) (hWT : ∀ L, WT L → wfS K true L) : ∀ s, okq n s → JN b n l 72 [none] (FS + 1) 185 [none] (GS + 1) (wfS K true) deep s := by
  intro s hq
  by_cases hB : isB b n s 20 = true
  · obtain ⟨q, rfl, hk⟩ := isB_t hB
    have hqn := hq q rfl
    have hlt := tkE_lt hqn (show tkK b n q ≠ 32 by omega)
    have hle := (tkE_le (b := b) hqn).2
    have h33 : tkK b n q ≠ 33 := by omega
    by_cases h6 : deep = 6
    · refine ⟨rfS b n 4 (.inl q), [], rf_prg, fun z => absurd z rf_no, fun h i j A C hX hT hc hcd hC hj => ?_, fun h i A C m hX hT hr hcd hC hi => ?_⟩
      · rw [nrm_ok h33] at hc
        have c5 : i 5 = 20 := by rw [hc.2.2.2.2.2.1]; exact hk
        obtain ⟨i1, a1, a2, a3⟩ := C_deep (h := h) (j := j) (deep := deep) hX hT hnb hdp h33 hc
        rw [if_pos h6] at a1 a3
        refine ⟨i1, j, A, a1, ⟨hcd.1, fun z => absurd (alC_R z) rf_no⟩, a2, frI_r, frA_r, fun d Q hd => ?_⟩
        obtain ⟨d', rfl⟩ : ∃ d', d = d' + 1 := ⟨d - 1, by omega⟩
        simp (disch := omega) only [e_72_0, e_72_1, e_72_4, e_72_7, e_72_9, e_72_12, e_72_13, e_72_14, e_72_17, e_72_20, e_72_21, e_72_22, e_72_23, e_72_24, e_72_27, e_72_28, e_72_31, e_72_34, c5, a3, true_and, tkO_c, tkO_g0, tkO_k0, tkO_g1, tkO_k1, tkO_g2, tkO_k2, tkO_g3, tkO_k3, tkO_g4, tkO_k4, tkO_g5, tkO_k5, tkO_g6, tkO_k6, tkO_g7, tkO_k7, tkO_g8, tkO_k8, tkO_s1, tkO_s2, tkO_s3, tkO_s4, tkO_s5, tkO_s6, tkO_s7, tkO_s8, rdO_c, rdO_g0, rdO_k0, rdO_g1, rdO_k1, rdO_g2, rdO_k2, rdO_g3, rdO_k3, rdO_g4, rdO_k4, rdO_g5, rdO_k5, rdO_g6, rdO_k6, rdO_g7, rdO_k7, rdO_g8, rdO_k8, rdO_g9, rdO_k9, rdO_g10, rdO_k10, rdO_g11, rdO_k11, rdO_g12, rdO_k12, rdO_g13, rdO_k13, rdO_g14, rdO_k14, rdO_g15, rdO_k15, rdO_g16, rdO_k16, rdO_g17, rdO_k17, rdO_s2, rdO_s3, rdO_s4, rdO_s10, rdO_s11, rdO_s12, rdO_s13, rdO_s14, rdO_s15, rdO_s16, rdO_s17, rh_1, rh_2, rh_g11, rh_g12, rh_g13, rh_g14, rh_g15, rh_g16, rh_g17, rh_g18, rh_g19, rh_out, rh_u11, rh_u12, rh_u13, rh_u14, rh_u15, rh_u16, rh_u17, rh_u18, rh_u19, iup_s, iup_n, aup_s, aup_n, ne_eq, not_false_eq_true, sh_0, sh_1, sh_2, sh_3, sh_4, sh_5, sh_8, sh_15, sh_16, sh_24, Int.reducePow, Int.cast_ofNat_Int, w_of, wl_of, ltT, ltF, leT, leF, eqT, eqF, okF_0, okF_s, gF_0, gF_s, consC_o, sF_0, sF_s, clsO_o, inA_i, ldA_i, stA_i, inJ_l, ldJ_l, stJ_l, inR_r, ldR_r, stR_r, tgR_r, lenA_i, lenA_l, lenA_r, lenA_ex, nl_i, nl_o, nl_l, nl_n, wd_n, wd_i, wd_l, wd_o, fit_i, fit_l, fit_o, K_v, K_n, true_and, and_true, Nat.reduceAdd, Nat.reduceLeDiff, Nat.reduceEqDiff, Nat.reduceMul, Nat.reduceLT, reduceIte, true_or, or_true, cmp_lt, cmp_gt, cmp_eq, wb_0, b_01, cmp_lt', cmp_gt', cmp_eq', b_0, b_1, wb_1, Int.reduceSub, Int.reduceToNat, List.getD_cons_succ, List.getD_cons_zero, Int.reduceLE, Int.reduceLT, Int.reduceEq, Int.reduceNeg, Int.reduceAdd, Int.reduceMul, and_self, em_b, ne_eq, not_false_eq_true, not_true_eq_false]
        try rfl
      · obtain ⟨i1, a1, a2, a3⟩ := R_gi (h := h) (A := A) (deep := deep) hX hT hnb hdp h33 hr
        rw [if_pos h6] at a1 a3
        have is := r_is (h := h) (A := A) (kd := 20) (by decide) hr
        rw [if_pos hB, show rkK 20 = 20 from rfl] at is
        refine ⟨i1, A, a1, fun z => absurd z rf_no, a2, frF_r, fun d Q hd => ?_⟩
        obtain ⟨d', rfl⟩ : ∃ d', d = d' + 1 := ⟨d - 1, by omega⟩
        simp (disch := omega) only [e_185_0, e_185_1, e_185_3, e_185_6, e_185_9, e_185_10, e_185_11, e_185_14, e_185_17, is, a3, true_and, mdO_c, mdO_g0, mdO_k0, mdO_g1, mdO_k1, mdO_g2, mdO_k2, mdO_g3, mdO_k3, mdO_g4, mdO_k4, mdO_g5, mdO_k5, mdO_g6, mdO_k6, mdO_g7, mdO_k7, mdO_g8, mdO_k8, mdO_g9, mdO_k9, mdO_g10, mdO_k10, mdO_g11, mdO_k11, mdO_g12, mdO_k12, mdO_g13, mdO_k13, mdO_g14, mdO_k14, mdO_g15, mdO_k15, mdO_g16, mdO_k16, mdO_g17, mdO_k17, mdO_g18, mdO_k18, mdO_g19, mdO_k19, mdO_g20, mdO_k20, mdO_g21, mdO_k21, mdO_g22, mdO_k22, mdO_g23, mdO_k23, mdO_g24, mdO_k24, mdO_g25, mdO_k25, mdO_g26, mdO_k26, mdO_g27, mdO_k27, mdO_g28, mdO_k28, mdO_g29, mdO_k29, mdO_g30, mdO_k30, mdO_g31, mdO_k31, mdO_g32, mdO_k32, mdO_g33, mdO_k33, mdO_g34, mdO_k34, mdO_g35, mdO_k35, mdO_s0, mdO_s5, mdO_s6, mdO_s7, mdO_s8, mdO_s9, mdO_s10, mdO_s11, mdO_s12, mdO_s13, mdO_s14, mdO_s15, mdO_s19, mdO_s20, mdO_s25, mdO_s26, mdO_s31, mdO_s32, md_1, md_2, md_g71, md_g72, md_g73, md_g74, md_g75, md_g76, md_g77, md_g78, md_g79, md_g80, md_g81, md_g82, md_g83, md_g84, md_g85, md_g86, md_g87, md_g88, md_g89, md_out, md_u71, md_u72, md_u73, md_u74, md_u75, md_u76, md_u77, md_u78, md_u79, md_u80, md_u81, md_u82, md_u83, md_u84, md_u85, md_u86, md_u87, md_u88, md_u89, md_uo, iup_s, iup_n, aup_s, aup_n, ne_eq, not_false_eq_true, sh_0, sh_1, sh_2, sh_3, sh_4, sh_5, sh_8, sh_15, sh_16, sh_24, Int.reducePow, Int.cast_ofNat_Int, w_of, wl_of, ltT, ltF, leT, leF, eqT, eqF, okF_0, okF_s, gF_0, gF_s, consC_o, sF_0, sF_s, clsO_o, inA_i, ldA_i, stA_i, inJ_l, ldJ_l, stJ_l, inR_r, ldR_r, stR_r, tgR_r, lenA_i, lenA_l, lenA_r, lenA_ex, nl_i, nl_o, nl_l, nl_n, wd_n, wd_i, wd_l, wd_o, fit_i, fit_l, fit_o, K_v, K_n, true_and, and_true, Nat.reduceAdd, Nat.reduceLeDiff, Nat.reduceEqDiff, Nat.reduceMul, Nat.reduceLT, reduceIte, true_or, or_true, cmp_lt, cmp_gt, cmp_eq, wb_0, b_01, cmp_lt', cmp_gt', cmp_eq', b_0, b_1, wb_1, Int.reduceSub, Int.reduceToNat, List.getD_cons_succ, List.getD_cons_zero, Int.reduceLE, Int.reduceLT, Int.reduceEq, Int.reduceNeg, Int.reduceAdd, Int.reduceMul, and_self, em_b, ne_eq, not_false_eq_true, not_true_eq_false]
        try rfl
    · obtain ⟨s2, L2, p2, w2, cs2, rs2⟩ := hun (by omega) (.inl (tkE b n q)) (fun z e => by cases e; exact hle)
      have hp2 : ∀ q2, s2 = .inl q2 → tkE b n q + L2.length ≤ q2 ∧ q2 ≤ n := fun q2 e => by
        obtain ⟨z, e1, e2, e3⟩ := p2.1 q2 e
        cases e1
        exact ⟨e2, e3⟩
      have ed : (deep : Int) + 1 = ((deep + 1 : Nat) : Int) := by omega
      refine ⟨s2, L2 ++ [1018], ⟨fun q2 e => ⟨q, rfl, by have := hp2 q2 e; rw [List.length_append]; show q + (L2.length + 1) ≤ q2; omega, (hp2 q2 e).2⟩, fun x e => by cases e⟩, fun z => wf_not (by omega) (hWU L2 (w2 z)), fun h i j A C hX hT hc hcd hC hj => ?_, fun h i A C m hX hT hr hcd hC hi => ?_⟩
      · have hal : alC b n (.inl q) := ⟨q, rfl, h33⟩
        have hCq := hC q rfl
        rw [nrm_ok h33] at hc
        have c5 : i 5 = 20 := by rw [hc.2.2.2.2.2.1]; exact hk
        obtain ⟨i1, a1, a2, a3⟩ := C_deep (h := h) (j := j) (deep := deep) hX hT hnb hdp h33 hc
        rw [if_neg h6] at a1 a3
        obtain ⟨i2, j2, A2, b1, b2, b3, b4, b5, b6⟩ := cs2 h i1 j A C hX hT a1 ⟨hcd.1, fun _ => hcd.2 hal⟩ (fun z e => by cases e; omega) hj
        obtain ⟨j3, A3, d1, d2, d3, d4⟩ := C_em (h := h) (i := i2) (o := 1018) b2 (fun z => by
          obtain ⟨q2, e, -⟩ := z
          have := hp2 q2 e
          rw [List.length_append]; omega)
        refine ⟨i2, j3, A3, b1, by rw [← List.append_assoc]; exact d1, frI_t a2 b3, frI_t b4 d2, frA_t b5 d3, fun d Q hd => ?_⟩
        obtain ⟨d', rfl⟩ : ∃ d', d = d' + 1 := ⟨d - 1, by omega⟩
        simp (disch := omega) only [e_72_0, e_72_1, e_72_4, e_72_7, e_72_9, e_72_12, e_72_13, e_72_14, e_72_17, e_72_20, e_72_21, e_72_22, e_72_23, e_72_24, e_72_27, e_72_28, e_72_31, e_72_34, c5, a3, b6, d4, ed, true_and, tkO_c, tkO_g0, tkO_k0, tkO_g1, tkO_k1, tkO_g2, tkO_k2, tkO_g3, tkO_k3, tkO_g4, tkO_k4, tkO_g5, tkO_k5, tkO_g6, tkO_k6, tkO_g7, tkO_k7, tkO_g8, tkO_k8, tkO_s1, tkO_s2, tkO_s3, tkO_s4, tkO_s5, tkO_s6, tkO_s7, tkO_s8, rdO_c, rdO_g0, rdO_k0, rdO_g1, rdO_k1, rdO_g2, rdO_k2, rdO_g3, rdO_k3, rdO_g4, rdO_k4, rdO_g5, rdO_k5, rdO_g6, rdO_k6, rdO_g7, rdO_k7, rdO_g8, rdO_k8, rdO_g9, rdO_k9, rdO_g10, rdO_k10, rdO_g11, rdO_k11, rdO_g12, rdO_k12, rdO_g13, rdO_k13, rdO_g14, rdO_k14, rdO_g15, rdO_k15, rdO_g16, rdO_k16, rdO_g17, rdO_k17, rdO_s2, rdO_s3, rdO_s4, rdO_s10, rdO_s11, rdO_s12, rdO_s13, rdO_s14, rdO_s15, rdO_s16, rdO_s17, rh_1, rh_2, rh_g11, rh_g12, rh_g13, rh_g14, rh_g15, rh_g16, rh_g17, rh_g18, rh_g19, rh_out, rh_u11, rh_u12, rh_u13, rh_u14, rh_u15, rh_u16, rh_u17, rh_u18, rh_u19, iup_s, iup_n, aup_s, aup_n, ne_eq, not_false_eq_true, sh_0, sh_1, sh_2, sh_3, sh_4, sh_5, sh_8, sh_15, sh_16, sh_24, Int.reducePow, Int.cast_ofNat_Int, w_of, wl_of, ltT, ltF, leT, leF, eqT, eqF, okF_0, okF_s, gF_0, gF_s, consC_o, sF_0, sF_s, clsO_o, inA_i, ldA_i, stA_i, inJ_l, ldJ_l, stJ_l, inR_r, ldR_r, stR_r, tgR_r, lenA_i, lenA_l, lenA_r, lenA_ex, nl_i, nl_o, nl_l, nl_n, wd_n, wd_i, wd_l, wd_o, fit_i, fit_l, fit_o, K_v, K_n, true_and, and_true, Nat.reduceAdd, Nat.reduceLeDiff, Nat.reduceEqDiff, Nat.reduceMul, Nat.reduceLT, reduceIte, true_or, or_true, cmp_lt, cmp_gt, cmp_eq, wb_0, b_01, cmp_lt', cmp_gt', cmp_eq', b_0, b_1, wb_1, Int.reduceSub, Int.reduceToNat, List.getD_cons_succ, List.getD_cons_zero, Int.reduceLE, Int.reduceLT, Int.reduceEq, Int.reduceNeg, Int.reduceAdd, Int.reduceMul, and_self, em_b, ne_eq, not_false_eq_true, not_true_eq_false]
        try rfl
      · have hCq := hC q rfl
        obtain ⟨i1, a1, a2, a3⟩ := R_gi (h := h) (A := A) (deep := deep) hX hT hnb hdp h33 hr
        rw [if_neg h6] at a1 a3
        have is := r_is (h := h) (A := A) (kd := 20) (by decide) hr
        rw [if_pos hB, show rkK 20 = 20 from rfl] at is
        obtain ⟨i2, A2, b1, b2, b3, b4, b5⟩ := rs2 h i1 A C m hX hT a1 (fun _ => hcd ⟨q, rfl⟩) (fun z e => by cases e; omega) (by rw [a2 15 (by decide)]; exact hi)
        obtain ⟨A3, d1, d2, d3⟩ := R_co (h := h) (l := l) (o := 1018) (v := 3006) (by rfl) b1 (fun z => ⟨b2 z, by
          obtain ⟨q2, e⟩ := z
          have := hp2 q2 e
          rw [List.length_append]; omega⟩)
        refine ⟨i2, A3, b1, fun z => by rw [← List.append_assoc]; exact d1 z, frI_t a2 b3, frF_t b4 d2, fun d Q hd => ?_⟩
        obtain ⟨d', rfl⟩ : ∃ d', d = d' + 1 := ⟨d - 1, by omega⟩
        simp (disch := omega) only [e_185_0, e_185_1, e_185_3, e_185_6, e_185_9, e_185_10, e_185_11, e_185_14, e_185_17, e_185_18, e_185_19, e_185_20, e_185_21, e_185_22, e_185_25, e_185_26, e_185_29, e_185_32, is, a3, b5, d3, ed, true_and, mdO_c, mdO_g0, mdO_k0, mdO_g1, mdO_k1, mdO_g2, mdO_k2, mdO_g3, mdO_k3, mdO_g4, mdO_k4, mdO_g5, mdO_k5, mdO_g6, mdO_k6, mdO_g7, mdO_k7, mdO_g8, mdO_k8, mdO_g9, mdO_k9, mdO_g10, mdO_k10, mdO_g11, mdO_k11, mdO_g12, mdO_k12, mdO_g13, mdO_k13, mdO_g14, mdO_k14, mdO_g15, mdO_k15, mdO_g16, mdO_k16, mdO_g17, mdO_k17, mdO_g18, mdO_k18, mdO_g19, mdO_k19, mdO_g20, mdO_k20, mdO_g21, mdO_k21, mdO_g22, mdO_k22, mdO_g23, mdO_k23, mdO_g24, mdO_k24, mdO_g25, mdO_k25, mdO_g26, mdO_k26, mdO_g27, mdO_k27, mdO_g28, mdO_k28, mdO_g29, mdO_k29, mdO_g30, mdO_k30, mdO_g31, mdO_k31, mdO_g32, mdO_k32, mdO_g33, mdO_k33, mdO_g34, mdO_k34, mdO_g35, mdO_k35, mdO_s0, mdO_s5, mdO_s6, mdO_s7, mdO_s8, mdO_s9, mdO_s10, mdO_s11, mdO_s12, mdO_s13, mdO_s14, mdO_s15, mdO_s19, mdO_s20, mdO_s25, mdO_s26, mdO_s31, mdO_s32, md_1, md_2, md_g71, md_g72, md_g73, md_g74, md_g75, md_g76, md_g77, md_g78, md_g79, md_g80, md_g81, md_g82, md_g83, md_g84, md_g85, md_g86, md_g87, md_g88, md_g89, md_out, md_u71, md_u72, md_u73, md_u74, md_u75, md_u76, md_u77, md_u78, md_u79, md_u80, md_u81, md_u82, md_u83, md_u84, md_u85, md_u86, md_u87, md_u88, md_u89, md_uo, iup_s, iup_n, aup_s, aup_n, ne_eq, not_false_eq_true, sh_0, sh_1, sh_2, sh_3, sh_4, sh_5, sh_8, sh_15, sh_16, sh_24, Int.reducePow, Int.cast_ofNat_Int, w_of, wl_of, ltT, ltF, leT, leF, eqT, eqF, okF_0, okF_s, gF_0, gF_s, consC_o, sF_0, sF_s, clsO_o, inA_i, ldA_i, stA_i, inJ_l, ldJ_l, stJ_l, inR_r, ldR_r, stR_r, tgR_r, lenA_i, lenA_l, lenA_r, lenA_ex, nl_i, nl_o, nl_l, nl_n, wd_n, wd_i, wd_l, wd_o, fit_i, fit_l, fit_o, K_v, K_n, true_and, and_true, Nat.reduceAdd, Nat.reduceLeDiff, Nat.reduceEqDiff, Nat.reduceMul, Nat.reduceLT, reduceIte, true_or, or_true, cmp_lt, cmp_gt, cmp_eq, wb_0, b_01, cmp_lt', cmp_gt', cmp_eq', b_0, b_1, wb_1, Int.reduceSub, Int.reduceToNat, List.getD_cons_succ, List.getD_cons_zero, Int.reduceLE, Int.reduceLT, Int.reduceEq, Int.reduceNeg, Int.reduceAdd, Int.reduceMul, and_self, em_b, ne_eq, not_false_eq_true, not_true_eq_false]
        try rfl
  · by_cases hB2 : isB b n s 91 = true
    · obtain ⟨q, rfl, hk⟩ := isB_t hB2
      have hqn := hq q rfl
      have hlt := tkE_lt hqn (show tkK b n q ≠ 32 by omega)
      have hle := (tkE_le (b := b) hqn).2
      have h33 : tkK b n q ≠ 33 := by omega
      by_cases h6 : deep = 6
      · refine ⟨rfS b n 4 (.inl q), [], rf_prg, fun z => absurd z rf_no, fun h i j A C hX hT hc hcd hC hj => ?_, fun h i A C m hX hT hr hcd hC hi => ?_⟩
        · rw [nrm_ok h33] at hc
          have c5 : i 5 = 91 := by rw [hc.2.2.2.2.2.1]; exact hk
          obtain ⟨i1, a1, a2, a3⟩ := C_deep (h := h) (j := j) (deep := deep) hX hT hnb hdp h33 hc
          rw [if_pos h6] at a1 a3
          refine ⟨i1, j, A, a1, ⟨hcd.1, fun z => absurd (alC_R z) rf_no⟩, a2, frI_r, frA_r, fun d Q hd => ?_⟩
          obtain ⟨d', rfl⟩ : ∃ d', d = d' + 1 := ⟨d - 1, by omega⟩
          simp (disch := omega) only [e_72_0, e_72_1, e_72_4, e_72_7, e_72_9, e_72_35, e_72_36, e_72_39, e_72_42, e_72_44, e_72_47, e_72_48, e_72_49, e_72_52, e_72_55, e_72_56, e_72_57, e_72_58, e_72_59, e_72_62, e_72_63, e_72_66, e_72_68, e_72_71, c5, a3, true_and, tkO_c, tkO_g0, tkO_k0, tkO_g1, tkO_k1, tkO_g2, tkO_k2, tkO_g3, tkO_k3, tkO_g4, tkO_k4, tkO_g5, tkO_k5, tkO_g6, tkO_k6, tkO_g7, tkO_k7, tkO_g8, tkO_k8, tkO_s1, tkO_s2, tkO_s3, tkO_s4, tkO_s5, tkO_s6, tkO_s7, tkO_s8, rdO_c, rdO_g0, rdO_k0, rdO_g1, rdO_k1, rdO_g2, rdO_k2, rdO_g3, rdO_k3, rdO_g4, rdO_k4, rdO_g5, rdO_k5, rdO_g6, rdO_k6, rdO_g7, rdO_k7, rdO_g8, rdO_k8, rdO_g9, rdO_k9, rdO_g10, rdO_k10, rdO_g11, rdO_k11, rdO_g12, rdO_k12, rdO_g13, rdO_k13, rdO_g14, rdO_k14, rdO_g15, rdO_k15, rdO_g16, rdO_k16, rdO_g17, rdO_k17, rdO_s2, rdO_s3, rdO_s4, rdO_s10, rdO_s11, rdO_s12, rdO_s13, rdO_s14, rdO_s15, rdO_s16, rdO_s17, rh_1, rh_2, rh_g11, rh_g12, rh_g13, rh_g14, rh_g15, rh_g16, rh_g17, rh_g18, rh_g19, rh_out, rh_u11, rh_u12, rh_u13, rh_u14, rh_u15, rh_u16, rh_u17, rh_u18, rh_u19, iup_s, iup_n, aup_s, aup_n, ne_eq, not_false_eq_true, sh_0, sh_1, sh_2, sh_3, sh_4, sh_5, sh_8, sh_15, sh_16, sh_24, Int.reducePow, Int.cast_ofNat_Int, w_of, wl_of, ltT, ltF, leT, leF, eqT, eqF, okF_0, okF_s, gF_0, gF_s, consC_o, sF_0, sF_s, clsO_o, inA_i, ldA_i, stA_i, inJ_l, ldJ_l, stJ_l, inR_r, ldR_r, stR_r, tgR_r, lenA_i, lenA_l, lenA_r, lenA_ex, nl_i, nl_o, nl_l, nl_n, wd_n, wd_i, wd_l, wd_o, fit_i, fit_l, fit_o, K_v, K_n, true_and, and_true, Nat.reduceAdd, Nat.reduceLeDiff, Nat.reduceEqDiff, Nat.reduceMul, Nat.reduceLT, reduceIte, true_or, or_true, cmp_lt, cmp_gt, cmp_eq, wb_0, b_01, cmp_lt', cmp_gt', cmp_eq', b_0, b_1, wb_1, Int.reduceSub, Int.reduceToNat, List.getD_cons_succ, List.getD_cons_zero, Int.reduceLE, Int.reduceLT, Int.reduceEq, Int.reduceNeg, Int.reduceAdd, Int.reduceMul, and_self, em_b, ne_eq, not_false_eq_true, not_true_eq_false]
          try rfl
        · obtain ⟨i1, a1, a2, a3⟩ := R_gi (h := h) (A := A) (deep := deep) hX hT hnb hdp h33 hr
          rw [if_pos h6] at a1 a3
          have is := r_is (h := h) (A := A) (kd := 20) (by decide) hr
          rw [if_neg hB, show rkK 20 = 20 from rfl] at is
          have is2 := r_is (h := h) (A := A) (kd := 91) (by decide) hr
          rw [if_pos hB2, show rkK 91 = 37 from rfl] at is2
          refine ⟨i1, A, a1, fun z => absurd z rf_no, a2, frF_r, fun d Q hd => ?_⟩
          obtain ⟨d', rfl⟩ : ∃ d', d = d' + 1 := ⟨d - 1, by omega⟩
          simp (disch := omega) only [e_185_0, e_185_1, e_185_3, e_185_6, e_185_33, e_185_34, e_185_36, e_185_39, e_185_42, e_185_43, e_185_44, e_185_47, e_185_50, is, is2, a3, true_and, mdO_c, mdO_g0, mdO_k0, mdO_g1, mdO_k1, mdO_g2, mdO_k2, mdO_g3, mdO_k3, mdO_g4, mdO_k4, mdO_g5, mdO_k5, mdO_g6, mdO_k6, mdO_g7, mdO_k7, mdO_g8, mdO_k8, mdO_g9, mdO_k9, mdO_g10, mdO_k10, mdO_g11, mdO_k11, mdO_g12, mdO_k12, mdO_g13, mdO_k13, mdO_g14, mdO_k14, mdO_g15, mdO_k15, mdO_g16, mdO_k16, mdO_g17, mdO_k17, mdO_g18, mdO_k18, mdO_g19, mdO_k19, mdO_g20, mdO_k20, mdO_g21, mdO_k21, mdO_g22, mdO_k22, mdO_g23, mdO_k23, mdO_g24, mdO_k24, mdO_g25, mdO_k25, mdO_g26, mdO_k26, mdO_g27, mdO_k27, mdO_g28, mdO_k28, mdO_g29, mdO_k29, mdO_g30, mdO_k30, mdO_g31, mdO_k31, mdO_g32, mdO_k32, mdO_g33, mdO_k33, mdO_g34, mdO_k34, mdO_g35, mdO_k35, mdO_s0, mdO_s5, mdO_s6, mdO_s7, mdO_s8, mdO_s9, mdO_s10, mdO_s11, mdO_s12, mdO_s13, mdO_s14, mdO_s15, mdO_s19, mdO_s20, mdO_s25, mdO_s26, mdO_s31, mdO_s32, md_1, md_2, md_g71, md_g72, md_g73, md_g74, md_g75, md_g76, md_g77, md_g78, md_g79, md_g80, md_g81, md_g82, md_g83, md_g84, md_g85, md_g86, md_g87, md_g88, md_g89, md_out, md_u71, md_u72, md_u73, md_u74, md_u75, md_u76, md_u77, md_u78, md_u79, md_u80, md_u81, md_u82, md_u83, md_u84, md_u85, md_u86, md_u87, md_u88, md_u89, md_uo, iup_s, iup_n, aup_s, aup_n, ne_eq, not_false_eq_true, sh_0, sh_1, sh_2, sh_3, sh_4, sh_5, sh_8, sh_15, sh_16, sh_24, Int.reducePow, Int.cast_ofNat_Int, w_of, wl_of, ltT, ltF, leT, leF, eqT, eqF, okF_0, okF_s, gF_0, gF_s, consC_o, sF_0, sF_s, clsO_o, inA_i, ldA_i, stA_i, inJ_l, ldJ_l, stJ_l, inR_r, ldR_r, stR_r, tgR_r, lenA_i, lenA_l, lenA_r, lenA_ex, nl_i, nl_o, nl_l, nl_n, wd_n, wd_i, wd_l, wd_o, fit_i, fit_l, fit_o, K_v, K_n, true_and, and_true, Nat.reduceAdd, Nat.reduceLeDiff, Nat.reduceEqDiff, Nat.reduceMul, Nat.reduceLT, reduceIte, true_or, or_true, cmp_lt, cmp_gt, cmp_eq, wb_0, b_01, cmp_lt', cmp_gt', cmp_eq', b_0, b_1, wb_1, Int.reduceSub, Int.reduceToNat, List.getD_cons_succ, List.getD_cons_zero, Int.reduceLE, Int.reduceLT, Int.reduceEq, Int.reduceNeg, Int.reduceAdd, Int.reduceMul, and_self, em_b, ne_eq, not_false_eq_true, not_true_eq_false]
          try rfl
      · obtain ⟨s2, L2, p2, w2, cs2, rs2⟩ := htr (by omega) (.inl (tkE b n q)) (fun z e => by cases e; exact hle)
        have hp2 : ∀ q2, s2 = .inl q2 → tkE b n q + L2.length ≤ q2 ∧ q2 ≤ n := fun q2 e => by
          obtain ⟨z, e1, e2, e3⟩ := p2.1 q2 e
          cases e1
          exact ⟨e2, e3⟩
        have ed : (deep : Int) + 1 = ((deep + 1 : Nat) : Int) := by omega
        have pe := ex_prg (b := b) (kd := 93) (by omega) (prg_ok p2)
        have hal2 : alR (exS b n 93 s2) → alR s2 := fun ⟨z, e⟩ => by
          obtain ⟨q2, e2, -⟩ := pe.1 z e; exact ⟨q2, e2⟩
        refine ⟨exS b n 93 s2, L2, ⟨fun q3 e => ?_, fun x e => by cases e⟩, fun z => hWT L2 (w2 (hal2 z)), fun h i j A C hX hT hc hcd hC hj => ?_, fun h i A C m hX hT hr hcd hC hi => ?_⟩
        · obtain ⟨q2, e2, e3, e4⟩ := pe.1 q3 e
          have e3' : q2 + 0 ≤ q3 := e3
          have := hp2 q2 e2
          exact ⟨q, rfl, by omega, e4⟩
        · have hal : alC b n (.inl q) := ⟨q, rfl, h33⟩
          have hCq := hC q rfl
          rw [nrm_ok h33] at hc
          have c5 : i 5 = 91 := by rw [hc.2.2.2.2.2.1]; exact hk
          obtain ⟨i1, a1, a2, a3⟩ := C_deep (h := h) (j := j) (deep := deep) hX hT hnb hdp h33 hc
          rw [if_neg h6] at a1 a3
          obtain ⟨i2, j2, A2, b1, b2, b3, b4, b5, b6⟩ := cs2 h i1 j A C hX hT a1 ⟨hcd.1, fun _ => hcd.2 hal⟩ (fun z e => by cases e; omega) hj
          obtain ⟨i3, d1, d2, d3⟩ := C_ex (h := h) (j := j2) (A := A2) (kd := 93) hX (tapC_fr hT b5) hnb (by omega) (by omega) (by omega) (by omega) b1
          refine ⟨i3, j2, A2, d1, cd_ex b2, frI_t a2 (frI_t b3 d2), b4, b5, fun d Q hd => ?_⟩
          obtain ⟨d', rfl⟩ : ∃ d', d = d' + 1 := ⟨d - 1, by omega⟩
          simp (disch := omega) only [e_72_0, e_72_1, e_72_4, e_72_7, e_72_9, e_72_35, e_72_36, e_72_39, e_72_42, e_72_44, e_72_47, e_72_48, e_72_49, e_72_52, e_72_55, e_72_56, e_72_57, e_72_58, e_72_59, e_72_62, e_72_63, e_72_66, e_72_68, e_72_71, c5, a3, b6, d3, ed, true_and, tkO_c, tkO_g0, tkO_k0, tkO_g1, tkO_k1, tkO_g2, tkO_k2, tkO_g3, tkO_k3, tkO_g4, tkO_k4, tkO_g5, tkO_k5, tkO_g6, tkO_k6, tkO_g7, tkO_k7, tkO_g8, tkO_k8, tkO_s1, tkO_s2, tkO_s3, tkO_s4, tkO_s5, tkO_s6, tkO_s7, tkO_s8, rdO_c, rdO_g0, rdO_k0, rdO_g1, rdO_k1, rdO_g2, rdO_k2, rdO_g3, rdO_k3, rdO_g4, rdO_k4, rdO_g5, rdO_k5, rdO_g6, rdO_k6, rdO_g7, rdO_k7, rdO_g8, rdO_k8, rdO_g9, rdO_k9, rdO_g10, rdO_k10, rdO_g11, rdO_k11, rdO_g12, rdO_k12, rdO_g13, rdO_k13, rdO_g14, rdO_k14, rdO_g15, rdO_k15, rdO_g16, rdO_k16, rdO_g17, rdO_k17, rdO_s2, rdO_s3, rdO_s4, rdO_s10, rdO_s11, rdO_s12, rdO_s13, rdO_s14, rdO_s15, rdO_s16, rdO_s17, rh_1, rh_2, rh_g11, rh_g12, rh_g13, rh_g14, rh_g15, rh_g16, rh_g17, rh_g18, rh_g19, rh_out, rh_u11, rh_u12, rh_u13, rh_u14, rh_u15, rh_u16, rh_u17, rh_u18, rh_u19, iup_s, iup_n, aup_s, aup_n, ne_eq, not_false_eq_true, sh_0, sh_1, sh_2, sh_3, sh_4, sh_5, sh_8, sh_15, sh_16, sh_24, Int.reducePow, Int.cast_ofNat_Int, w_of, wl_of, ltT, ltF, leT, leF, eqT, eqF, okF_0, okF_s, gF_0, gF_s, consC_o, sF_0, sF_s, clsO_o, inA_i, ldA_i, stA_i, inJ_l, ldJ_l, stJ_l, inR_r, ldR_r, stR_r, tgR_r, lenA_i, lenA_l, lenA_r, lenA_ex, nl_i, nl_o, nl_l, nl_n, wd_n, wd_i, wd_l, wd_o, fit_i, fit_l, fit_o, K_v, K_n, true_and, and_true, Nat.reduceAdd, Nat.reduceLeDiff, Nat.reduceEqDiff, Nat.reduceMul, Nat.reduceLT, reduceIte, true_or, or_true, cmp_lt, cmp_gt, cmp_eq, wb_0, b_01, cmp_lt', cmp_gt', cmp_eq', b_0, b_1, wb_1, Int.reduceSub, Int.reduceToNat, List.getD_cons_succ, List.getD_cons_zero, Int.reduceLE, Int.reduceLT, Int.reduceEq, Int.reduceNeg, Int.reduceAdd, Int.reduceMul, and_self, em_b, ne_eq, not_false_eq_true, not_true_eq_false]
          try rfl
        · have hCq := hC q rfl
          obtain ⟨i1, a1, a2, a3⟩ := R_gi (h := h) (A := A) (deep := deep) hX hT hnb hdp h33 hr
          rw [if_neg h6] at a1 a3
          have is := r_is (h := h) (A := A) (kd := 20) (by decide) hr
          rw [if_neg hB, show rkK 20 = 20 from rfl] at is
          have is2 := r_is (h := h) (A := A) (kd := 91) (by decide) hr
          rw [if_pos hB2, show rkK 91 = 37 from rfl] at is2
          obtain ⟨i2, A2, b1, b2, b3, b4, b5⟩ := rs2 h i1 A C m hX hT a1 (fun _ => hcd ⟨q, rfl⟩) (fun z e => by cases e; omega) (by rw [a2 15 (by decide)]; exact hi)
          obtain ⟨i3, i4, d1, d2, d3, d4, d5⟩ := R_exB (h := h) (A := A2) (kd := 93) hX (tapM_fr hT b4) hnb (by decide) b1
          rw [show rkK 93 = 38 from rfl] at d3
          refine ⟨i4, A2, d1, fun z => b2 (hal2 z), frI_t a2 (frI_t b3 d2), b4, fun d Q hd => ?_⟩
          obtain ⟨d', rfl⟩ : ∃ d', d = d' + 1 := ⟨d - 1, by omega⟩
          by_cases z : isB b n s2 93 = true
          · rw [d4 z]
            rw [if_pos z] at d3
            simp (disch := omega) only [e_185_0, e_185_1, e_185_3, e_185_6, e_185_33, e_185_34, e_185_36, e_185_39, e_185_42, e_185_43, e_185_44, e_185_47, e_185_50, e_185_51, e_185_52, e_185_53, e_185_54, e_185_55, e_185_58, e_185_59, e_185_61, e_185_64, e_185_67, e_185_68, e_185_69, e_185_72, is, is2, a3, b5, d3, ed, true_and, mdO_c, mdO_g0, mdO_k0, mdO_g1, mdO_k1, mdO_g2, mdO_k2, mdO_g3, mdO_k3, mdO_g4, mdO_k4, mdO_g5, mdO_k5, mdO_g6, mdO_k6, mdO_g7, mdO_k7, mdO_g8, mdO_k8, mdO_g9, mdO_k9, mdO_g10, mdO_k10, mdO_g11, mdO_k11, mdO_g12, mdO_k12, mdO_g13, mdO_k13, mdO_g14, mdO_k14, mdO_g15, mdO_k15, mdO_g16, mdO_k16, mdO_g17, mdO_k17, mdO_g18, mdO_k18, mdO_g19, mdO_k19, mdO_g20, mdO_k20, mdO_g21, mdO_k21, mdO_g22, mdO_k22, mdO_g23, mdO_k23, mdO_g24, mdO_k24, mdO_g25, mdO_k25, mdO_g26, mdO_k26, mdO_g27, mdO_k27, mdO_g28, mdO_k28, mdO_g29, mdO_k29, mdO_g30, mdO_k30, mdO_g31, mdO_k31, mdO_g32, mdO_k32, mdO_g33, mdO_k33, mdO_g34, mdO_k34, mdO_g35, mdO_k35, mdO_s0, mdO_s5, mdO_s6, mdO_s7, mdO_s8, mdO_s9, mdO_s10, mdO_s11, mdO_s12, mdO_s13, mdO_s14, mdO_s15, mdO_s19, mdO_s20, mdO_s25, mdO_s26, mdO_s31, mdO_s32, md_1, md_2, md_g71, md_g72, md_g73, md_g74, md_g75, md_g76, md_g77, md_g78, md_g79, md_g80, md_g81, md_g82, md_g83, md_g84, md_g85, md_g86, md_g87, md_g88, md_g89, md_out, md_u71, md_u72, md_u73, md_u74, md_u75, md_u76, md_u77, md_u78, md_u79, md_u80, md_u81, md_u82, md_u83, md_u84, md_u85, md_u86, md_u87, md_u88, md_u89, md_uo, iup_s, iup_n, aup_s, aup_n, ne_eq, not_false_eq_true, sh_0, sh_1, sh_2, sh_3, sh_4, sh_5, sh_8, sh_15, sh_16, sh_24, Int.reducePow, Int.cast_ofNat_Int, w_of, wl_of, ltT, ltF, leT, leF, eqT, eqF, okF_0, okF_s, gF_0, gF_s, consC_o, sF_0, sF_s, clsO_o, inA_i, ldA_i, stA_i, inJ_l, ldJ_l, stJ_l, inR_r, ldR_r, stR_r, tgR_r, lenA_i, lenA_l, lenA_r, lenA_ex, nl_i, nl_o, nl_l, nl_n, wd_n, wd_i, wd_l, wd_o, fit_i, fit_l, fit_o, K_v, K_n, true_and, and_true, Nat.reduceAdd, Nat.reduceLeDiff, Nat.reduceEqDiff, Nat.reduceMul, Nat.reduceLT, reduceIte, true_or, or_true, cmp_lt, cmp_gt, cmp_eq, wb_0, b_01, cmp_lt', cmp_gt', cmp_eq', b_0, b_1, wb_1, Int.reduceSub, Int.reduceToNat, List.getD_cons_succ, List.getD_cons_zero, Int.reduceLE, Int.reduceLT, Int.reduceEq, Int.reduceNeg, Int.reduceAdd, Int.reduceMul, and_self, em_b, ne_eq, not_false_eq_true, not_true_eq_false]
            try rfl
          · rw [if_neg z] at d3
            have d5' := d5 z
            simp (disch := omega) only [e_185_0, e_185_1, e_185_3, e_185_6, e_185_33, e_185_34, e_185_36, e_185_39, e_185_42, e_185_43, e_185_44, e_185_47, e_185_50, e_185_51, e_185_52, e_185_53, e_185_54, e_185_55, e_185_58, e_185_59, e_185_61, e_185_64, e_185_67, e_185_68, e_185_69, e_185_72, is, is2, a3, b5, d3, d5', ed, true_and, mdO_c, mdO_g0, mdO_k0, mdO_g1, mdO_k1, mdO_g2, mdO_k2, mdO_g3, mdO_k3, mdO_g4, mdO_k4, mdO_g5, mdO_k5, mdO_g6, mdO_k6, mdO_g7, mdO_k7, mdO_g8, mdO_k8, mdO_g9, mdO_k9, mdO_g10, mdO_k10, mdO_g11, mdO_k11, mdO_g12, mdO_k12, mdO_g13, mdO_k13, mdO_g14, mdO_k14, mdO_g15, mdO_k15, mdO_g16, mdO_k16, mdO_g17, mdO_k17, mdO_g18, mdO_k18, mdO_g19, mdO_k19, mdO_g20, mdO_k20, mdO_g21, mdO_k21, mdO_g22, mdO_k22, mdO_g23, mdO_k23, mdO_g24, mdO_k24, mdO_g25, mdO_k25, mdO_g26, mdO_k26, mdO_g27, mdO_k27, mdO_g28, mdO_k28, mdO_g29, mdO_k29, mdO_g30, mdO_k30, mdO_g31, mdO_k31, mdO_g32, mdO_k32, mdO_g33, mdO_k33, mdO_g34, mdO_k34, mdO_g35, mdO_k35, mdO_s0, mdO_s5, mdO_s6, mdO_s7, mdO_s8, mdO_s9, mdO_s10, mdO_s11, mdO_s12, mdO_s13, mdO_s14, mdO_s15, mdO_s19, mdO_s20, mdO_s25, mdO_s26, mdO_s31, mdO_s32, md_1, md_2, md_g71, md_g72, md_g73, md_g74, md_g75, md_g76, md_g77, md_g78, md_g79, md_g80, md_g81, md_g82, md_g83, md_g84, md_g85, md_g86, md_g87, md_g88, md_g89, md_out, md_u71, md_u72, md_u73, md_u74, md_u75, md_u76, md_u77, md_u78, md_u79, md_u80, md_u81, md_u82, md_u83, md_u84, md_u85, md_u86, md_u87, md_u88, md_u89, md_uo, iup_s, iup_n, aup_s, aup_n, ne_eq, not_false_eq_true, sh_0, sh_1, sh_2, sh_3, sh_4, sh_5, sh_8, sh_15, sh_16, sh_24, Int.reducePow, Int.cast_ofNat_Int, w_of, wl_of, ltT, ltF, leT, leF, eqT, eqF, okF_0, okF_s, gF_0, gF_s, consC_o, sF_0, sF_s, clsO_o, inA_i, ldA_i, stA_i, inJ_l, ldJ_l, stJ_l, inR_r, ldR_r, stR_r, tgR_r, lenA_i, lenA_l, lenA_r, lenA_ex, nl_i, nl_o, nl_l, nl_n, wd_n, wd_i, wd_l, wd_o, fit_i, fit_l, fit_o, K_v, K_n, true_and, and_true, Nat.reduceAdd, Nat.reduceLeDiff, Nat.reduceEqDiff, Nat.reduceMul, Nat.reduceLT, reduceIte, true_or, or_true, cmp_lt, cmp_gt, cmp_eq, wb_0, b_01, cmp_lt', cmp_gt', cmp_eq', b_0, b_1, wb_1, Int.reduceSub, Int.reduceToNat, List.getD_cons_succ, List.getD_cons_zero, Int.reduceLE, Int.reduceLT, Int.reduceEq, Int.reduceNeg, Int.reduceAdd, Int.reduceMul, and_self, em_b, ne_eq, not_false_eq_true, not_true_eq_false]
            try rfl
    · obtain ⟨s1, L1, p1, w1, cs1, rs1⟩ := hsum s hq
      by_cases hS : isB b n s1 61 = true ∨ isB b n s1 60 = true ∨ isB b n s1 62 = true
      · obtain ⟨q1, rfl, hk⟩ : ∃ q, s1 = .inl q ∧ (tkK b n q = 61 ∨ tkK b n q = 60 ∨ tkK b n q = 62) := by
          rcases hS with z | z | z
          · obtain ⟨q, e, hk⟩ := isB_t z; exact ⟨q, e, Or.inl hk⟩
          · obtain ⟨q, e, hk⟩ := isB_t z; exact ⟨q, e, Or.inr (Or.inl hk)⟩
          · obtain ⟨q, e, hk⟩ := isB_t z; exact ⟨q, e, Or.inr (Or.inr hk)⟩
        obtain ⟨q0, e0, e1, e2⟩ := p1.1 q1 rfl
        have hlt := tkE_lt e2 (show tkK b n q1 ≠ 32 by omega)
        have hle := (tkE_le (b := b) e2).2
        have h33 : tkK b n q1 ≠ 33 := by omega
        obtain ⟨s3, L3, p3, w3, cs3, rs3⟩ := hsum (.inl (tkE b n q1)) (fun z e => by cases e; exact hle)
        have hp3 : ∀ q3, s3 = .inl q3 → tkE b n q1 + L3.length ≤ q3 ∧ q3 ≤ n := fun q3 e => by
          obtain ⟨z, y1, y2, y3⟩ := p3.1 q3 e
          cases y1
          exact ⟨y2, y3⟩
        obtain ⟨op, hop, hop2⟩ : ∃ op : Int, (1013 ≤ op ∧ op ≤ 1015) ∧ (tkK b n q1 = 61 ∧ op = 1013 ∨ tkK b n q1 = 60 ∧ op = 1014 ∨ tkK b n q1 = 62 ∧ op = 1015) := by
          rcases hk with z | z | z
          · exact ⟨1013, by omega, Or.inl ⟨z, rfl⟩⟩
          · exact ⟨1014, by omega, Or.inr (Or.inl ⟨z, rfl⟩)⟩
          · exact ⟨1015, by omega, Or.inr (Or.inr ⟨z, rfl⟩)⟩
        refine ⟨s3, L1 ++ L3 ++ [op], ⟨fun q3 e => ⟨q0, e0, by have := hp3 q3 e; rw [List.length_append, List.length_append]; show q0 + (L1.length + L3.length + 1) ≤ q3; omega, (hp3 q3 e).2⟩, fun x e => by rw [e0] at e; cases e⟩, fun z => wf_cmp (by omega) (wfS_w (w1 ⟨q1, rfl⟩) (by omega)) (w3 z) hop.1 hop.2, fun h i j A C hX hT hc hcd hC hj => ?_, fun h i A C m hX hT hr hcd hC hi => ?_⟩
        · have hCq := hC q0 e0
          obtain ⟨c1, c2, c3⟩ := cl_kind (by omega) (by omega) hc hB
          obtain ⟨c4, -, -⟩ := cl_kind (by omega) (by omega) hc hB2
          obtain ⟨i1, j1, A1, a1, a2, a3, a4, a5, a6⟩ := cs1 h i j A C hX hT hc hcd hC hj
          rw [nrm_ok h33] at a1
          have k5 : i1 5 = tkK b n q1 := a1.2.2.2.2.2.1
          obtain ⟨i2, g1, g2, g3⟩ := C_st1 (h := h) (j := j1) hX (tapC_fr hT a5) hnb a1
          obtain ⟨i3, j3, A3, b1, b2, b3, b4, b5, b6⟩ := cs3 h i2 j1 A1 (C ++ L1) hX (tapC_fr hT a5) g1 ⟨a2.1, fun _ => a2.2 ⟨q1, rfl, h33⟩⟩ (fun z e => by cases e; rw [List.length_append]; omega) (by rw [a4 17 (by decide)]; exact hj)
          obtain ⟨j4, A4, d1, d2, d3, d4⟩ := C_em (h := h) (i := i3) (o := op) b2 (fun z => by
            obtain ⟨q3, e, -⟩ := z
            have := hp3 q3 e
            rw [List.length_append, List.length_append]; omega)
          refine ⟨i3, j4, A4, b1, by rw [← List.append_assoc, ← List.append_assoc]; exact d1, frI_t a3 (frI_t g2 b3), frI_t a4 (frI_t b4 d2), frA_t a5 (frA_t b5 d3), fun d Q hd => ?_⟩
          obtain ⟨d', rfl⟩ : ∃ d', d = d' + 1 := ⟨d - 1, by omega⟩
          rcases hop2 with ⟨z1, z2⟩ | ⟨z1, z2⟩ | ⟨z1, z2⟩
          · subst z2
            rw [z1] at k5
            simp (disch := omega) only [e_72_0, e_72_1, e_72_4, e_72_7, e_72_9, e_72_35, e_72_36, e_72_39, e_72_42, e_72_44, e_72_72, e_72_73, e_72_74, e_72_77, e_72_78, e_72_81, e_72_84, e_72_85, e_72_86, e_72_88, e_72_91, e_72_92, e_72_94, e_72_97, e_72_98, e_72_100, e_72_103, e_72_104, e_72_107, e_72_108, e_72_111, e_72_112, e_72_113, e_72_116, e_72_119, e_72_120, e_72_121, e_72_124, e_72_125, e_72_126, e_72_128, e_72_131, e_72_134, e_72_137, e_72_138, e_72_140, e_72_143, e_72_146, e_72_149, e_72_152, e_72_155, a6, k5, g3, b6, d4, true_and, tkO_c, tkO_g0, tkO_k0, tkO_g1, tkO_k1, tkO_g2, tkO_k2, tkO_g3, tkO_k3, tkO_g4, tkO_k4, tkO_g5, tkO_k5, tkO_g6, tkO_k6, tkO_g7, tkO_k7, tkO_g8, tkO_k8, tkO_s1, tkO_s2, tkO_s3, tkO_s4, tkO_s5, tkO_s6, tkO_s7, tkO_s8, rdO_c, rdO_g0, rdO_k0, rdO_g1, rdO_k1, rdO_g2, rdO_k2, rdO_g3, rdO_k3, rdO_g4, rdO_k4, rdO_g5, rdO_k5, rdO_g6, rdO_k6, rdO_g7, rdO_k7, rdO_g8, rdO_k8, rdO_g9, rdO_k9, rdO_g10, rdO_k10, rdO_g11, rdO_k11, rdO_g12, rdO_k12, rdO_g13, rdO_k13, rdO_g14, rdO_k14, rdO_g15, rdO_k15, rdO_g16, rdO_k16, rdO_g17, rdO_k17, rdO_s2, rdO_s3, rdO_s4, rdO_s10, rdO_s11, rdO_s12, rdO_s13, rdO_s14, rdO_s15, rdO_s16, rdO_s17, rh_1, rh_2, rh_g11, rh_g12, rh_g13, rh_g14, rh_g15, rh_g16, rh_g17, rh_g18, rh_g19, rh_out, rh_u11, rh_u12, rh_u13, rh_u14, rh_u15, rh_u16, rh_u17, rh_u18, rh_u19, iup_s, iup_n, aup_s, aup_n, ne_eq, not_false_eq_true, sh_0, sh_1, sh_2, sh_3, sh_4, sh_5, sh_8, sh_15, sh_16, sh_24, Int.reducePow, Int.cast_ofNat_Int, w_of, wl_of, ltT, ltF, leT, leF, eqT, eqF, okF_0, okF_s, gF_0, gF_s, consC_o, sF_0, sF_s, clsO_o, inA_i, ldA_i, stA_i, inJ_l, ldJ_l, stJ_l, inR_r, ldR_r, stR_r, tgR_r, lenA_i, lenA_l, lenA_r, lenA_ex, nl_i, nl_o, nl_l, nl_n, wd_n, wd_i, wd_l, wd_o, fit_i, fit_l, fit_o, K_v, K_n, true_and, and_true, Nat.reduceAdd, Nat.reduceLeDiff, Nat.reduceEqDiff, Nat.reduceMul, Nat.reduceLT, reduceIte, true_or, or_true, cmp_lt, cmp_gt, cmp_eq, wb_0, b_01, cmp_lt', cmp_gt', cmp_eq', b_0, b_1, wb_1, Int.reduceSub, Int.reduceToNat, List.getD_cons_succ, List.getD_cons_zero, Int.reduceLE, Int.reduceLT, Int.reduceEq, Int.reduceNeg, Int.reduceAdd, Int.reduceMul, and_self, em_b, ne_eq, not_false_eq_true, not_true_eq_false]
            try rfl
          · subst z2
            rw [z1] at k5
            simp (disch := omega) only [e_72_0, e_72_1, e_72_4, e_72_7, e_72_9, e_72_35, e_72_36, e_72_39, e_72_42, e_72_44, e_72_72, e_72_73, e_72_74, e_72_77, e_72_78, e_72_81, e_72_84, e_72_85, e_72_86, e_72_88, e_72_91, e_72_92, e_72_94, e_72_97, e_72_98, e_72_100, e_72_103, e_72_104, e_72_107, e_72_108, e_72_111, e_72_112, e_72_113, e_72_116, e_72_119, e_72_120, e_72_121, e_72_124, e_72_125, e_72_126, e_72_128, e_72_131, e_72_134, e_72_137, e_72_138, e_72_140, e_72_143, e_72_146, e_72_149, e_72_152, e_72_155, a6, k5, g3, b6, d4, true_and, tkO_c, tkO_g0, tkO_k0, tkO_g1, tkO_k1, tkO_g2, tkO_k2, tkO_g3, tkO_k3, tkO_g4, tkO_k4, tkO_g5, tkO_k5, tkO_g6, tkO_k6, tkO_g7, tkO_k7, tkO_g8, tkO_k8, tkO_s1, tkO_s2, tkO_s3, tkO_s4, tkO_s5, tkO_s6, tkO_s7, tkO_s8, rdO_c, rdO_g0, rdO_k0, rdO_g1, rdO_k1, rdO_g2, rdO_k2, rdO_g3, rdO_k3, rdO_g4, rdO_k4, rdO_g5, rdO_k5, rdO_g6, rdO_k6, rdO_g7, rdO_k7, rdO_g8, rdO_k8, rdO_g9, rdO_k9, rdO_g10, rdO_k10, rdO_g11, rdO_k11, rdO_g12, rdO_k12, rdO_g13, rdO_k13, rdO_g14, rdO_k14, rdO_g15, rdO_k15, rdO_g16, rdO_k16, rdO_g17, rdO_k17, rdO_s2, rdO_s3, rdO_s4, rdO_s10, rdO_s11, rdO_s12, rdO_s13, rdO_s14, rdO_s15, rdO_s16, rdO_s17, rh_1, rh_2, rh_g11, rh_g12, rh_g13, rh_g14, rh_g15, rh_g16, rh_g17, rh_g18, rh_g19, rh_out, rh_u11, rh_u12, rh_u13, rh_u14, rh_u15, rh_u16, rh_u17, rh_u18, rh_u19, iup_s, iup_n, aup_s, aup_n, ne_eq, not_false_eq_true, sh_0, sh_1, sh_2, sh_3, sh_4, sh_5, sh_8, sh_15, sh_16, sh_24, Int.reducePow, Int.cast_ofNat_Int, w_of, wl_of, ltT, ltF, leT, leF, eqT, eqF, okF_0, okF_s, gF_0, gF_s, consC_o, sF_0, sF_s, clsO_o, inA_i, ldA_i, stA_i, inJ_l, ldJ_l, stJ_l, inR_r, ldR_r, stR_r, tgR_r, lenA_i, lenA_l, lenA_r, lenA_ex, nl_i, nl_o, nl_l, nl_n, wd_n, wd_i, wd_l, wd_o, fit_i, fit_l, fit_o, K_v, K_n, true_and, and_true, Nat.reduceAdd, Nat.reduceLeDiff, Nat.reduceEqDiff, Nat.reduceMul, Nat.reduceLT, reduceIte, true_or, or_true, cmp_lt, cmp_gt, cmp_eq, wb_0, b_01, cmp_lt', cmp_gt', cmp_eq', b_0, b_1, wb_1, Int.reduceSub, Int.reduceToNat, List.getD_cons_succ, List.getD_cons_zero, Int.reduceLE, Int.reduceLT, Int.reduceEq, Int.reduceNeg, Int.reduceAdd, Int.reduceMul, and_self, em_b, ne_eq, not_false_eq_true, not_true_eq_false]
            try rfl
          · subst z2
            rw [z1] at k5
            simp (disch := omega) only [e_72_0, e_72_1, e_72_4, e_72_7, e_72_9, e_72_35, e_72_36, e_72_39, e_72_42, e_72_44, e_72_72, e_72_73, e_72_74, e_72_77, e_72_78, e_72_81, e_72_84, e_72_85, e_72_86, e_72_88, e_72_91, e_72_92, e_72_94, e_72_97, e_72_98, e_72_100, e_72_103, e_72_104, e_72_107, e_72_108, e_72_111, e_72_112, e_72_113, e_72_116, e_72_119, e_72_120, e_72_121, e_72_124, e_72_125, e_72_126, e_72_128, e_72_131, e_72_134, e_72_137, e_72_138, e_72_140, e_72_143, e_72_146, e_72_149, e_72_152, e_72_155, a6, k5, g3, b6, d4, true_and, tkO_c, tkO_g0, tkO_k0, tkO_g1, tkO_k1, tkO_g2, tkO_k2, tkO_g3, tkO_k3, tkO_g4, tkO_k4, tkO_g5, tkO_k5, tkO_g6, tkO_k6, tkO_g7, tkO_k7, tkO_g8, tkO_k8, tkO_s1, tkO_s2, tkO_s3, tkO_s4, tkO_s5, tkO_s6, tkO_s7, tkO_s8, rdO_c, rdO_g0, rdO_k0, rdO_g1, rdO_k1, rdO_g2, rdO_k2, rdO_g3, rdO_k3, rdO_g4, rdO_k4, rdO_g5, rdO_k5, rdO_g6, rdO_k6, rdO_g7, rdO_k7, rdO_g8, rdO_k8, rdO_g9, rdO_k9, rdO_g10, rdO_k10, rdO_g11, rdO_k11, rdO_g12, rdO_k12, rdO_g13, rdO_k13, rdO_g14, rdO_k14, rdO_g15, rdO_k15, rdO_g16, rdO_k16, rdO_g17, rdO_k17, rdO_s2, rdO_s3, rdO_s4, rdO_s10, rdO_s11, rdO_s12, rdO_s13, rdO_s14, rdO_s15, rdO_s16, rdO_s17, rh_1, rh_2, rh_g11, rh_g12, rh_g13, rh_g14, rh_g15, rh_g16, rh_g17, rh_g18, rh_g19, rh_out, rh_u11, rh_u12, rh_u13, rh_u14, rh_u15, rh_u16, rh_u17, rh_u18, rh_u19, iup_s, iup_n, aup_s, aup_n, ne_eq, not_false_eq_true, sh_0, sh_1, sh_2, sh_3, sh_4, sh_5, sh_8, sh_15, sh_16, sh_24, Int.reducePow, Int.cast_ofNat_Int, w_of, wl_of, ltT, ltF, leT, leF, eqT, eqF, okF_0, okF_s, gF_0, gF_s, consC_o, sF_0, sF_s, clsO_o, inA_i, ldA_i, stA_i, inJ_l, ldJ_l, stJ_l, inR_r, ldR_r, stR_r, tgR_r, lenA_i, lenA_l, lenA_r, lenA_ex, nl_i, nl_o, nl_l, nl_n, wd_n, wd_i, wd_l, wd_o, fit_i, fit_l, fit_o, K_v, K_n, true_and, and_true, Nat.reduceAdd, Nat.reduceLeDiff, Nat.reduceEqDiff, Nat.reduceMul, Nat.reduceLT, reduceIte, true_or, or_true, cmp_lt, cmp_gt, cmp_eq, wb_0, b_01, cmp_lt', cmp_gt', cmp_eq', b_0, b_1, wb_1, Int.reduceSub, Int.reduceToNat, List.getD_cons_succ, List.getD_cons_zero, Int.reduceLE, Int.reduceLT, Int.reduceEq, Int.reduceNeg, Int.reduceAdd, Int.reduceMul, and_self, em_b, ne_eq, not_false_eq_true, not_true_eq_false]
            try rfl
        · have hCq := hC q0 e0
          have is := r_is (h := h) (A := A) (kd := 20) (by decide) hr
          rw [if_neg hB, show rkK 20 = 20 from rfl] at is
          have is2 := r_is (h := h) (A := A) (kd := 91) (by decide) hr
          rw [if_neg hB2, show rkK 91 = 37 from rfl] at is2
          obtain ⟨i1, A1, a1, a2, a3, a4, a5⟩ := rs1 h i A C m hX hT hr hcd hC hi
          have js1 := r_is (h := h) (A := A1) (kd := 61) (by decide) a1
          have js2 := r_is (h := h) (A := A1) (kd := 60) (by decide) a1
          have js3 := r_is (h := h) (A := A1) (kd := 62) (by decide) a1
          rw [show rkK 61 = 39 from rfl] at js1
          rw [show rkK 60 = 40 from rfl] at js2
          rw [show rkK 62 = 41 from rfl] at js3
          obtain ⟨i2, g1, g2, g3⟩ := R_nx1 (h := h) (A := A1) hX (tapM_fr hT a4) hnb a1
          obtain ⟨i3, A3, b1, b2, b3, b4, b5⟩ := rs3 h i2 A1 (C ++ L1) m hX (tapM_fr hT a4) g1 (fun _ => a2 ⟨q1, rfl⟩) (fun z e => by cases e; rw [List.length_append]; omega) (by rw [g2 15 (by decide), a3 15 (by decide)]; exact hi)
          obtain ⟨A4, d1, d2, d3⟩ := R_co (h := h) (l := l) (o := op) (v := op + 1990) (by rcases hop2 with ⟨-, z⟩ | ⟨-, z⟩ | ⟨-, z⟩ <;> subst z <;> rfl) b1 (fun z => ⟨b2 z, by
            obtain ⟨q3, e⟩ := z
            have := hp3 q3 e
            rw [List.length_append, List.length_append]; omega⟩)
          refine ⟨i3, A4, b1, fun z => by rw [← List.append_assoc, ← List.append_assoc]; exact d1 z, frI_t a3 (frI_t g2 b3), frF_t a4 (frF_t b4 d2), fun d Q hd => ?_⟩
          obtain ⟨d', rfl⟩ : ∃ d', d = d' + 1 := ⟨d - 1, by omega⟩
          rcases hop2 with ⟨z1, z2⟩ | ⟨z1, z2⟩ | ⟨z1, z2⟩
          · subst z2
            rw [if_pos (show isB b n (.inl q1) 61 = true from decide_eq_true z1)] at js1
            have e30 : (1013 : Int) + 1990 = 3003 := rfl
            rw [e30] at d3
            simp (disch := omega) only [e_185_0, e_185_1, e_185_3, e_185_6, e_185_33, e_185_34, e_185_36, e_185_39, e_185_73, e_185_74, e_185_75, e_185_78, e_185_79, e_185_81, e_185_84, e_185_87, e_185_90, e_185_93, e_185_94, e_185_96, e_185_99, e_185_102, e_185_105, e_185_108, e_185_111, e_185_112, e_185_113, e_185_115, e_185_118, e_185_121, e_185_122, e_185_124, e_185_127, e_185_130, e_185_131, e_185_133, e_185_136, e_185_139, e_185_140, e_185_143, e_185_146, e_185_147, e_185_148, e_185_151, e_185_152, e_185_153, e_185_156, e_185_157, e_185_158, e_185_161, is, is2, a5, js1, g3, b5, d3, true_and, mdO_c, mdO_g0, mdO_k0, mdO_g1, mdO_k1, mdO_g2, mdO_k2, mdO_g3, mdO_k3, mdO_g4, mdO_k4, mdO_g5, mdO_k5, mdO_g6, mdO_k6, mdO_g7, mdO_k7, mdO_g8, mdO_k8, mdO_g9, mdO_k9, mdO_g10, mdO_k10, mdO_g11, mdO_k11, mdO_g12, mdO_k12, mdO_g13, mdO_k13, mdO_g14, mdO_k14, mdO_g15, mdO_k15, mdO_g16, mdO_k16, mdO_g17, mdO_k17, mdO_g18, mdO_k18, mdO_g19, mdO_k19, mdO_g20, mdO_k20, mdO_g21, mdO_k21, mdO_g22, mdO_k22, mdO_g23, mdO_k23, mdO_g24, mdO_k24, mdO_g25, mdO_k25, mdO_g26, mdO_k26, mdO_g27, mdO_k27, mdO_g28, mdO_k28, mdO_g29, mdO_k29, mdO_g30, mdO_k30, mdO_g31, mdO_k31, mdO_g32, mdO_k32, mdO_g33, mdO_k33, mdO_g34, mdO_k34, mdO_g35, mdO_k35, mdO_s0, mdO_s5, mdO_s6, mdO_s7, mdO_s8, mdO_s9, mdO_s10, mdO_s11, mdO_s12, mdO_s13, mdO_s14, mdO_s15, mdO_s19, mdO_s20, mdO_s25, mdO_s26, mdO_s31, mdO_s32, md_1, md_2, md_g71, md_g72, md_g73, md_g74, md_g75, md_g76, md_g77, md_g78, md_g79, md_g80, md_g81, md_g82, md_g83, md_g84, md_g85, md_g86, md_g87, md_g88, md_g89, md_out, md_u71, md_u72, md_u73, md_u74, md_u75, md_u76, md_u77, md_u78, md_u79, md_u80, md_u81, md_u82, md_u83, md_u84, md_u85, md_u86, md_u87, md_u88, md_u89, md_uo, iup_s, iup_n, aup_s, aup_n, ne_eq, not_false_eq_true, sh_0, sh_1, sh_2, sh_3, sh_4, sh_5, sh_8, sh_15, sh_16, sh_24, Int.reducePow, Int.cast_ofNat_Int, w_of, wl_of, ltT, ltF, leT, leF, eqT, eqF, okF_0, okF_s, gF_0, gF_s, consC_o, sF_0, sF_s, clsO_o, inA_i, ldA_i, stA_i, inJ_l, ldJ_l, stJ_l, inR_r, ldR_r, stR_r, tgR_r, lenA_i, lenA_l, lenA_r, lenA_ex, nl_i, nl_o, nl_l, nl_n, wd_n, wd_i, wd_l, wd_o, fit_i, fit_l, fit_o, K_v, K_n, true_and, and_true, Nat.reduceAdd, Nat.reduceLeDiff, Nat.reduceEqDiff, Nat.reduceMul, Nat.reduceLT, reduceIte, true_or, or_true, cmp_lt, cmp_gt, cmp_eq, wb_0, b_01, cmp_lt', cmp_gt', cmp_eq', b_0, b_1, wb_1, Int.reduceSub, Int.reduceToNat, List.getD_cons_succ, List.getD_cons_zero, Int.reduceLE, Int.reduceLT, Int.reduceEq, Int.reduceNeg, Int.reduceAdd, Int.reduceMul, and_self, em_b, ne_eq, not_false_eq_true, not_true_eq_false]
            try rfl
          · subst z2
            rw [if_neg (show ¬ isB b n (.inl q1) 61 = true from fun w => by have := of_decide_eq_true w; omega)] at js1
            rw [if_pos (show isB b n (.inl q1) 60 = true from decide_eq_true z1)] at js2
            have e30 : (1014 : Int) + 1990 = 3004 := rfl
            rw [e30] at d3
            simp (disch := omega) only [e_185_0, e_185_1, e_185_3, e_185_6, e_185_33, e_185_34, e_185_36, e_185_39, e_185_73, e_185_74, e_185_75, e_185_78, e_185_79, e_185_81, e_185_84, e_185_87, e_185_90, e_185_93, e_185_94, e_185_96, e_185_99, e_185_102, e_185_105, e_185_108, e_185_111, e_185_112, e_185_113, e_185_115, e_185_118, e_185_121, e_185_122, e_185_124, e_185_127, e_185_130, e_185_131, e_185_133, e_185_136, e_185_139, e_185_140, e_185_143, e_185_146, e_185_147, e_185_148, e_185_151, e_185_152, e_185_153, e_185_156, e_185_157, e_185_158, e_185_161, is, is2, a5, js1, js2, g3, b5, d3, true_and, mdO_c, mdO_g0, mdO_k0, mdO_g1, mdO_k1, mdO_g2, mdO_k2, mdO_g3, mdO_k3, mdO_g4, mdO_k4, mdO_g5, mdO_k5, mdO_g6, mdO_k6, mdO_g7, mdO_k7, mdO_g8, mdO_k8, mdO_g9, mdO_k9, mdO_g10, mdO_k10, mdO_g11, mdO_k11, mdO_g12, mdO_k12, mdO_g13, mdO_k13, mdO_g14, mdO_k14, mdO_g15, mdO_k15, mdO_g16, mdO_k16, mdO_g17, mdO_k17, mdO_g18, mdO_k18, mdO_g19, mdO_k19, mdO_g20, mdO_k20, mdO_g21, mdO_k21, mdO_g22, mdO_k22, mdO_g23, mdO_k23, mdO_g24, mdO_k24, mdO_g25, mdO_k25, mdO_g26, mdO_k26, mdO_g27, mdO_k27, mdO_g28, mdO_k28, mdO_g29, mdO_k29, mdO_g30, mdO_k30, mdO_g31, mdO_k31, mdO_g32, mdO_k32, mdO_g33, mdO_k33, mdO_g34, mdO_k34, mdO_g35, mdO_k35, mdO_s0, mdO_s5, mdO_s6, mdO_s7, mdO_s8, mdO_s9, mdO_s10, mdO_s11, mdO_s12, mdO_s13, mdO_s14, mdO_s15, mdO_s19, mdO_s20, mdO_s25, mdO_s26, mdO_s31, mdO_s32, md_1, md_2, md_g71, md_g72, md_g73, md_g74, md_g75, md_g76, md_g77, md_g78, md_g79, md_g80, md_g81, md_g82, md_g83, md_g84, md_g85, md_g86, md_g87, md_g88, md_g89, md_out, md_u71, md_u72, md_u73, md_u74, md_u75, md_u76, md_u77, md_u78, md_u79, md_u80, md_u81, md_u82, md_u83, md_u84, md_u85, md_u86, md_u87, md_u88, md_u89, md_uo, iup_s, iup_n, aup_s, aup_n, ne_eq, not_false_eq_true, sh_0, sh_1, sh_2, sh_3, sh_4, sh_5, sh_8, sh_15, sh_16, sh_24, Int.reducePow, Int.cast_ofNat_Int, w_of, wl_of, ltT, ltF, leT, leF, eqT, eqF, okF_0, okF_s, gF_0, gF_s, consC_o, sF_0, sF_s, clsO_o, inA_i, ldA_i, stA_i, inJ_l, ldJ_l, stJ_l, inR_r, ldR_r, stR_r, tgR_r, lenA_i, lenA_l, lenA_r, lenA_ex, nl_i, nl_o, nl_l, nl_n, wd_n, wd_i, wd_l, wd_o, fit_i, fit_l, fit_o, K_v, K_n, true_and, and_true, Nat.reduceAdd, Nat.reduceLeDiff, Nat.reduceEqDiff, Nat.reduceMul, Nat.reduceLT, reduceIte, true_or, or_true, cmp_lt, cmp_gt, cmp_eq, wb_0, b_01, cmp_lt', cmp_gt', cmp_eq', b_0, b_1, wb_1, Int.reduceSub, Int.reduceToNat, List.getD_cons_succ, List.getD_cons_zero, Int.reduceLE, Int.reduceLT, Int.reduceEq, Int.reduceNeg, Int.reduceAdd, Int.reduceMul, and_self, em_b, ne_eq, not_false_eq_true, not_true_eq_false]
            try rfl
          · subst z2
            rw [if_neg (show ¬ isB b n (.inl q1) 61 = true from fun w => by have := of_decide_eq_true w; omega)] at js1
            rw [if_neg (show ¬ isB b n (.inl q1) 60 = true from fun w => by have := of_decide_eq_true w; omega)] at js2
            rw [if_pos (show isB b n (.inl q1) 62 = true from decide_eq_true z1)] at js3
            have e30 : (1015 : Int) + 1990 = 3005 := rfl
            rw [e30] at d3
            simp (disch := omega) only [e_185_0, e_185_1, e_185_3, e_185_6, e_185_33, e_185_34, e_185_36, e_185_39, e_185_73, e_185_74, e_185_75, e_185_78, e_185_79, e_185_81, e_185_84, e_185_87, e_185_90, e_185_93, e_185_94, e_185_96, e_185_99, e_185_102, e_185_105, e_185_108, e_185_111, e_185_112, e_185_113, e_185_115, e_185_118, e_185_121, e_185_122, e_185_124, e_185_127, e_185_130, e_185_131, e_185_133, e_185_136, e_185_139, e_185_140, e_185_143, e_185_146, e_185_147, e_185_148, e_185_151, e_185_152, e_185_153, e_185_156, e_185_157, e_185_158, e_185_161, is, is2, a5, js1, js2, js3, g3, b5, d3, true_and, mdO_c, mdO_g0, mdO_k0, mdO_g1, mdO_k1, mdO_g2, mdO_k2, mdO_g3, mdO_k3, mdO_g4, mdO_k4, mdO_g5, mdO_k5, mdO_g6, mdO_k6, mdO_g7, mdO_k7, mdO_g8, mdO_k8, mdO_g9, mdO_k9, mdO_g10, mdO_k10, mdO_g11, mdO_k11, mdO_g12, mdO_k12, mdO_g13, mdO_k13, mdO_g14, mdO_k14, mdO_g15, mdO_k15, mdO_g16, mdO_k16, mdO_g17, mdO_k17, mdO_g18, mdO_k18, mdO_g19, mdO_k19, mdO_g20, mdO_k20, mdO_g21, mdO_k21, mdO_g22, mdO_k22, mdO_g23, mdO_k23, mdO_g24, mdO_k24, mdO_g25, mdO_k25, mdO_g26, mdO_k26, mdO_g27, mdO_k27, mdO_g28, mdO_k28, mdO_g29, mdO_k29, mdO_g30, mdO_k30, mdO_g31, mdO_k31, mdO_g32, mdO_k32, mdO_g33, mdO_k33, mdO_g34, mdO_k34, mdO_g35, mdO_k35, mdO_s0, mdO_s5, mdO_s6, mdO_s7, mdO_s8, mdO_s9, mdO_s10, mdO_s11, mdO_s12, mdO_s13, mdO_s14, mdO_s15, mdO_s19, mdO_s20, mdO_s25, mdO_s26, mdO_s31, mdO_s32, md_1, md_2, md_g71, md_g72, md_g73, md_g74, md_g75, md_g76, md_g77, md_g78, md_g79, md_g80, md_g81, md_g82, md_g83, md_g84, md_g85, md_g86, md_g87, md_g88, md_g89, md_out, md_u71, md_u72, md_u73, md_u74, md_u75, md_u76, md_u77, md_u78, md_u79, md_u80, md_u81, md_u82, md_u83, md_u84, md_u85, md_u86, md_u87, md_u88, md_u89, md_uo, iup_s, iup_n, aup_s, aup_n, ne_eq, not_false_eq_true, sh_0, sh_1, sh_2, sh_3, sh_4, sh_5, sh_8, sh_15, sh_16, sh_24, Int.reducePow, Int.cast_ofNat_Int, w_of, wl_of, ltT, ltF, leT, leF, eqT, eqF, okF_0, okF_s, gF_0, gF_s, consC_o, sF_0, sF_s, clsO_o, inA_i, ldA_i, stA_i, inJ_l, ldJ_l, stJ_l, inR_r, ldR_r, stR_r, tgR_r, lenA_i, lenA_l, lenA_r, lenA_ex, nl_i, nl_o, nl_l, nl_n, wd_n, wd_i, wd_l, wd_o, fit_i, fit_l, fit_o, K_v, K_n, true_and, and_true, Nat.reduceAdd, Nat.reduceLeDiff, Nat.reduceEqDiff, Nat.reduceMul, Nat.reduceLT, reduceIte, true_or, or_true, cmp_lt, cmp_gt, cmp_eq, wb_0, b_01, cmp_lt', cmp_gt', cmp_eq', b_0, b_1, wb_1, Int.reduceSub, Int.reduceToNat, List.getD_cons_succ, List.getD_cons_zero, Int.reduceLE, Int.reduceLT, Int.reduceEq, Int.reduceNeg, Int.reduceAdd, Int.reduceMul, and_self, em_b, ne_eq, not_false_eq_true, not_true_eq_false]
            try rfl
      · have hS1 : ¬ isB b n s1 61 = true := fun z => hS (Or.inl z)
        have hS2 : ¬ isB b n s1 60 = true := fun z => hS (Or.inr (Or.inl z))
        have hS3 : ¬ isB b n s1 62 = true := fun z => hS (Or.inr (Or.inr z))
        have pr : prg n s (rfS b n 2 s1) L1 := ⟨fun q' e => absurd ⟨q', e⟩ rf_no, fun x e => (rf_prg (L := [])).2 x (p1.2 x e)⟩
        obtain ⟨s4, L4, p4, w4, cs4, rs4⟩ := hsum (rfS b n 2 s1) (prg_ok pr)
        have e4 : s4 = rfS b n 2 s1 := by
          cases e : rfS b n 2 s1 with
          | inl z => exact absurd ⟨z, e⟩ rf_no
          | inr x => exact p4.2 x e
        refine ⟨rfS b n 2 s1, L1, pr, fun z => absurd z rf_no, fun h i j A C hX hT hc hcd hC hj => ?_, fun h i A C m hX hT hr hcd hC hi => ?_⟩
        · obtain ⟨c1, c2, c3⟩ := cl_kind (by omega) (by omega) hc hB
          obtain ⟨c4, -, -⟩ := cl_kind (by omega) (by omega) hc hB2
          obtain ⟨i1, j1, A1, a1, a2, a3, a4, a5, a6⟩ := cs1 h i j A C hX hT hc hcd hC hj
          obtain ⟨k1, k2, k3⟩ := cl_kind (by omega) (by omega) a1 hS1
          obtain ⟨k4, -, -⟩ := cl_kind (by omega) (by omega) a1 hS2
          obtain ⟨k5, -, -⟩ := cl_kind (by omega) (by omega) a1 hS3
          obtain ⟨i2, g1, g2, g3⟩ := C_rf (h := h) (j := j1) (A := A1) (w := 2) (by omega) a1
          refine ⟨i2, j1, A1, g1, ⟨a2.1, fun z => absurd (alC_R z) rf_no⟩, frI_t a3 g2, a4, a5, fun d Q hd => ?_⟩
          obtain ⟨d', rfl⟩ : ∃ d', d = d' + 1 := ⟨d - 1, by omega⟩
          simp (disch := omega) only [e_72_0, e_72_1, e_72_4, e_72_7, e_72_9, e_72_35, e_72_36, e_72_39, e_72_42, e_72_44, e_72_72, e_72_73, e_72_74, e_72_77, e_72_78, e_72_81, e_72_84, e_72_85, e_72_86, e_72_88, e_72_91, e_72_92, e_72_94, e_72_97, e_72_98, e_72_100, e_72_103, e_72_104, e_72_107, e_72_108, e_72_111, a6, g3, true_and, tkO_c, tkO_g0, tkO_k0, tkO_g1, tkO_k1, tkO_g2, tkO_k2, tkO_g3, tkO_k3, tkO_g4, tkO_k4, tkO_g5, tkO_k5, tkO_g6, tkO_k6, tkO_g7, tkO_k7, tkO_g8, tkO_k8, tkO_s1, tkO_s2, tkO_s3, tkO_s4, tkO_s5, tkO_s6, tkO_s7, tkO_s8, rdO_c, rdO_g0, rdO_k0, rdO_g1, rdO_k1, rdO_g2, rdO_k2, rdO_g3, rdO_k3, rdO_g4, rdO_k4, rdO_g5, rdO_k5, rdO_g6, rdO_k6, rdO_g7, rdO_k7, rdO_g8, rdO_k8, rdO_g9, rdO_k9, rdO_g10, rdO_k10, rdO_g11, rdO_k11, rdO_g12, rdO_k12, rdO_g13, rdO_k13, rdO_g14, rdO_k14, rdO_g15, rdO_k15, rdO_g16, rdO_k16, rdO_g17, rdO_k17, rdO_s2, rdO_s3, rdO_s4, rdO_s10, rdO_s11, rdO_s12, rdO_s13, rdO_s14, rdO_s15, rdO_s16, rdO_s17, rh_1, rh_2, rh_g11, rh_g12, rh_g13, rh_g14, rh_g15, rh_g16, rh_g17, rh_g18, rh_g19, rh_out, rh_u11, rh_u12, rh_u13, rh_u14, rh_u15, rh_u16, rh_u17, rh_u18, rh_u19, iup_s, iup_n, aup_s, aup_n, ne_eq, not_false_eq_true, sh_0, sh_1, sh_2, sh_3, sh_4, sh_5, sh_8, sh_15, sh_16, sh_24, Int.reducePow, Int.cast_ofNat_Int, w_of, wl_of, ltT, ltF, leT, leF, eqT, eqF, okF_0, okF_s, gF_0, gF_s, consC_o, sF_0, sF_s, clsO_o, inA_i, ldA_i, stA_i, inJ_l, ldJ_l, stJ_l, inR_r, ldR_r, stR_r, tgR_r, lenA_i, lenA_l, lenA_r, lenA_ex, nl_i, nl_o, nl_l, nl_n, wd_n, wd_i, wd_l, wd_o, fit_i, fit_l, fit_o, K_v, K_n, true_and, and_true, Nat.reduceAdd, Nat.reduceLeDiff, Nat.reduceEqDiff, Nat.reduceMul, Nat.reduceLT, reduceIte, true_or, or_true, cmp_lt, cmp_gt, cmp_eq, wb_0, b_01, cmp_lt', cmp_gt', cmp_eq', b_0, b_1, wb_1, Int.reduceSub, Int.reduceToNat, List.getD_cons_succ, List.getD_cons_zero, Int.reduceLE, Int.reduceLT, Int.reduceEq, Int.reduceNeg, Int.reduceAdd, Int.reduceMul, and_self, em_b, ne_eq, not_false_eq_true, not_true_eq_false]
          try rfl
        · have is := r_is (h := h) (A := A) (kd := 20) (by decide) hr
          rw [if_neg hB, show rkK 20 = 20 from rfl] at is
          have is2 := r_is (h := h) (A := A) (kd := 91) (by decide) hr
          rw [if_neg hB2, show rkK 91 = 37 from rfl] at is2
          obtain ⟨i1, A1, a1, a2, a3, a4, a5⟩ := rs1 h i A C m hX hT hr hcd hC hi
          have js1 := r_is (h := h) (A := A1) (kd := 61) (by decide) a1
          have js2 := r_is (h := h) (A := A1) (kd := 60) (by decide) a1
          have js3 := r_is (h := h) (A := A1) (kd := 62) (by decide) a1
          rw [if_neg hS1, show rkK 61 = 39 from rfl] at js1
          rw [if_neg hS2, show rkK 60 = 40 from rfl] at js2
          rw [if_neg hS3, show rkK 62 = 41 from rfl] at js3
          obtain ⟨i2, g1, g2, g10, g3⟩ := R_fl (h := h) (A := A1) (w := 2) (by omega) a1
          obtain ⟨i3, A3, b1, b2, b3, b4, b5⟩ := rs4 h i2 A1 (C ++ L1) m hX (tapM_fr hT a4) g1 (fun z => absurd z rf_no) (fun z e => absurd ⟨z, e⟩ rf_no) (by rw [g2 15 (by decide), a3 15 (by decide)]; exact hi)
          rw [e4] at b1
          obtain ⟨A4, d1, d2, d3⟩ := R_co (h := h) (m := m) (l := l) (C := C) (o := 1015) (v := 3005) (by rfl) b1 (fun z => absurd z rf_no)
          refine ⟨i3, A4, b1, fun z => absurd z rf_no, frI_t a3 (frI_t g2 b3), frF_t a4 (frF_t b4 d2), fun d Q hd => ?_⟩
          obtain ⟨d', rfl⟩ : ∃ d', d = d' + 1 := ⟨d - 1, by omega⟩
          simp (disch := omega) only [e_185_0, e_185_1, e_185_3, e_185_6, e_185_33, e_185_34, e_185_36, e_185_39, e_185_73, e_185_74, e_185_75, e_185_78, e_185_79, e_185_81, e_185_84, e_185_87, e_185_90, e_185_93, e_185_94, e_185_96, e_185_99, e_185_102, e_185_105, e_185_108, e_185_111, e_185_112, e_185_113, e_185_115, e_185_118, e_185_121, e_185_122, e_185_124, e_185_127, e_185_130, e_185_131, e_185_133, e_185_136, e_185_139, e_185_140, e_185_143, e_185_146, e_185_147, e_185_148, e_185_151, e_185_152, e_185_153, e_185_156, e_185_157, e_185_158, e_185_161, is, is2, a5, js1, js2, js3, g3, b5, d3, true_and, mdO_c, mdO_g0, mdO_k0, mdO_g1, mdO_k1, mdO_g2, mdO_k2, mdO_g3, mdO_k3, mdO_g4, mdO_k4, mdO_g5, mdO_k5, mdO_g6, mdO_k6, mdO_g7, mdO_k7, mdO_g8, mdO_k8, mdO_g9, mdO_k9, mdO_g10, mdO_k10, mdO_g11, mdO_k11, mdO_g12, mdO_k12, mdO_g13, mdO_k13, mdO_g14, mdO_k14, mdO_g15, mdO_k15, mdO_g16, mdO_k16, mdO_g17, mdO_k17, mdO_g18, mdO_k18, mdO_g19, mdO_k19, mdO_g20, mdO_k20, mdO_g21, mdO_k21, mdO_g22, mdO_k22, mdO_g23, mdO_k23, mdO_g24, mdO_k24, mdO_g25, mdO_k25, mdO_g26, mdO_k26, mdO_g27, mdO_k27, mdO_g28, mdO_k28, mdO_g29, mdO_k29, mdO_g30, mdO_k30, mdO_g31, mdO_k31, mdO_g32, mdO_k32, mdO_g33, mdO_k33, mdO_g34, mdO_k34, mdO_g35, mdO_k35, mdO_s0, mdO_s5, mdO_s6, mdO_s7, mdO_s8, mdO_s9, mdO_s10, mdO_s11, mdO_s12, mdO_s13, mdO_s14, mdO_s15, mdO_s19, mdO_s20, mdO_s25, mdO_s26, mdO_s31, mdO_s32, md_1, md_2, md_g71, md_g72, md_g73, md_g74, md_g75, md_g76, md_g77, md_g78, md_g79, md_g80, md_g81, md_g82, md_g83, md_g84, md_g85, md_g86, md_g87, md_g88, md_g89, md_out, md_u71, md_u72, md_u73, md_u74, md_u75, md_u76, md_u77, md_u78, md_u79, md_u80, md_u81, md_u82, md_u83, md_u84, md_u85, md_u86, md_u87, md_u88, md_u89, md_uo, iup_s, iup_n, aup_s, aup_n, ne_eq, not_false_eq_true, sh_0, sh_1, sh_2, sh_3, sh_4, sh_5, sh_8, sh_15, sh_16, sh_24, Int.reducePow, Int.cast_ofNat_Int, w_of, wl_of, ltT, ltF, leT, leF, eqT, eqF, okF_0, okF_s, gF_0, gF_s, consC_o, sF_0, sF_s, clsO_o, inA_i, ldA_i, stA_i, inJ_l, ldJ_l, stJ_l, inR_r, ldR_r, stR_r, tgR_r, lenA_i, lenA_l, lenA_r, lenA_ex, nl_i, nl_o, nl_l, nl_n, wd_n, wd_i, wd_l, wd_o, fit_i, fit_l, fit_o, K_v, K_n, true_and, and_true, Nat.reduceAdd, Nat.reduceLeDiff, Nat.reduceEqDiff, Nat.reduceMul, Nat.reduceLT, reduceIte, true_or, or_true, cmp_lt, cmp_gt, cmp_eq, wb_0, b_01, cmp_lt', cmp_gt', cmp_eq', b_0, b_1, wb_1, Int.reduceSub, Int.reduceToNat, List.getD_cons_succ, List.getD_cons_zero, Int.reduceLE, Int.reduceLT, Int.reduceEq, Int.reduceNeg, Int.reduceAdd, Int.reduceMul, and_self, em_b, ne_eq, not_false_eq_true, not_true_eq_false]
          try rfl
end jl
