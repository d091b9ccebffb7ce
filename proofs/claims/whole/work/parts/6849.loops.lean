/-! READING LAWS: the loops of terms, of both, of truths -/
theorem isB_t {b : List Int} {n : Nat} {s : TS} {kd : Int} (h : isB b n s kd = true) : ∃ q, s = .inl q ∧ tkK b n q = kd := by
  match s, h with
  | .inl q, h => exact ⟨q, rfl, of_decide_eq_true h⟩
  | .inr x, h => cases h
theorem prg_r {n : Nat} {s : TS} (h : okq n s) : prg n s s [] := ⟨fun q e => ⟨q, e, Nat.le_refl _, h q e⟩, fun x e => e⟩
theorem cl_kind {b : List Int} {n : Nat} {s : TS} {i : Nat → Int} {kd : Int} (h1 : kd ≠ 32) (h2 : kd ≠ 33) (hc : clT b n i (nrm b n s)) (hB : ¬ isB b n s kd = true) : i 5 ≠ kd ∧ 0 ≤ i 5 ∧ i 5 ≤ 93 := by
  by_cases q : alC b n s
  · obtain ⟨q, rfl, hk⟩ := q
    rw [nrm_ok hk] at hc
    have c5 : i 5 = tkK b n q := hc.2.2.2.2.2.1
    have hb := tkK_b (b := b) (n := n) (q := q)
    refine ⟨fun z => hB (decide_eq_true (by rw [← c5]; exact z)), by omega, by omega⟩
  · obtain ⟨f, a, e, c7, c8, c5, f1, f2⟩ := cl_dead q hc
    omega
section jl
variable {b : List Int} {n l deep : Nat}
theorem ex_term {FS GS K : Nat} {s : TS} (hF : 8 ≤ FS) (hG : 8 ≤ GS) (hq : okq n s) (hB : ¬ isB b n s 42 = true) : ∃ (s' : TS) (L : List Int), prg n s s' L ∧ (alR s' → wfL K false L) ∧ (∀ k : Nat, k ≤ 900 → (∀ q, s = .inl q → k ≤ q) → CSpec b n l 74 7 [some (vi deep), some (vi k)] (FS + 1) s s' L) ∧ RSpec b n l 183 5 [some (vi deep)] (GS + 1) s s' L := by
  refine ⟨s, [], prg_r hq, fun _ => wf_nil, fun k hk9 hkq h i j A C hX hT hc hcd hC hj => ⟨i, j, A, hc, by rw [List.append_nil]; exact hcd, frI_r, frI_r, frA_r, fun d Q hd => ?_⟩, fun h i A C m hX hT hr hcd hC hi => ?_⟩
  · obtain ⟨c1, c2, c3⟩ := cl_kind (by omega) (by omega) hc hB
    by_cases z : (k : Int) < 900
    · rw [e_74_7]
      simp (disch := omega) only [e_74_8, e_74_11, e_74_14, e_74_15, e_74_18, e_74_21, e_74_23, e_74_51, true_and, tkO_c, tkO_g0, tkO_k0, tkO_g1, tkO_k1, tkO_g2, tkO_k2, tkO_g3, tkO_k3, tkO_g4, tkO_k4, tkO_g5, tkO_k5, tkO_g6, tkO_k6, tkO_g7, tkO_k7, tkO_g8, tkO_k8, tkO_s1, tkO_s2, tkO_s3, tkO_s4, tkO_s5, tkO_s6, tkO_s7, tkO_s8, rdO_c, rdO_g0, rdO_k0, rdO_g1, rdO_k1, rdO_g2, rdO_k2, rdO_g3, rdO_k3, rdO_g4, rdO_k4, rdO_g5, rdO_k5, rdO_g6, rdO_k6, rdO_g7, rdO_k7, rdO_g8, rdO_k8, rdO_g9, rdO_k9, rdO_g10, rdO_k10, rdO_g11, rdO_k11, rdO_g12, rdO_k12, rdO_g13, rdO_k13, rdO_g14, rdO_k14, rdO_g15, rdO_k15, rdO_g16, rdO_k16, rdO_g17, rdO_k17, rdO_s2, rdO_s3, rdO_s4, rdO_s10, rdO_s11, rdO_s12, rdO_s13, rdO_s14, rdO_s15, rdO_s16, rdO_s17, rh_1, rh_2, rh_g11, rh_g12, rh_g13, rh_g14, rh_g15, rh_g16, rh_g17, rh_g18, rh_g19, rh_out, rh_u11, rh_u12, rh_u13, rh_u14, rh_u15, rh_u16, rh_u17, rh_u18, rh_u19, iup_s, iup_n, aup_s, aup_n, ne_eq, not_false_eq_true, sh_0, sh_1, sh_2, sh_3, sh_4, sh_5, sh_8, sh_15, sh_16, sh_24, Int.reducePow, Int.cast_ofNat_Int, w_of, wl_of, ltT, ltF, leT, leF, eqT, eqF, okF_0, okF_s, gF_0, gF_s, consC_o, sF_0, sF_s, clsO_o, inA_i, ldA_i, stA_i, inJ_l, ldJ_l, stJ_l, inR_r, ldR_r, stR_r, tgR_r, lenA_i, lenA_l, lenA_r, lenA_ex, nl_i, nl_o, nl_l, nl_n, wd_n, wd_i, wd_l, wd_o, fit_i, fit_l, fit_o, K_v, K_n, true_and, and_true, Nat.reduceAdd, Nat.reduceLeDiff, Nat.reduceEqDiff, Nat.reduceMul, Nat.reduceLT, reduceIte, true_or, or_true, cmp_lt, cmp_gt, cmp_eq, wb_0, b_01, cmp_lt', cmp_gt', cmp_eq', b_0, b_1, wb_1, Int.reduceSub, Int.reduceToNat, List.getD_cons_succ, List.getD_cons_zero, Int.reduceLE, Int.reduceLT, Int.reduceEq, Int.reduceNeg, Int.reduceAdd, Int.reduceMul, and_self, em_b, ne_eq, not_false_eq_true, not_true_eq_false]
      try rfl
    · rw [e_74_7]
      simp (disch := omega) only [e_74_8, e_74_11, e_74_51, true_and, tkO_c, tkO_g0, tkO_k0, tkO_g1, tkO_k1, tkO_g2, tkO_k2, tkO_g3, tkO_k3, tkO_g4, tkO_k4, tkO_g5, tkO_k5, tkO_g6, tkO_k6, tkO_g7, tkO_k7, tkO_g8, tkO_k8, tkO_s1, tkO_s2, tkO_s3, tkO_s4, tkO_s5, tkO_s6, tkO_s7, tkO_s8, rdO_c, rdO_g0, rdO_k0, rdO_g1, rdO_k1, rdO_g2, rdO_k2, rdO_g3, rdO_k3, rdO_g4, rdO_k4, rdO_g5, rdO_k5, rdO_g6, rdO_k6, rdO_g7, rdO_k7, rdO_g8, rdO_k8, rdO_g9, rdO_k9, rdO_g10, rdO_k10, rdO_g11, rdO_k11, rdO_g12, rdO_k12, rdO_g13, rdO_k13, rdO_g14, rdO_k14, rdO_g15, rdO_k15, rdO_g16, rdO_k16, rdO_g17, rdO_k17, rdO_s2, rdO_s3, rdO_s4, rdO_s10, rdO_s11, rdO_s12, rdO_s13, rdO_s14, rdO_s15, rdO_s16, rdO_s17, rh_1, rh_2, rh_g11, rh_g12, rh_g13, rh_g14, rh_g15, rh_g16, rh_g17, rh_g18, rh_g19, rh_out, rh_u11, rh_u12, rh_u13, rh_u14, rh_u15, rh_u16, rh_u17, rh_u18, rh_u19, iup_s, iup_n, aup_s, aup_n, ne_eq, not_false_eq_true, sh_0, sh_1, sh_2, sh_3, sh_4, sh_5, sh_8, sh_15, sh_16, sh_24, Int.reducePow, Int.cast_ofNat_Int, w_of, wl_of, ltT, ltF, leT, leF, eqT, eqF, okF_0, okF_s, gF_0, gF_s, consC_o, sF_0, sF_s, clsO_o, inA_i, ldA_i, stA_i, inJ_l, ldJ_l, stJ_l, inR_r, ldR_r, stR_r, tgR_r, lenA_i, lenA_l, lenA_r, lenA_ex, nl_i, nl_o, nl_l, nl_n, wd_n, wd_i, wd_l, wd_o, fit_i, fit_l, fit_o, K_v, K_n, true_and, and_true, Nat.reduceAdd, Nat.reduceLeDiff, Nat.reduceEqDiff, Nat.reduceMul, Nat.reduceLT, reduceIte, true_or, or_true, cmp_lt, cmp_gt, cmp_eq, wb_0, b_01, cmp_lt', cmp_gt', cmp_eq', b_0, b_1, wb_1, Int.reduceSub, Int.reduceToNat, List.getD_cons_succ, List.getD_cons_zero, Int.reduceLE, Int.reduceLT, Int.reduceEq, Int.reduceNeg, Int.reduceAdd, Int.reduceMul, and_self, em_b, ne_eq, not_false_eq_true, not_true_eq_false]
      try rfl
  · have is := r_is (h := h) (A := A) (kd := 42) (by decide) hr
    rw [if_neg hB, show rkK 42 = 34 from rfl] at is
    refine ⟨i, A, hr, fun z => by rw [List.append_nil]; exact hcd z, frI_r, frF_r, fun d Q hd => ?_⟩
    obtain ⟨d', rfl⟩ : ∃ d', d = d' + 2 := ⟨d - 2, by omega⟩
    rw [e_183_5]
    simp (disch := omega) only [e_183_6, e_183_8, e_183_11, e_183_29, e_175_0, e_175_1, e_175_2, e_175_5, e_175_8, e_175_9, is, true_and, mdO_c, mdO_g0, mdO_k0, mdO_g1, mdO_k1, mdO_g2, mdO_k2, mdO_g3, mdO_k3, mdO_g4, mdO_k4, mdO_g5, mdO_k5, mdO_g6, mdO_k6, mdO_g7, mdO_k7, mdO_g8, mdO_k8, mdO_g9, mdO_k9, mdO_g10, mdO_k10, mdO_g11, mdO_k11, mdO_g12, mdO_k12, mdO_g13, mdO_k13, mdO_g14, mdO_k14, mdO_g15, mdO_k15, mdO_g16, mdO_k16, mdO_g17, mdO_k17, mdO_g18, mdO_k18, mdO_g19, mdO_k19, mdO_g20, mdO_k20, mdO_g21, mdO_k21, mdO_g22, mdO_k22, mdO_g23, mdO_k23, mdO_g24, mdO_k24, mdO_g25, mdO_k25, mdO_g26, mdO_k26, mdO_g27, mdO_k27, mdO_g28, mdO_k28, mdO_g29, mdO_k29, mdO_g30, mdO_k30, mdO_g31, mdO_k31, mdO_g32, mdO_k32, mdO_g33, mdO_k33, mdO_g34, mdO_k34, mdO_g35, mdO_k35, mdO_s0, mdO_s5, mdO_s6, mdO_s7, mdO_s8, mdO_s9, mdO_s10, mdO_s11, mdO_s12, mdO_s13, mdO_s14, mdO_s15, mdO_s19, mdO_s20, mdO_s25, mdO_s26, mdO_s31, mdO_s32, md_1, md_2, md_g71, md_g72, md_g73, md_g74, md_g75, md_g76, md_g77, md_g78, md_g79, md_g80, md_g81, md_g82, md_g83, md_g84, md_g85, md_g86, md_g87, md_g88, md_g89, md_out, md_u71, md_u72, md_u73, md_u74, md_u75, md_u76, md_u77, md_u78, md_u79, md_u80, md_u81, md_u82, md_u83, md_u84, md_u85, md_u86, md_u87, md_u88, md_u89, md_uo, iup_s, iup_n, aup_s, aup_n, ne_eq, not_false_eq_true, sh_0, sh_1, sh_2, sh_3, sh_4, sh_5, sh_8, sh_15, sh_16, sh_24, Int.reducePow, Int.cast_ofNat_Int, w_of, wl_of, ltT, ltF, leT, leF, eqT, eqF, okF_0, okF_s, gF_0, gF_s, consC_o, sF_0, sF_s, clsO_o, inA_i, ldA_i, stA_i, inJ_l, ldJ_l, stJ_l, inR_r, ldR_r, stR_r, tgR_r, lenA_i, lenA_l, lenA_r, lenA_ex, nl_i, nl_o, nl_l, nl_n, wd_n, wd_i, wd_l, wd_o, fit_i, fit_l, fit_o, K_v, K_n, true_and, and_true, Nat.reduceAdd, Nat.reduceLeDiff, Nat.reduceEqDiff, Nat.reduceMul, Nat.reduceLT, reduceIte, true_or, or_true, cmp_lt, cmp_gt, cmp_eq, wb_0, b_01, cmp_lt', cmp_gt', cmp_eq', b_0, b_1, wb_1, Int.reduceSub, Int.reduceToNat, List.getD_cons_succ, List.getD_cons_zero, Int.reduceLE, Int.reduceLT, Int.reduceEq, Int.reduceNeg, Int.reduceAdd, Int.reduceMul, and_self, em_b, ne_eq, not_false_eq_true, not_true_eq_false]
    try rfl
theorem lp_term {FS GS K : Nat} {W : List Int → Prop} (hnb : n ≤ b.length) (hb9 : b.length ≤ 900) (hF : 8 ≤ FS) (hG : 8 ≤ GS) (hsub : ∀ s, okq n s → JN b n l 75 [none] FS 181 [] GS W deep s) (hW : ∀ L, W L → wfL K false (L ++ [1012])) : ∀ (r : Nat) (s : TS), okq n s → (∀ q, s = .inl q → n - q < r) → ∃ (s' : TS) (L : List Int), prg n s s' L ∧ (alR s' → wfL K false L) ∧ (∀ k : Nat, k ≤ 900 → (∀ q, s = .inl q → k ≤ q) → CSpec b n l 74 7 [some (vi deep), some (vi k)] (FS + 1) s s' L) ∧ RSpec b n l 183 5 [some (vi deep)] (GS + 1) s s' L := by
  intro r
  induction r with
  | zero =>
    intro s hq hr
    have hB : ¬ isB b n s 42 = true := fun w => by
      match s, w with
      | .inl q, w => exact absurd (hr q rfl) (by omega)
      | .inr x, w => cases w
    exact ex_term hF hG hq hB
  | succ r ih =>
    intro s hq hr
    by_cases hB : isB b n s 42 = true
    · obtain ⟨q, rfl, hk⟩ := isB_t hB
      have hqn := hq q rfl
      have hlt := tkE_lt hqn (show tkK b n q ≠ 32 by omega)
      have hle := (tkE_le (b := b) hqn).2
      have h33 : tkK b n q ≠ 33 := by omega
      obtain ⟨s2, L2, p2, w2, cs2, rs2⟩ := hsub (.inl (tkE b n q)) (fun z e => by cases e; exact hle)
      have hp2 : ∀ q2, s2 = .inl q2 → tkE b n q + L2.length ≤ q2 ∧ q2 ≤ n := fun q2 e => by
        obtain ⟨z, e1, e2, e3⟩ := p2.1 q2 e
        cases e1
        exact ⟨e2, e3⟩
      have hrq := hr q rfl
      obtain ⟨s3, L3, p3, w3, cs3, rs3⟩ := ih s2 (prg_ok p2) (fun q2 e => by have := hp2 q2 e; omega)
      refine ⟨s3, L2 ++ [1012] ++ L3, ⟨fun q3 e => ?_, fun x e => by cases e⟩, fun z => ?_, fun k hk9 hkq h i j A C hX hT hc hcd hC hj => ?_, fun h i A C m hX hT hr hcd hC hi => ?_⟩
      · obtain ⟨q2, e1, e2, e3⟩ := p3.1 q3 e
        have := hp2 q2 e1
        exact ⟨q, rfl, by rw [List.length_append, List.length_append]; show q + (L2.length + 1 + L3.length) ≤ q3; omega, e3⟩
      · obtain ⟨q3, e3⟩ := z
        obtain ⟨q2, e2, -⟩ := p3.1 q3 e3
        exact wf_ll (hW L2 (w2 ⟨q2, e2⟩)) (w3 ⟨q3, e3⟩)
      · have hal : alC b n (.inl q) := ⟨q, rfl, h33⟩
        have hCq := hC q rfl
        have hkq' := hkq q rfl
        rw [nrm_ok h33] at hc
        have c5 : i 5 = 42 := by rw [hc.2.2.2.2.2.1]; exact hk
        obtain ⟨i1, a1, a2, a3⟩ := C_st1 (h := h) (j := j) hX hT hnb hc
        obtain ⟨i2, j2, A2, b1, b2, b3, b4, b5, b6⟩ := cs2 h i1 j A C hX hT a1 ⟨hcd.1, fun _ => hcd.2 hal⟩ (fun z e => by cases e; omega) hj
        obtain ⟨j3, A3, d1, d2, d3, d4⟩ := C_em (h := h) (i := i2) (o := 1012) b2 (fun z => by
          obtain ⟨q2, e, -⟩ := z
          have := hp2 q2 e
          rw [List.length_append]; omega)
        obtain ⟨i4, j4, A4, f1, f2, f3, f4, f5, f6⟩ := cs3 (k + 1) (by omega) (fun q2 e => by have := hp2 q2 e; omega) h i2 j3 A3 (C ++ L2 ++ [1012]) hX (tapC_fr hT (frA_t b5 d3)) b1 d1 (fun q2 e => by
          have := hp2 q2 e
          rw [List.length_append, List.length_append]; show C.length + L2.length + 1 ≤ q2; omega) (by rw [d2 17 (by decide), b4 17 (by decide)]; exact hj)
        refine ⟨i4, j4, A4, f1, by rw [← List.append_assoc, ← List.append_assoc]; exact f2, frI_t a2 (frI_t b3 f3), frI_t b4 (frI_t d2 f4), frA_t b5 (frA_t d3 f5), fun d Q hd => ?_⟩
        obtain ⟨d', rfl⟩ : ∃ d', d = d' + 1 := ⟨d - 1, by omega⟩
        rw [← f6 (d' + 1) Q hd]
        have ek : (k : Int) + 1 = ((k + 1 : Nat) : Int) := by omega
        have hk900 : (k : Int) < 900 := by omega
        rw [e_74_7]
        simp (disch := omega) only [e_74_8, e_74_11, e_74_14, e_74_15, e_74_18, e_74_21, e_74_23, e_74_26, e_74_27, e_74_30, e_74_33, e_74_34, e_74_35, e_74_38, e_74_39, e_74_42, e_74_45, e_74_48, c5, a3, b6, d4, ek, true_and, tkO_c, tkO_g0, tkO_k0, tkO_g1, tkO_k1, tkO_g2, tkO_k2, tkO_g3, tkO_k3, tkO_g4, tkO_k4, tkO_g5, tkO_k5, tkO_g6, tkO_k6, tkO_g7, tkO_k7, tkO_g8, tkO_k8, tkO_s1, tkO_s2, tkO_s3, tkO_s4, tkO_s5, tkO_s6, tkO_s7, tkO_s8, rdO_c, rdO_g0, rdO_k0, rdO_g1, rdO_k1, rdO_g2, rdO_k2, rdO_g3, rdO_k3, rdO_g4, rdO_k4, rdO_g5, rdO_k5, rdO_g6, rdO_k6, rdO_g7, rdO_k7, rdO_g8, rdO_k8, rdO_g9, rdO_k9, rdO_g10, rdO_k10, rdO_g11, rdO_k11, rdO_g12, rdO_k12, rdO_g13, rdO_k13, rdO_g14, rdO_k14, rdO_g15, rdO_k15, rdO_g16, rdO_k16, rdO_g17, rdO_k17, rdO_s2, rdO_s3, rdO_s4, rdO_s10, rdO_s11, rdO_s12, rdO_s13, rdO_s14, rdO_s15, rdO_s16, rdO_s17, rh_1, rh_2, rh_g11, rh_g12, rh_g13, rh_g14, rh_g15, rh_g16, rh_g17, rh_g18, rh_g19, rh_out, rh_u11, rh_u12, rh_u13, rh_u14, rh_u15, rh_u16, rh_u17, rh_u18, rh_u19, iup_s, iup_n, aup_s, aup_n, ne_eq, not_false_eq_true, sh_0, sh_1, sh_2, sh_3, sh_4, sh_5, sh_8, sh_15, sh_16, sh_24, Int.reducePow, Int.cast_ofNat_Int, w_of, wl_of, ltT, ltF, leT, leF, eqT, eqF, okF_0, okF_s, gF_0, gF_s, consC_o, sF_0, sF_s, clsO_o, inA_i, ldA_i, stA_i, inJ_l, ldJ_l, stJ_l, inR_r, ldR_r, stR_r, tgR_r, lenA_i, lenA_l, lenA_r, lenA_ex, nl_i, nl_o, nl_l, nl_n, wd_n, wd_i, wd_l, wd_o, fit_i, fit_l, fit_o, K_v, K_n, true_and, and_true, Nat.reduceAdd, Nat.reduceLeDiff, Nat.reduceEqDiff, Nat.reduceMul, Nat.reduceLT, reduceIte, true_or, or_true, cmp_lt, cmp_gt, cmp_eq, wb_0, b_01, cmp_lt', cmp_gt', cmp_eq', b_0, b_1, wb_1, Int.reduceSub, Int.reduceToNat, List.getD_cons_succ, List.getD_cons_zero, Int.reduceLE, Int.reduceLT, Int.reduceEq, Int.reduceNeg, Int.reduceAdd, Int.reduceMul, and_self, em_b, ne_eq, not_false_eq_true, not_true_eq_false]
        try rfl
      · have hCq := hC q rfl
        obtain ⟨i1, a1, a2, a3⟩ := R_ea (h := h) (A := A) (kd := 42) hX hT hnb (by decide) hr
        rw [if_pos hB] at a1
        rw [if_pos hB, show rkK 42 = 34 from rfl] at a3
        obtain ⟨i2, A2, b1, b2, b3, b4, b5⟩ := rs2 h i1 A C m hX hT a1 (fun _ => hcd ⟨q, rfl⟩) (fun z e => by cases e; omega) (by rw [a2 15 (by decide)]; exact hi)
        obtain ⟨A3, d1, d2, d3⟩ := R_co (h := h) (l := l) (o := 1012) (v := 3002) (by rfl) b1 (fun z => ⟨b2 z, by
          obtain ⟨q2, e⟩ := z
          have := hp2 q2 e
          rw [List.length_append]; omega⟩)
        obtain ⟨i4, A4, f1, f2, f3, f4, f5⟩ := rs3 h i2 A3 (C ++ L2 ++ [1012]) m hX (tapM_fr hT (frF_t b4 d2)) b1 d1 (fun q2 e => by
          have := hp2 q2 e
          rw [List.length_append, List.length_append]; show C.length + L2.length + 1 ≤ q2; omega) (by rw [b3 15 (by decide), a2 15 (by decide)]; exact hi)
        refine ⟨i4, A4, f1, fun z => by rw [← List.append_assoc, ← List.append_assoc]; exact f2 z, frI_t a2 (frI_t b3 f3), frF_t b4 (frF_t d2 f4), fun d Q hd => ?_⟩
        obtain ⟨d', rfl⟩ : ∃ d', d = d' + 1 := ⟨d - 1, by omega⟩
        rw [← f5 (d' + 1) Q hd]
        rw [e_183_5]
        simp (disch := omega) only [e_183_6, e_183_8, e_183_11, e_183_14, e_183_15, e_183_16, e_183_19, e_183_20, e_183_23, e_183_26, a3, b5, d3, true_and, mdO_c, mdO_g0, mdO_k0, mdO_g1, mdO_k1, mdO_g2, mdO_k2, mdO_g3, mdO_k3, mdO_g4, mdO_k4, mdO_g5, mdO_k5, mdO_g6, mdO_k6, mdO_g7, mdO_k7, mdO_g8, mdO_k8, mdO_g9, mdO_k9, mdO_g10, mdO_k10, mdO_g11, mdO_k11, mdO_g12, mdO_k12, mdO_g13, mdO_k13, mdO_g14, mdO_k14, mdO_g15, mdO_k15, mdO_g16, mdO_k16, mdO_g17, mdO_k17, mdO_g18, mdO_k18, mdO_g19, mdO_k19, mdO_g20, mdO_k20, mdO_g21, mdO_k21, mdO_g22, mdO_k22, mdO_g23, mdO_k23, mdO_g24, mdO_k24, mdO_g25, mdO_k25, mdO_g26, mdO_k26, mdO_g27, mdO_k27, mdO_g28, mdO_k28, mdO_g29, mdO_k29, mdO_g30, mdO_k30, mdO_g31, mdO_k31, mdO_g32, mdO_k32, mdO_g33, mdO_k33, mdO_g34, mdO_k34, mdO_g35, mdO_k35, mdO_s0, mdO_s5, mdO_s6, mdO_s7, mdO_s8, mdO_s9, mdO_s10, mdO_s11, mdO_s12, mdO_s13, mdO_s14, mdO_s15, mdO_s19, mdO_s20, mdO_s25, mdO_s26, mdO_s31, mdO_s32, md_1, md_2, md_g71, md_g72, md_g73, md_g74, md_g75, md_g76, md_g77, md_g78, md_g79, md_g80, md_g81, md_g82, md_g83, md_g84, md_g85, md_g86, md_g87, md_g88, md_g89, md_out, md_u71, md_u72, md_u73, md_u74, md_u75, md_u76, md_u77, md_u78, md_u79, md_u80, md_u81, md_u82, md_u83, md_u84, md_u85, md_u86, md_u87, md_u88, md_u89, md_uo, iup_s, iup_n, aup_s, aup_n, ne_eq, not_false_eq_true, sh_0, sh_1, sh_2, sh_3, sh_4, sh_5, sh_8, sh_15, sh_16, sh_24, Int.reducePow, Int.cast_ofNat_Int, w_of, wl_of, ltT, ltF, leT, leF, eqT, eqF, okF_0, okF_s, gF_0, gF_s, consC_o, sF_0, sF_s, clsO_o, inA_i, ldA_i, stA_i, inJ_l, ldJ_l, stJ_l, inR_r, ldR_r, stR_r, tgR_r, lenA_i, lenA_l, lenA_r, lenA_ex, nl_i, nl_o, nl_l, nl_n, wd_n, wd_i, wd_l, wd_o, fit_i, fit_l, fit_o, K_v, K_n, true_and, and_true, Nat.reduceAdd, Nat.reduceLeDiff, Nat.reduceEqDiff, Nat.reduceMul, Nat.reduceLT, reduceIte, true_or, or_true, cmp_lt, cmp_gt, cmp_eq, wb_0, b_01, cmp_lt', cmp_gt', cmp_eq', b_0, b_1, wb_1, Int.reduceSub, Int.reduceToNat, List.getD_cons_succ, List.getD_cons_zero, Int.reduceLE, Int.reduceLT, Int.reduceEq, Int.reduceNeg, Int.reduceAdd, Int.reduceMul, and_self, em_b, ne_eq, not_false_eq_true, not_true_eq_false]
        try rfl
    · exact ex_term hF hG hq hB
theorem J_term {FS GS K : Nat} {W : List Int → Prop} (hnb : n ≤ b.length) (hb9 : b.length ≤ 900) (hF : 8 ≤ FS) (hG : 8 ≤ GS) (hsub : ∀ s, okq n s → JN b n l 75 [none] FS 181 [] GS W deep s) (hW : ∀ L, W L → wfL K false (L ++ [1012])) (hW2 : ∀ L, W L → wfS K false L) : ∀ s, okq n s → JN b n l 74 [none] (FS + 1) 183 [] (GS + 1) (wfS K false) deep s := by
  intro s hq
  obtain ⟨s1, L1, p1, w1, cs1, rs1⟩ := hsub s hq
  obtain ⟨s2, L2, p2, w2, cs2, rs2⟩ := lp_term hnb hb9 hF hG hsub hW (n + 1) s1 (prg_ok p1) (fun q _ => by omega)
  refine ⟨s2, L1 ++ L2, prg_t p1 p2, fun z => ?_, fun h i j A C hX hT hc hcd hC hj => ?_, fun h i A C m hX hT hr hcd hC hi => ?_⟩
  · obtain ⟨q2, e2⟩ := z
    obtain ⟨q1, e1, -⟩ := p2.1 q2 e2
    exact wf_sl (hW2 L1 (w1 ⟨q1, e1⟩)) (w2 ⟨q2, e2⟩)
  · obtain ⟨i2, j2, A2, b1, b2, b3, b4, b5, b6⟩ := cs1 h i j A C hX hT hc hcd hC hj
    obtain ⟨i4, j4, A4, f1, f2, f3, f4, f5, f6⟩ := cs2 0 (by omega) (fun q _ => Nat.zero_le _) h i2 j2 A2 (C ++ L1) hX (tapC_fr hT b5) b1 b2 (prg_C p1 hC) (by rw [b4 17 (by decide)]; exact hj)
    refine ⟨i4, j4, A4, f1, by rw [← List.append_assoc]; exact f2, frI_t b3 f3, frI_t b4 f4, frA_t b5 f5, fun d Q hd => ?_⟩
    obtain ⟨d', rfl⟩ : ∃ d', d = d' + 1 := ⟨d - 1, by omega⟩
    have f6' := f6 (d' + 1) Q hd
    rw [nc0] at f6'
    rw [← f6']
    simp (disch := omega) only [e_74_0, e_74_1, e_74_2, e_74_5, e_74_6, b6, true_and, tkO_c, tkO_g0, tkO_k0, tkO_g1, tkO_k1, tkO_g2, tkO_k2, tkO_g3, tkO_k3, tkO_g4, tkO_k4, tkO_g5, tkO_k5, tkO_g6, tkO_k6, tkO_g7, tkO_k7, tkO_g8, tkO_k8, tkO_s1, tkO_s2, tkO_s3, tkO_s4, tkO_s5, tkO_s6, tkO_s7, tkO_s8, rdO_c, rdO_g0, rdO_k0, rdO_g1, rdO_k1, rdO_g2, rdO_k2, rdO_g3, rdO_k3, rdO_g4, rdO_k4, rdO_g5, rdO_k5, rdO_g6, rdO_k6, rdO_g7, rdO_k7, rdO_g8, rdO_k8, rdO_g9, rdO_k9, rdO_g10, rdO_k10, rdO_g11, rdO_k11, rdO_g12, rdO_k12, rdO_g13, rdO_k13, rdO_g14, rdO_k14, rdO_g15, rdO_k15, rdO_g16, rdO_k16, rdO_g17, rdO_k17, rdO_s2, rdO_s3, rdO_s4, rdO_s10, rdO_s11, rdO_s12, rdO_s13, rdO_s14, rdO_s15, rdO_s16, rdO_s17, rh_1, rh_2, rh_g11, rh_g12, rh_g13, rh_g14, rh_g15, rh_g16, rh_g17, rh_g18, rh_g19, rh_out, rh_u11, rh_u12, rh_u13, rh_u14, rh_u15, rh_u16, rh_u17, rh_u18, rh_u19, iup_s, iup_n, aup_s, aup_n, ne_eq, not_false_eq_true, sh_0, sh_1, sh_2, sh_3, sh_4, sh_5, sh_8, sh_15, sh_16, sh_24, Int.reducePow, Int.cast_ofNat_Int, w_of, wl_of, ltT, ltF, leT, leF, eqT, eqF, okF_0, okF_s, gF_0, gF_s, consC_o, sF_0, sF_s, clsO_o, inA_i, ldA_i, stA_i, inJ_l, ldJ_l, stJ_l, inR_r, ldR_r, stR_r, tgR_r, lenA_i, lenA_l, lenA_r, lenA_ex, nl_i, nl_o, nl_l, nl_n, wd_n, wd_i, wd_l, wd_o, fit_i, fit_l, fit_o, K_v, K_n, true_and, and_true, Nat.reduceAdd, Nat.reduceLeDiff, Nat.reduceEqDiff, Nat.reduceMul, Nat.reduceLT, reduceIte, true_or, or_true, cmp_lt, cmp_gt, cmp_eq, wb_0, b_01, cmp_lt', cmp_gt', cmp_eq', b_0, b_1, wb_1, Int.reduceSub, Int.reduceToNat, List.getD_cons_succ, List.getD_cons_zero, Int.reduceLE, Int.reduceLT, Int.reduceEq, Int.reduceNeg, Int.reduceAdd, Int.reduceMul, and_self, em_b, ne_eq, not_false_eq_true, not_true_eq_false]
    try rfl
  · obtain ⟨i2, A2, b1, b2, b3, b4, b5⟩ := rs1 h i A C m hX hT hr hcd hC hi
    obtain ⟨i4, A4, f1, f2, f3, f4, f5⟩ := rs2 h i2 A2 (C ++ L1) m hX (tapM_fr hT b4) b1 b2 (prg_C p1 hC) (by rw [b3 15 (by decide)]; exact hi)
    refine ⟨i4, A4, f1, fun z => by rw [← List.append_assoc]; exact f2 z, frI_t b3 f3, frF_t b4 f4, fun d Q hd => ?_⟩
    obtain ⟨d', rfl⟩ : ∃ d', d = d' + 1 := ⟨d - 1, by omega⟩
    rw [← f5 (d' + 1) Q hd]
    simp (disch := omega) only [e_183_0, e_183_1, e_183_2, b5, true_and, mdO_c, mdO_g0, mdO_k0, mdO_g1, mdO_k1, mdO_g2, mdO_k2, mdO_g3, mdO_k3, mdO_g4, mdO_k4, mdO_g5, mdO_k5, mdO_g6, mdO_k6, mdO_g7, mdO_k7, mdO_g8, mdO_k8, mdO_g9, mdO_k9, mdO_g10, mdO_k10, mdO_g11, mdO_k11, mdO_g12, mdO_k12, mdO_g13, mdO_k13, mdO_g14, mdO_k14, mdO_g15, mdO_k15, mdO_g16, mdO_k16, mdO_g17, mdO_k17, mdO_g18, mdO_k18, mdO_g19, mdO_k19, mdO_g20, mdO_k20, mdO_g21, mdO_k21, mdO_g22, mdO_k22, mdO_g23, mdO_k23, mdO_g24, mdO_k24, mdO_g25, mdO_k25, mdO_g26, mdO_k26, mdO_g27, mdO_k27, mdO_g28, mdO_k28, mdO_g29, mdO_k29, mdO_g30, mdO_k30, mdO_g31, mdO_k31, mdO_g32, mdO_k32, mdO_g33, mdO_k33, mdO_g34, mdO_k34, mdO_g35, mdO_k35, mdO_s0, mdO_s5, mdO_s6, mdO_s7, mdO_s8, mdO_s9, mdO_s10, mdO_s11, mdO_s12, mdO_s13, mdO_s14, mdO_s15, mdO_s19, mdO_s20, mdO_s25, mdO_s26, mdO_s31, mdO_s32, md_1, md_2, md_g71, md_g72, md_g73, md_g74, md_g75, md_g76, md_g77, md_g78, md_g79, md_g80, md_g81, md_g82, md_g83, md_g84, md_g85, md_g86, md_g87, md_g88, md_g89, md_out, md_u71, md_u72, md_u73, md_u74, md_u75, md_u76, md_u77, md_u78, md_u79, md_u80, md_u81, md_u82, md_u83, md_u84, md_u85, md_u86, md_u87, md_u88, md_u89, md_uo, iup_s, iup_n, aup_s, aup_n, ne_eq, not_false_eq_true, sh_0, sh_1, sh_2, sh_3, sh_4, sh_5, sh_8, sh_15, sh_16, sh_24, Int.reducePow, Int.cast_ofNat_Int, w_of, wl_of, ltT, ltF, leT, leF, eqT, eqF, okF_0, okF_s, gF_0, gF_s, consC_o, sF_0, sF_s, clsO_o, inA_i, ldA_i, stA_i, inJ_l, ldJ_l, stJ_l, inR_r, ldR_r, stR_r, tgR_r, lenA_i, lenA_l, lenA_r, lenA_ex, nl_i, nl_o, nl_l, nl_n, wd_n, wd_i, wd_l, wd_o, fit_i, fit_l, fit_o, K_v, K_n, true_and, and_true, Nat.reduceAdd, Nat.reduceLeDiff, Nat.reduceEqDiff, Nat.reduceMul, Nat.reduceLT, reduceIte, true_or, or_true, cmp_lt, cmp_gt, cmp_eq, wb_0, b_01, cmp_lt', cmp_gt', cmp_eq', b_0, b_1, wb_1, Int.reduceSub, Int.reduceToNat, List.getD_cons_succ, List.getD_cons_zero, Int.reduceLE, Int.reduceLT, Int.reduceEq, Int.reduceNeg, Int.reduceAdd, Int.reduceMul, and_self, em_b, ne_eq, not_false_eq_true, not_true_eq_false]
    try rfl
theorem ex_both {FS GS K : Nat} {s : TS} (hF : 8 ≤ FS) (hG : 8 ≤ GS) (hq : okq n s) (hB : ¬ isB b n s 19 = true) : ∃ (s' : TS) (L : List Int), prg n s s' L ∧ (alR s' → wfL K true L) ∧ (∀ k : Nat, k ≤ 900 → (∀ q, s = .inl q → k ≤ q) → CSpec b n l 71 7 [some (vi deep), some (vi k)] (FS + 1) s s' L) ∧ RSpec b n l 186 5 [some (vi deep)] (GS + 1) s s' L := by
  refine ⟨s, [], prg_r hq, fun _ => wf_nil, fun k hk9 hkq h i j A C hX hT hc hcd hC hj => ⟨i, j, A, hc, by rw [List.append_nil]; exact hcd, frI_r, frI_r, frA_r, fun d Q hd => ?_⟩, fun h i A C m hX hT hr hcd hC hi => ?_⟩
  · obtain ⟨c1, c2, c3⟩ := cl_kind (by omega) (by omega) hc hB
    by_cases z : (k : Int) < 900
    · rw [e_71_7]
      simp (disch := omega) only [e_71_8, e_71_11, e_71_14, e_71_15, e_71_18, e_71_21, e_71_23, e_71_51, true_and, tkO_c, tkO_g0, tkO_k0, tkO_g1, tkO_k1, tkO_g2, tkO_k2, tkO_g3, tkO_k3, tkO_g4, tkO_k4, tkO_g5, tkO_k5, tkO_g6, tkO_k6, tkO_g7, tkO_k7, tkO_g8, tkO_k8, tkO_s1, tkO_s2, tkO_s3, tkO_s4, tkO_s5, tkO_s6, tkO_s7, tkO_s8, rdO_c, rdO_g0, rdO_k0, rdO_g1, rdO_k1, rdO_g2, rdO_k2, rdO_g3, rdO_k3, rdO_g4, rdO_k4, rdO_g5, rdO_k5, rdO_g6, rdO_k6, rdO_g7, rdO_k7, rdO_g8, rdO_k8, rdO_g9, rdO_k9, rdO_g10, rdO_k10, rdO_g11, rdO_k11, rdO_g12, rdO_k12, rdO_g13, rdO_k13, rdO_g14, rdO_k14, rdO_g15, rdO_k15, rdO_g16, rdO_k16, rdO_g17, rdO_k17, rdO_s2, rdO_s3, rdO_s4, rdO_s10, rdO_s11, rdO_s12, rdO_s13, rdO_s14, rdO_s15, rdO_s16, rdO_s17, rh_1, rh_2, rh_g11, rh_g12, rh_g13, rh_g14, rh_g15, rh_g16, rh_g17, rh_g18, rh_g19, rh_out, rh_u11, rh_u12, rh_u13, rh_u14, rh_u15, rh_u16, rh_u17, rh_u18, rh_u19, iup_s, iup_n, aup_s, aup_n, ne_eq, not_false_eq_true, sh_0, sh_1, sh_2, sh_3, sh_4, sh_5, sh_8, sh_15, sh_16, sh_24, Int.reducePow, Int.cast_ofNat_Int, w_of, wl_of, ltT, ltF, leT, leF, eqT, eqF, okF_0, okF_s, gF_0, gF_s, consC_o, sF_0, sF_s, clsO_o, inA_i, ldA_i, stA_i, inJ_l, ldJ_l, stJ_l, inR_r, ldR_r, stR_r, tgR_r, lenA_i, lenA_l, lenA_r, lenA_ex, nl_i, nl_o, nl_l, nl_n, wd_n, wd_i, wd_l, wd_o, fit_i, fit_l, fit_o, K_v, K_n, true_and, and_true, Nat.reduceAdd, Nat.reduceLeDiff, Nat.reduceEqDiff, Nat.reduceMul, Nat.reduceLT, reduceIte, true_or, or_true, cmp_lt, cmp_gt, cmp_eq, wb_0, b_01, cmp_lt', cmp_gt', cmp_eq', b_0, b_1, wb_1, Int.reduceSub, Int.reduceToNat, List.getD_cons_succ, List.getD_cons_zero, Int.reduceLE, Int.reduceLT, Int.reduceEq, Int.reduceNeg, Int.reduceAdd, Int.reduceMul, and_self, em_b, ne_eq, not_false_eq_true, not_true_eq_false]
      try rfl
    · rw [e_71_7]
      simp (disch := omega) only [e_71_8, e_71_11, e_71_51, true_and, tkO_c, tkO_g0, tkO_k0, tkO_g1, tkO_k1, tkO_g2, tkO_k2, tkO_g3, tkO_k3, tkO_g4, tkO_k4, tkO_g5, tkO_k5, tkO_g6, tkO_k6, tkO_g7, tkO_k7, tkO_g8, tkO_k8, tkO_s1, tkO_s2, tkO_s3, tkO_s4, tkO_s5, tkO_s6, tkO_s7, tkO_s8, rdO_c, rdO_g0, rdO_k0, rdO_g1, rdO_k1, rdO_g2, rdO_k2, rdO_g3, rdO_k3, rdO_g4, rdO_k4, rdO_g5, rdO_k5, rdO_g6, rdO_k6, rdO_g7, rdO_k7, rdO_g8, rdO_k8, rdO_g9, rdO_k9, rdO_g10, rdO_k10, rdO_g11, rdO_k11, rdO_g12, rdO_k12, rdO_g13, rdO_k13, rdO_g14, rdO_k14, rdO_g15, rdO_k15, rdO_g16, rdO_k16, rdO_g17, rdO_k17, rdO_s2, rdO_s3, rdO_s4, rdO_s10, rdO_s11, rdO_s12, rdO_s13, rdO_s14, rdO_s15, rdO_s16, rdO_s17, rh_1, rh_2, rh_g11, rh_g12, rh_g13, rh_g14, rh_g15, rh_g16, rh_g17, rh_g18, rh_g19, rh_out, rh_u11, rh_u12, rh_u13, rh_u14, rh_u15, rh_u16, rh_u17, rh_u18, rh_u19, iup_s, iup_n, aup_s, aup_n, ne_eq, not_false_eq_true, sh_0, sh_1, sh_2, sh_3, sh_4, sh_5, sh_8, sh_15, sh_16, sh_24, Int.reducePow, Int.cast_ofNat_Int, w_of, wl_of, ltT, ltF, leT, leF, eqT, eqF, okF_0, okF_s, gF_0, gF_s, consC_o, sF_0, sF_s, clsO_o, inA_i, ldA_i, stA_i, inJ_l, ldJ_l, stJ_l, inR_r, ldR_r, stR_r, tgR_r, lenA_i, lenA_l, lenA_r, lenA_ex, nl_i, nl_o, nl_l, nl_n, wd_n, wd_i, wd_l, wd_o, fit_i, fit_l, fit_o, K_v, K_n, true_and, and_true, Nat.reduceAdd, Nat.reduceLeDiff, Nat.reduceEqDiff, Nat.reduceMul, Nat.reduceLT, reduceIte, true_or, or_true, cmp_lt, cmp_gt, cmp_eq, wb_0, b_01, cmp_lt', cmp_gt', cmp_eq', b_0, b_1, wb_1, Int.reduceSub, Int.reduceToNat, List.getD_cons_succ, List.getD_cons_zero, Int.reduceLE, Int.reduceLT, Int.reduceEq, Int.reduceNeg, Int.reduceAdd, Int.reduceMul, and_self, em_b, ne_eq, not_false_eq_true, not_true_eq_false]
      try rfl
  · have is := r_is (h := h) (A := A) (kd := 19) (by decide) hr
    rw [if_neg hB, show rkK 19 = 18 from rfl] at is
    refine ⟨i, A, hr, fun z => by rw [List.append_nil]; exact hcd z, frI_r, frF_r, fun d Q hd => ?_⟩
    obtain ⟨d', rfl⟩ : ∃ d', d = d' + 2 := ⟨d - 2, by omega⟩
    rw [e_186_5]
    simp (disch := omega) only [e_186_6, e_186_8, e_186_11, e_186_29, e_175_0, e_175_1, e_175_2, e_175_5, e_175_8, e_175_9, is, true_and, mdO_c, mdO_g0, mdO_k0, mdO_g1, mdO_k1, mdO_g2, mdO_k2, mdO_g3, mdO_k3, mdO_g4, mdO_k4, mdO_g5, mdO_k5, mdO_g6, mdO_k6, mdO_g7, mdO_k7, mdO_g8, mdO_k8, mdO_g9, mdO_k9, mdO_g10, mdO_k10, mdO_g11, mdO_k11, mdO_g12, mdO_k12, mdO_g13, mdO_k13, mdO_g14, mdO_k14, mdO_g15, mdO_k15, mdO_g16, mdO_k16, mdO_g17, mdO_k17, mdO_g18, mdO_k18, mdO_g19, mdO_k19, mdO_g20, mdO_k20, mdO_g21, mdO_k21, mdO_g22, mdO_k22, mdO_g23, mdO_k23, mdO_g24, mdO_k24, mdO_g25, mdO_k25, mdO_g26, mdO_k26, mdO_g27, mdO_k27, mdO_g28, mdO_k28, mdO_g29, mdO_k29, mdO_g30, mdO_k30, mdO_g31, mdO_k31, mdO_g32, mdO_k32, mdO_g33, mdO_k33, mdO_g34, mdO_k34, mdO_g35, mdO_k35, mdO_s0, mdO_s5, mdO_s6, mdO_s7, mdO_s8, mdO_s9, mdO_s10, mdO_s11, mdO_s12, mdO_s13, mdO_s14, mdO_s15, mdO_s19, mdO_s20, mdO_s25, mdO_s26, mdO_s31, mdO_s32, md_1, md_2, md_g71, md_g72, md_g73, md_g74, md_g75, md_g76, md_g77, md_g78, md_g79, md_g80, md_g81, md_g82, md_g83, md_g84, md_g85, md_g86, md_g87, md_g88, md_g89, md_out, md_u71, md_u72, md_u73, md_u74, md_u75, md_u76, md_u77, md_u78, md_u79, md_u80, md_u81, md_u82, md_u83, md_u84, md_u85, md_u86, md_u87, md_u88, md_u89, md_uo, iup_s, iup_n, aup_s, aup_n, ne_eq, not_false_eq_true, sh_0, sh_1, sh_2, sh_3, sh_4, sh_5, sh_8, sh_15, sh_16, sh_24, Int.reducePow, Int.cast_ofNat_Int, w_of, wl_of, ltT, ltF, leT, leF, eqT, eqF, okF_0, okF_s, gF_0, gF_s, consC_o, sF_0, sF_s, clsO_o, inA_i, ldA_i, stA_i, inJ_l, ldJ_l, stJ_l, inR_r, ldR_r, stR_r, tgR_r, lenA_i, lenA_l, lenA_r, lenA_ex, nl_i, nl_o, nl_l, nl_n, wd_n, wd_i, wd_l, wd_o, fit_i, fit_l, fit_o, K_v, K_n, true_and, and_true, Nat.reduceAdd, Nat.reduceLeDiff, Nat.reduceEqDiff, Nat.reduceMul, Nat.reduceLT, reduceIte, true_or, or_true, cmp_lt, cmp_gt, cmp_eq, wb_0, b_01, cmp_lt', cmp_gt', cmp_eq', b_0, b_1, wb_1, Int.reduceSub, Int.reduceToNat, List.getD_cons_succ, List.getD_cons_zero, Int.reduceLE, Int.reduceLT, Int.reduceEq, Int.reduceNeg, Int.reduceAdd, Int.reduceMul, and_self, em_b, ne_eq, not_false_eq_true, not_true_eq_false]
    try rfl
theorem lp_both {FS GS K : Nat} {W : List Int → Prop} (hnb : n ≤ b.length) (hb9 : b.length ≤ 900) (hF : 8 ≤ FS) (hG : 8 ≤ GS) (hsub : ∀ s, okq n s → JN b n l 72 [none] FS 185 [none] GS W deep s) (hW : ∀ L, W L → wfL K true (L ++ [1016])) : ∀ (r : Nat) (s : TS), okq n s → (∀ q, s = .inl q → n - q < r) → ∃ (s' : TS) (L : List Int), prg n s s' L ∧ (alR s' → wfL K true L) ∧ (∀ k : Nat, k ≤ 900 → (∀ q, s = .inl q → k ≤ q) → CSpec b n l 71 7 [some (vi deep), some (vi k)] (FS + 1) s s' L) ∧ RSpec b n l 186 5 [some (vi deep)] (GS + 1) s s' L := by
  intro r
  induction r with
  | zero =>
    intro s hq hr
    have hB : ¬ isB b n s 19 = true := fun w => by
      match s, w with
      | .inl q, w => exact absurd (hr q rfl) (by omega)
      | .inr x, w => cases w
    exact ex_both hF hG hq hB
  | succ r ih =>
    intro s hq hr
    by_cases hB : isB b n s 19 = true
    · obtain ⟨q, rfl, hk⟩ := isB_t hB
      have hqn := hq q rfl
      have hlt := tkE_lt hqn (show tkK b n q ≠ 32 by omega)
      have hle := (tkE_le (b := b) hqn).2
      have h33 : tkK b n q ≠ 33 := by omega
      obtain ⟨s2, L2, p2, w2, cs2, rs2⟩ := hsub (.inl (tkE b n q)) (fun z e => by cases e; exact hle)
      have hp2 : ∀ q2, s2 = .inl q2 → tkE b n q + L2.length ≤ q2 ∧ q2 ≤ n := fun q2 e => by
        obtain ⟨z, e1, e2, e3⟩ := p2.1 q2 e
        cases e1
        exact ⟨e2, e3⟩
      have hrq := hr q rfl
      obtain ⟨s3, L3, p3, w3, cs3, rs3⟩ := ih s2 (prg_ok p2) (fun q2 e => by have := hp2 q2 e; omega)
      refine ⟨s3, L2 ++ [1016] ++ L3, ⟨fun q3 e => ?_, fun x e => by cases e⟩, fun z => ?_, fun k hk9 hkq h i j A C hX hT hc hcd hC hj => ?_, fun h i A C m hX hT hr hcd hC hi => ?_⟩
      · obtain ⟨q2, e1, e2, e3⟩ := p3.1 q3 e
        have := hp2 q2 e1
        exact ⟨q, rfl, by rw [List.length_append, List.length_append]; show q + (L2.length + 1 + L3.length) ≤ q3; omega, e3⟩
      · obtain ⟨q3, e3⟩ := z
        obtain ⟨q2, e2, -⟩ := p3.1 q3 e3
        exact wf_ll (hW L2 (w2 ⟨q2, e2⟩)) (w3 ⟨q3, e3⟩)
      · have hal : alC b n (.inl q) := ⟨q, rfl, h33⟩
        have hCq := hC q rfl
        have hkq' := hkq q rfl
        rw [nrm_ok h33] at hc
        have c5 : i 5 = 19 := by rw [hc.2.2.2.2.2.1]; exact hk
        obtain ⟨i1, a1, a2, a3⟩ := C_st1 (h := h) (j := j) hX hT hnb hc
        obtain ⟨i2, j2, A2, b1, b2, b3, b4, b5, b6⟩ := cs2 h i1 j A C hX hT a1 ⟨hcd.1, fun _ => hcd.2 hal⟩ (fun z e => by cases e; omega) hj
        obtain ⟨j3, A3, d1, d2, d3, d4⟩ := C_em (h := h) (i := i2) (o := 1016) b2 (fun z => by
          obtain ⟨q2, e, -⟩ := z
          have := hp2 q2 e
          rw [List.length_append]; omega)
        obtain ⟨i4, j4, A4, f1, f2, f3, f4, f5, f6⟩ := cs3 (k + 1) (by omega) (fun q2 e => by have := hp2 q2 e; omega) h i2 j3 A3 (C ++ L2 ++ [1016]) hX (tapC_fr hT (frA_t b5 d3)) b1 d1 (fun q2 e => by
          have := hp2 q2 e
          rw [List.length_append, List.length_append]; show C.length + L2.length + 1 ≤ q2; omega) (by rw [d2 17 (by decide), b4 17 (by decide)]; exact hj)
        refine ⟨i4, j4, A4, f1, by rw [← List.append_assoc, ← List.append_assoc]; exact f2, frI_t a2 (frI_t b3 f3), frI_t b4 (frI_t d2 f4), frA_t b5 (frA_t d3 f5), fun d Q hd => ?_⟩
        obtain ⟨d', rfl⟩ : ∃ d', d = d' + 1 := ⟨d - 1, by omega⟩
        rw [← f6 (d' + 1) Q hd]
        have ek : (k : Int) + 1 = ((k + 1 : Nat) : Int) := by omega
        have hk900 : (k : Int) < 900 := by omega
        rw [e_71_7]
        simp (disch := omega) only [e_71_8, e_71_11, e_71_14, e_71_15, e_71_18, e_71_21, e_71_23, e_71_26, e_71_27, e_71_30, e_71_33, e_71_34, e_71_35, e_71_38, e_71_39, e_71_42, e_71_45, e_71_48, c5, a3, b6, d4, ek, true_and, tkO_c, tkO_g0, tkO_k0, tkO_g1, tkO_k1, tkO_g2, tkO_k2, tkO_g3, tkO_k3, tkO_g4, tkO_k4, tkO_g5, tkO_k5, tkO_g6, tkO_k6, tkO_g7, tkO_k7, tkO_g8, tkO_k8, tkO_s1, tkO_s2, tkO_s3, tkO_s4, tkO_s5, tkO_s6, tkO_s7, tkO_s8, rdO_c, rdO_g0, rdO_k0, rdO_g1, rdO_k1, rdO_g2, rdO_k2, rdO_g3, rdO_k3, rdO_g4, rdO_k4, rdO_g5, rdO_k5, rdO_g6, rdO_k6, rdO_g7, rdO_k7, rdO_g8, rdO_k8, rdO_g9, rdO_k9, rdO_g10, rdO_k10, rdO_g11, rdO_k11, rdO_g12, rdO_k12, rdO_g13, rdO_k13, rdO_g14, rdO_k14, rdO_g15, rdO_k15, rdO_g16, rdO_k16, rdO_g17, rdO_k17, rdO_s2, rdO_s3, rdO_s4, rdO_s10, rdO_s11, rdO_s12, rdO_s13, rdO_s14, rdO_s15, rdO_s16, rdO_s17, rh_1, rh_2, rh_g11, rh_g12, rh_g13, rh_g14, rh_g15, rh_g16, rh_g17, rh_g18, rh_g19, rh_out, rh_u11, rh_u12, rh_u13, rh_u14, rh_u15, rh_u16, rh_u17, rh_u18, rh_u19, iup_s, iup_n, aup_s, aup_n, ne_eq, not_false_eq_true, sh_0, sh_1, sh_2, sh_3, sh_4, sh_5, sh_8, sh_15, sh_16, sh_24, Int.reducePow, Int.cast_ofNat_Int, w_of, wl_of, ltT, ltF, leT, leF, eqT, eqF, okF_0, okF_s, gF_0, gF_s, consC_o, sF_0, sF_s, clsO_o, inA_i, ldA_i, stA_i, inJ_l, ldJ_l, stJ_l, inR_r, ldR_r, stR_r, tgR_r, lenA_i, lenA_l, lenA_r, lenA_ex, nl_i, nl_o, nl_l, nl_n, wd_n, wd_i, wd_l, wd_o, fit_i, fit_l, fit_o, K_v, K_n, true_and, and_true, Nat.reduceAdd, Nat.reduceLeDiff, Nat.reduceEqDiff, Nat.reduceMul, Nat.reduceLT, reduceIte, true_or, or_true, cmp_lt, cmp_gt, cmp_eq, wb_0, b_01, cmp_lt', cmp_gt', cmp_eq', b_0, b_1, wb_1, Int.reduceSub, Int.reduceToNat, List.getD_cons_succ, List.getD_cons_zero, Int.reduceLE, Int.reduceLT, Int.reduceEq, Int.reduceNeg, Int.reduceAdd, Int.reduceMul, and_self, em_b, ne_eq, not_false_eq_true, not_true_eq_false]
        try rfl
      · have hCq := hC q rfl
        obtain ⟨i1, a1, a2, a3⟩ := R_ea (h := h) (A := A) (kd := 19) hX hT hnb (by decide) hr
        rw [if_pos hB] at a1
        rw [if_pos hB, show rkK 19 = 18 from rfl] at a3
        obtain ⟨i2, A2, b1, b2, b3, b4, b5⟩ := rs2 h i1 A C m hX hT a1 (fun _ => hcd ⟨q, rfl⟩) (fun z e => by cases e; omega) (by rw [a2 15 (by decide)]; exact hi)
        obtain ⟨A3, d1, d2, d3⟩ := R_co (h := h) (l := l) (o := 1016) (v := 3007) (by rfl) b1 (fun z => ⟨b2 z, by
          obtain ⟨q2, e⟩ := z
          have := hp2 q2 e
          rw [List.length_append]; omega⟩)
        obtain ⟨i4, A4, f1, f2, f3, f4, f5⟩ := rs3 h i2 A3 (C ++ L2 ++ [1016]) m hX (tapM_fr hT (frF_t b4 d2)) b1 d1 (fun q2 e => by
          have := hp2 q2 e
          rw [List.length_append, List.length_append]; show C.length + L2.length + 1 ≤ q2; omega) (by rw [b3 15 (by decide), a2 15 (by decide)]; exact hi)
        refine ⟨i4, A4, f1, fun z => by rw [← List.append_assoc, ← List.append_assoc]; exact f2 z, frI_t a2 (frI_t b3 f3), frF_t b4 (frF_t d2 f4), fun d Q hd => ?_⟩
        obtain ⟨d', rfl⟩ : ∃ d', d = d' + 1 := ⟨d - 1, by omega⟩
        rw [← f5 (d' + 1) Q hd]
        rw [e_186_5]
        simp (disch := omega) only [e_186_6, e_186_8, e_186_11, e_186_14, e_186_15, e_186_16, e_186_19, e_186_20, e_186_23, e_186_26, a3, b5, d3, true_and, mdO_c, mdO_g0, mdO_k0, mdO_g1, mdO_k1, mdO_g2, mdO_k2, mdO_g3, mdO_k3, mdO_g4, mdO_k4, mdO_g5, mdO_k5, mdO_g6, mdO_k6, mdO_g7, mdO_k7, mdO_g8, mdO_k8, mdO_g9, mdO_k9, mdO_g10, mdO_k10, mdO_g11, mdO_k11, mdO_g12, mdO_k12, mdO_g13, mdO_k13, mdO_g14, mdO_k14, mdO_g15, mdO_k15, mdO_g16, mdO_k16, mdO_g17, mdO_k17, mdO_g18, mdO_k18, mdO_g19, mdO_k19, mdO_g20, mdO_k20, mdO_g21, mdO_k21, mdO_g22, mdO_k22, mdO_g23, mdO_k23, mdO_g24, mdO_k24, mdO_g25, mdO_k25, mdO_g26, mdO_k26, mdO_g27, mdO_k27, mdO_g28, mdO_k28, mdO_g29, mdO_k29, mdO_g30, mdO_k30, mdO_g31, mdO_k31, mdO_g32, mdO_k32, mdO_g33, mdO_k33, mdO_g34, mdO_k34, mdO_g35, mdO_k35, mdO_s0, mdO_s5, mdO_s6, mdO_s7, mdO_s8, mdO_s9, mdO_s10, mdO_s11, mdO_s12, mdO_s13, mdO_s14, mdO_s15, mdO_s19, mdO_s20, mdO_s25, mdO_s26, mdO_s31, mdO_s32, md_1, md_2, md_g71, md_g72, md_g73, md_g74, md_g75, md_g76, md_g77, md_g78, md_g79, md_g80, md_g81, md_g82, md_g83, md_g84, md_g85, md_g86, md_g87, md_g88, md_g89, md_out, md_u71, md_u72, md_u73, md_u74, md_u75, md_u76, md_u77, md_u78, md_u79, md_u80, md_u81, md_u82, md_u83, md_u84, md_u85, md_u86, md_u87, md_u88, md_u89, md_uo, iup_s, iup_n, aup_s, aup_n, ne_eq, not_false_eq_true, sh_0, sh_1, sh_2, sh_3, sh_4, sh_5, sh_8, sh_15, sh_16, sh_24, Int.reducePow, Int.cast_ofNat_Int, w_of, wl_of, ltT, ltF, leT, leF, eqT, eqF, okF_0, okF_s, gF_0, gF_s, consC_o, sF_0, sF_s, clsO_o, inA_i, ldA_i, stA_i, inJ_l, ldJ_l, stJ_l, inR_r, ldR_r, stR_r, tgR_r, lenA_i, lenA_l, lenA_r, lenA_ex, nl_i, nl_o, nl_l, nl_n, wd_n, wd_i, wd_l, wd_o, fit_i, fit_l, fit_o, K_v, K_n, true_and, and_true, Nat.reduceAdd, Nat.reduceLeDiff, Nat.reduceEqDiff, Nat.reduceMul, Nat.reduceLT, reduceIte, true_or, or_true, cmp_lt, cmp_gt, cmp_eq, wb_0, b_01, cmp_lt', cmp_gt', cmp_eq', b_0, b_1, wb_1, Int.reduceSub, Int.reduceToNat, List.getD_cons_succ, List.getD_cons_zero, Int.reduceLE, Int.reduceLT, Int.reduceEq, Int.reduceNeg, Int.reduceAdd, Int.reduceMul, and_self, em_b, ne_eq, not_false_eq_true, not_true_eq_false]
        try rfl
    · exact ex_both hF hG hq hB
theorem J_both {FS GS K : Nat} {W : List Int → Prop} (hnb : n ≤ b.length) (hb9 : b.length ≤ 900) (hF : 8 ≤ FS) (hG : 8 ≤ GS) (hsub : ∀ s, okq n s → JN b n l 72 [none] FS 185 [none] GS W deep s) (hW : ∀ L, W L → wfL K true (L ++ [1016])) (hW2 : ∀ L, W L → wfS K true L) : ∀ s, okq n s → JN b n l 71 [none] (FS + 1) 186 [] (GS + 1) (wfS K true) deep s := by
  intro s hq
  obtain ⟨s1, L1, p1, w1, cs1, rs1⟩ := hsub s hq
  obtain ⟨s2, L2, p2, w2, cs2, rs2⟩ := lp_both hnb hb9 hF hG hsub hW (n + 1) s1 (prg_ok p1) (fun q _ => by omega)
  refine ⟨s2, L1 ++ L2, prg_t p1 p2, fun z => ?_, fun h i j A C hX hT hc hcd hC hj => ?_, fun h i A C m hX hT hr hcd hC hi => ?_⟩
  · obtain ⟨q2, e2⟩ := z
    obtain ⟨q1, e1, -⟩ := p2.1 q2 e2
    exact wf_sl (hW2 L1 (w1 ⟨q1, e1⟩)) (w2 ⟨q2, e2⟩)
  · obtain ⟨i2, j2, A2, b1, b2, b3, b4, b5, b6⟩ := cs1 h i j A C hX hT hc hcd hC hj
    obtain ⟨i4, j4, A4, f1, f2, f3, f4, f5, f6⟩ := cs2 0 (by omega) (fun q _ => Nat.zero_le _) h i2 j2 A2 (C ++ L1) hX (tapC_fr hT b5) b1 b2 (prg_C p1 hC) (by rw [b4 17 (by decide)]; exact hj)
    refine ⟨i4, j4, A4, f1, by rw [← List.append_assoc]; exact f2, frI_t b3 f3, frI_t b4 f4, frA_t b5 f5, fun d Q hd => ?_⟩
    obtain ⟨d', rfl⟩ : ∃ d', d = d' + 1 := ⟨d - 1, by omega⟩
    have f6' := f6 (d' + 1) Q hd
    rw [nc0] at f6'
    rw [← f6']
    simp (disch := omega) only [e_71_0, e_71_1, e_71_2, e_71_5, e_71_6, b6, true_and, tkO_c, tkO_g0, tkO_k0, tkO_g1, tkO_k1, tkO_g2, tkO_k2, tkO_g3, tkO_k3, tkO_g4, tkO_k4, tkO_g5, tkO_k5, tkO_g6, tkO_k6, tkO_g7, tkO_k7, tkO_g8, tkO_k8, tkO_s1, tkO_s2, tkO_s3, tkO_s4, tkO_s5, tkO_s6, tkO_s7, tkO_s8, rdO_c, rdO_g0, rdO_k0, rdO_g1, rdO_k1, rdO_g2, rdO_k2, rdO_g3, rdO_k3, rdO_g4, rdO_k4, rdO_g5, rdO_k5, rdO_g6, rdO_k6, rdO_g7, rdO_k7, rdO_g8, rdO_k8, rdO_g9, rdO_k9, rdO_g10, rdO_k10, rdO_g11, rdO_k11, rdO_g12, rdO_k12, rdO_g13, rdO_k13, rdO_g14, rdO_k14, rdO_g15, rdO_k15, rdO_g16, rdO_k16, rdO_g17, rdO_k17, rdO_s2, rdO_s3, rdO_s4, rdO_s10, rdO_s11, rdO_s12, rdO_s13, rdO_s14, rdO_s15, rdO_s16, rdO_s17, rh_1, rh_2, rh_g11, rh_g12, rh_g13, rh_g14, rh_g15, rh_g16, rh_g17, rh_g18, rh_g19, rh_out, rh_u11, rh_u12, rh_u13, rh_u14, rh_u15, rh_u16, rh_u17, rh_u18, rh_u19, iup_s, iup_n, aup_s, aup_n, ne_eq, not_false_eq_true, sh_0, sh_1, sh_2, sh_3, sh_4, sh_5, sh_8, sh_15, sh_16, sh_24, Int.reducePow, Int.cast_ofNat_Int, w_of, wl_of, ltT, ltF, leT, leF, eqT, eqF, okF_0, okF_s, gF_0, gF_s, consC_o, sF_0, sF_s, clsO_o, inA_i, ldA_i, stA_i, inJ_l, ldJ_l, stJ_l, inR_r, ldR_r, stR_r, tgR_r, lenA_i, lenA_l, lenA_r, lenA_ex, nl_i, nl_o, nl_l, nl_n, wd_n, wd_i, wd_l, wd_o, fit_i, fit_l, fit_o, K_v, K_n, true_and, and_true, Nat.reduceAdd, Nat.reduceLeDiff, Nat.reduceEqDiff, Nat.reduceMul, Nat.reduceLT, reduceIte, true_or, or_true, cmp_lt, cmp_gt, cmp_eq, wb_0, b_01, cmp_lt', cmp_gt', cmp_eq', b_0, b_1, wb_1, Int.reduceSub, Int.reduceToNat, List.getD_cons_succ, List.getD_cons_zero, Int.reduceLE, Int.reduceLT, Int.reduceEq, Int.reduceNeg, Int.reduceAdd, Int.reduceMul, and_self, em_b, ne_eq, not_false_eq_true, not_true_eq_false]
    try rfl
  · obtain ⟨i2, A2, b1, b2, b3, b4, b5⟩ := rs1 h i A C m hX hT hr hcd hC hi
    obtain ⟨i4, A4, f1, f2, f3, f4, f5⟩ := rs2 h i2 A2 (C ++ L1) m hX (tapM_fr hT b4) b1 b2 (prg_C p1 hC) (by rw [b3 15 (by decide)]; exact hi)
    refine ⟨i4, A4, f1, fun z => by rw [← List.append_assoc]; exact f2 z, frI_t b3 f3, frF_t b4 f4, fun d Q hd => ?_⟩
    obtain ⟨d', rfl⟩ : ∃ d', d = d' + 1 := ⟨d - 1, by omega⟩
    rw [← f5 (d' + 1) Q hd]
    simp (disch := omega) only [e_186_0, e_186_1, e_186_2, b5, true_and, mdO_c, mdO_g0, mdO_k0, mdO_g1, mdO_k1, mdO_g2, mdO_k2, mdO_g3, mdO_k3, mdO_g4, mdO_k4, mdO_g5, mdO_k5, mdO_g6, mdO_k6, mdO_g7, mdO_k7, mdO_g8, mdO_k8, mdO_g9, mdO_k9, mdO_g10, mdO_k10, mdO_g11, mdO_k11, mdO_g12, mdO_k12, mdO_g13, mdO_k13, mdO_g14, mdO_k14, mdO_g15, mdO_k15, mdO_g16, mdO_k16, mdO_g17, mdO_k17, mdO_g18, mdO_k18, mdO_g19, mdO_k19, mdO_g20, mdO_k20, mdO_g21, mdO_k21, mdO_g22, mdO_k22, mdO_g23, mdO_k23, mdO_g24, mdO_k24, mdO_g25, mdO_k25, mdO_g26, mdO_k26, mdO_g27, mdO_k27, mdO_g28, mdO_k28, mdO_g29, mdO_k29, mdO_g30, mdO_k30, mdO_g31, mdO_k31, mdO_g32, mdO_k32, mdO_g33, mdO_k33, mdO_g34, mdO_k34, mdO_g35, mdO_k35, mdO_s0, mdO_s5, mdO_s6, mdO_s7, mdO_s8, mdO_s9, mdO_s10, mdO_s11, mdO_s12, mdO_s13, mdO_s14, mdO_s15, mdO_s19, mdO_s20, mdO_s25, mdO_s26, mdO_s31, mdO_s32, md_1, md_2, md_g71, md_g72, md_g73, md_g74, md_g75, md_g76, md_g77, md_g78, md_g79, md_g80, md_g81, md_g82, md_g83, md_g84, md_g85, md_g86, md_g87, md_g88, md_g89, md_out, md_u71, md_u72, md_u73, md_u74, md_u75, md_u76, md_u77, md_u78, md_u79, md_u80, md_u81, md_u82, md_u83, md_u84, md_u85, md_u86, md_u87, md_u88, md_u89, md_uo, iup_s, iup_n, aup_s, aup_n, ne_eq, not_false_eq_true, sh_0, sh_1, sh_2, sh_3, sh_4, sh_5, sh_8, sh_15, sh_16, sh_24, Int.reducePow, Int.cast_ofNat_Int, w_of, wl_of, ltT, ltF, leT, leF, eqT, eqF, okF_0, okF_s, gF_0, gF_s, consC_o, sF_0, sF_s, clsO_o, inA_i, ldA_i, stA_i, inJ_l, ldJ_l, stJ_l, inR_r, ldR_r, stR_r, tgR_r, lenA_i, lenA_l, lenA_r, lenA_ex, nl_i, nl_o, nl_l, nl_n, wd_n, wd_i, wd_l, wd_o, fit_i, fit_l, fit_o, K_v, K_n, true_and, and_true, Nat.reduceAdd, Nat.reduceLeDiff, Nat.reduceEqDiff, Nat.reduceMul, Nat.reduceLT, reduceIte, true_or, or_true, cmp_lt, cmp_gt, cmp_eq, wb_0, b_01, cmp_lt', cmp_gt', cmp_eq', b_0, b_1, wb_1, Int.reduceSub, Int.reduceToNat, List.getD_cons_succ, List.getD_cons_zero, Int.reduceLE, Int.reduceLT, Int.reduceEq, Int.reduceNeg, Int.reduceAdd, Int.reduceMul, and_self, em_b, ne_eq, not_false_eq_true, not_true_eq_false]
    try rfl
theorem ex_truth {FS GS K : Nat} {s : TS} (hF : 8 ≤ FS) (hG : 8 ≤ GS) (hq : okq n s) (hB : ¬ isB b n s 18 = true) : ∃ (s' : TS) (L : List Int), prg n s s' L ∧ (alR s' → wfL K true L) ∧ (∀ k : Nat, k ≤ 900 → (∀ q, s = .inl q → k ≤ q) → CSpec b n l 70 7 [some (vi deep), some (vi k)] (FS + 1) s s' L) ∧ RSpec b n l 187 5 [some (vi deep)] (GS + 1) s s' L := by
  refine ⟨s, [], prg_r hq, fun _ => wf_nil, fun k hk9 hkq h i j A C hX hT hc hcd hC hj => ⟨i, j, A, hc, by rw [List.append_nil]; exact hcd, frI_r, frI_r, frA_r, fun d Q hd => ?_⟩, fun h i A C m hX hT hr hcd hC hi => ?_⟩
  · obtain ⟨c1, c2, c3⟩ := cl_kind (by omega) (by omega) hc hB
    by_cases z : (k : Int) < 900
    · rw [e_70_7]
      simp (disch := omega) only [e_70_8, e_70_11, e_70_14, e_70_15, e_70_18, e_70_21, e_70_23, e_70_51, true_and, tkO_c, tkO_g0, tkO_k0, tkO_g1, tkO_k1, tkO_g2, tkO_k2, tkO_g3, tkO_k3, tkO_g4, tkO_k4, tkO_g5, tkO_k5, tkO_g6, tkO_k6, tkO_g7, tkO_k7, tkO_g8, tkO_k8, tkO_s1, tkO_s2, tkO_s3, tkO_s4, tkO_s5, tkO_s6, tkO_s7, tkO_s8, rdO_c, rdO_g0, rdO_k0, rdO_g1, rdO_k1, rdO_g2, rdO_k2, rdO_g3, rdO_k3, rdO_g4, rdO_k4, rdO_g5, rdO_k5, rdO_g6, rdO_k6, rdO_g7, rdO_k7, rdO_g8, rdO_k8, rdO_g9, rdO_k9, rdO_g10, rdO_k10, rdO_g11, rdO_k11, rdO_g12, rdO_k12, rdO_g13, rdO_k13, rdO_g14, rdO_k14, rdO_g15, rdO_k15, rdO_g16, rdO_k16, rdO_g17, rdO_k17, rdO_s2, rdO_s3, rdO_s4, rdO_s10, rdO_s11, rdO_s12, rdO_s13, rdO_s14, rdO_s15, rdO_s16, rdO_s17, rh_1, rh_2, rh_g11, rh_g12, rh_g13, rh_g14, rh_g15, rh_g16, rh_g17, rh_g18, rh_g19, rh_out, rh_u11, rh_u12, rh_u13, rh_u14, rh_u15, rh_u16, rh_u17, rh_u18, rh_u19, iup_s, iup_n, aup_s, aup_n, ne_eq, not_false_eq_true, sh_0, sh_1, sh_2, sh_3, sh_4, sh_5, sh_8, sh_15, sh_16, sh_24, Int.reducePow, Int.cast_ofNat_Int, w_of, wl_of, ltT, ltF, leT, leF, eqT, eqF, okF_0, okF_s, gF_0, gF_s, consC_o, sF_0, sF_s, clsO_o, inA_i, ldA_i, stA_i, inJ_l, ldJ_l, stJ_l, inR_r, ldR_r, stR_r, tgR_r, lenA_i, lenA_l, lenA_r, lenA_ex, nl_i, nl_o, nl_l, nl_n, wd_n, wd_i, wd_l, wd_o, fit_i, fit_l, fit_o, K_v, K_n, true_and, and_true, Nat.reduceAdd, Nat.reduceLeDiff, Nat.reduceEqDiff, Nat.reduceMul, Nat.reduceLT, reduceIte, true_or, or_true, cmp_lt, cmp_gt, cmp_eq, wb_0, b_01, cmp_lt', cmp_gt', cmp_eq', b_0, b_1, wb_1, Int.reduceSub, Int.reduceToNat, List.getD_cons_succ, List.getD_cons_zero, Int.reduceLE, Int.reduceLT, Int.reduceEq, Int.reduceNeg, Int.reduceAdd, Int.reduceMul, and_self, em_b, ne_eq, not_false_eq_true, not_true_eq_false]
      try rfl
    · rw [e_70_7]
      simp (disch := omega) only [e_70_8, e_70_11, e_70_51, true_and, tkO_c, tkO_g0, tkO_k0, tkO_g1, tkO_k1, tkO_g2, tkO_k2, tkO_g3, tkO_k3, tkO_g4, tkO_k4, tkO_g5, tkO_k5, tkO_g6, tkO_k6, tkO_g7, tkO_k7, tkO_g8, tkO_k8, tkO_s1, tkO_s2, tkO_s3, tkO_s4, tkO_s5, tkO_s6, tkO_s7, tkO_s8, rdO_c, rdO_g0, rdO_k0, rdO_g1, rdO_k1, rdO_g2, rdO_k2, rdO_g3, rdO_k3, rdO_g4, rdO_k4, rdO_g5, rdO_k5, rdO_g6, rdO_k6, rdO_g7, rdO_k7, rdO_g8, rdO_k8, rdO_g9, rdO_k9, rdO_g10, rdO_k10, rdO_g11, rdO_k11, rdO_g12, rdO_k12, rdO_g13, rdO_k13, rdO_g14, rdO_k14, rdO_g15, rdO_k15, rdO_g16, rdO_k16, rdO_g17, rdO_k17, rdO_s2, rdO_s3, rdO_s4, rdO_s10, rdO_s11, rdO_s12, rdO_s13, rdO_s14, rdO_s15, rdO_s16, rdO_s17, rh_1, rh_2, rh_g11, rh_g12, rh_g13, rh_g14, rh_g15, rh_g16, rh_g17, rh_g18, rh_g19, rh_out, rh_u11, rh_u12, rh_u13, rh_u14, rh_u15, rh_u16, rh_u17, rh_u18, rh_u19, iup_s, iup_n, aup_s, aup_n, ne_eq, not_false_eq_true, sh_0, sh_1, sh_2, sh_3, sh_4, sh_5, sh_8, sh_15, sh_16, sh_24, Int.reducePow, Int.cast_ofNat_Int, w_of, wl_of, ltT, ltF, leT, leF, eqT, eqF, okF_0, okF_s, gF_0, gF_s, consC_o, sF_0, sF_s, clsO_o, inA_i, ldA_i, stA_i, inJ_l, ldJ_l, stJ_l, inR_r, ldR_r, stR_r, tgR_r, lenA_i, lenA_l, lenA_r, lenA_ex, nl_i, nl_o, nl_l, nl_n, wd_n, wd_i, wd_l, wd_o, fit_i, fit_l, fit_o, K_v, K_n, true_and, and_true, Nat.reduceAdd, Nat.reduceLeDiff, Nat.reduceEqDiff, Nat.reduceMul, Nat.reduceLT, reduceIte, true_or, or_true, cmp_lt, cmp_gt, cmp_eq, wb_0, b_01, cmp_lt', cmp_gt', cmp_eq', b_0, b_1, wb_1, Int.reduceSub, Int.reduceToNat, List.getD_cons_succ, List.getD_cons_zero, Int.reduceLE, Int.reduceLT, Int.reduceEq, Int.reduceNeg, Int.reduceAdd, Int.reduceMul, and_self, em_b, ne_eq, not_false_eq_true, not_true_eq_false]
      try rfl
  · have is := r_is (h := h) (A := A) (kd := 18) (by decide) hr
    rw [if_neg hB, show rkK 18 = 19 from rfl] at is
    refine ⟨i, A, hr, fun z => by rw [List.append_nil]; exact hcd z, frI_r, frF_r, fun d Q hd => ?_⟩
    obtain ⟨d', rfl⟩ : ∃ d', d = d' + 2 := ⟨d - 2, by omega⟩
    rw [e_187_5]
    simp (disch := omega) only [e_187_6, e_187_8, e_187_11, e_187_29, e_175_0, e_175_1, e_175_2, e_175_5, e_175_8, e_175_9, is, true_and, mdO_c, mdO_g0, mdO_k0, mdO_g1, mdO_k1, mdO_g2, mdO_k2, mdO_g3, mdO_k3, mdO_g4, mdO_k4, mdO_g5, mdO_k5, mdO_g6, mdO_k6, mdO_g7, mdO_k7, mdO_g8, mdO_k8, mdO_g9, mdO_k9, mdO_g10, mdO_k10, mdO_g11, mdO_k11, mdO_g12, mdO_k12, mdO_g13, mdO_k13, mdO_g14, mdO_k14, mdO_g15, mdO_k15, mdO_g16, mdO_k16, mdO_g17, mdO_k17, mdO_g18, mdO_k18, mdO_g19, mdO_k19, mdO_g20, mdO_k20, mdO_g21, mdO_k21, mdO_g22, mdO_k22, mdO_g23, mdO_k23, mdO_g24, mdO_k24, mdO_g25, mdO_k25, mdO_g26, mdO_k26, mdO_g27, mdO_k27, mdO_g28, mdO_k28, mdO_g29, mdO_k29, mdO_g30, mdO_k30, mdO_g31, mdO_k31, mdO_g32, mdO_k32, mdO_g33, mdO_k33, mdO_g34, mdO_k34, mdO_g35, mdO_k35, mdO_s0, mdO_s5, mdO_s6, mdO_s7, mdO_s8, mdO_s9, mdO_s10, mdO_s11, mdO_s12, mdO_s13, mdO_s14, mdO_s15, mdO_s19, mdO_s20, mdO_s25, mdO_s26, mdO_s31, mdO_s32, md_1, md_2, md_g71, md_g72, md_g73, md_g74, md_g75, md_g76, md_g77, md_g78, md_g79, md_g80, md_g81, md_g82, md_g83, md_g84, md_g85, md_g86, md_g87, md_g88, md_g89, md_out, md_u71, md_u72, md_u73, md_u74, md_u75, md_u76, md_u77, md_u78, md_u79, md_u80, md_u81, md_u82, md_u83, md_u84, md_u85, md_u86, md_u87, md_u88, md_u89, md_uo, iup_s, iup_n, aup_s, aup_n, ne_eq, not_false_eq_true, sh_0, sh_1, sh_2, sh_3, sh_4, sh_5, sh_8, sh_15, sh_16, sh_24, Int.reducePow, Int.cast_ofNat_Int, w_of, wl_of, ltT, ltF, leT, leF, eqT, eqF, okF_0, okF_s, gF_0, gF_s, consC_o, sF_0, sF_s, clsO_o, inA_i, ldA_i, stA_i, inJ_l, ldJ_l, stJ_l, inR_r, ldR_r, stR_r, tgR_r, lenA_i, lenA_l, lenA_r, lenA_ex, nl_i, nl_o, nl_l, nl_n, wd_n, wd_i, wd_l, wd_o, fit_i, fit_l, fit_o, K_v, K_n, true_and, and_true, Nat.reduceAdd, Nat.reduceLeDiff, Nat.reduceEqDiff, Nat.reduceMul, Nat.reduceLT, reduceIte, true_or, or_true, cmp_lt, cmp_gt, cmp_eq, wb_0, b_01, cmp_lt', cmp_gt', cmp_eq', b_0, b_1, wb_1, Int.reduceSub, Int.reduceToNat, List.getD_cons_succ, List.getD_cons_zero, Int.reduceLE, Int.reduceLT, Int.reduceEq, Int.reduceNeg, Int.reduceAdd, Int.reduceMul, and_self, em_b, ne_eq, not_false_eq_true, not_true_eq_false]
    try rfl
theorem lp_truth {FS GS K : Nat} {W : List Int → Prop} (hnb : n ≤ b.length) (hb9 : b.length ≤ 900) (hF : 8 ≤ FS) (hG : 8 ≤ GS) (hsub : ∀ s, okq n s → JN b n l 71 [none] FS 186 [] GS W deep s) (hW : ∀ L, W L → wfL K true (L ++ [1017])) : ∀ (r : Nat) (s : TS), okq n s → (∀ q, s = .inl q → n - q < r) → ∃ (s' : TS) (L : List Int), prg n s s' L ∧ (alR s' → wfL K true L) ∧ (∀ k : Nat, k ≤ 900 → (∀ q, s = .inl q → k ≤ q) → CSpec b n l 70 7 [some (vi deep), some (vi k)] (FS + 1) s s' L) ∧ RSpec b n l 187 5 [some (vi deep)] (GS + 1) s s' L := by
  intro r
  induction r with
  | zero =>
    intro s hq hr
    have hB : ¬ isB b n s 18 = true := fun w => by
      match s, w with
      | .inl q, w => exact absurd (hr q rfl) (by omega)
      | .inr x, w => cases w
    exact ex_truth hF hG hq hB
  | succ r ih =>
    intro s hq hr
    by_cases hB : isB b n s 18 = true
    · obtain ⟨q, rfl, hk⟩ := isB_t hB
      have hqn := hq q rfl
      have hlt := tkE_lt hqn (show tkK b n q ≠ 32 by omega)
      have hle := (tkE_le (b := b) hqn).2
      have h33 : tkK b n q ≠ 33 := by omega
      obtain ⟨s2, L2, p2, w2, cs2, rs2⟩ := hsub (.inl (tkE b n q)) (fun z e => by cases e; exact hle)
      have hp2 : ∀ q2, s2 = .inl q2 → tkE b n q + L2.length ≤ q2 ∧ q2 ≤ n := fun q2 e => by
        obtain ⟨z, e1, e2, e3⟩ := p2.1 q2 e
        cases e1
        exact ⟨e2, e3⟩
      have hrq := hr q rfl
      obtain ⟨s3, L3, p3, w3, cs3, rs3⟩ := ih s2 (prg_ok p2) (fun q2 e => by have := hp2 q2 e; omega)
      refine ⟨s3, L2 ++ [1017] ++ L3, ⟨fun q3 e => ?_, fun x e => by cases e⟩, fun z => ?_, fun k hk9 hkq h i j A C hX hT hc hcd hC hj => ?_, fun h i A C m hX hT hr hcd hC hi => ?_⟩
      · obtain ⟨q2, e1, e2, e3⟩ := p3.1 q3 e
        have := hp2 q2 e1
        exact ⟨q, rfl, by rw [List.length_append, List.length_append]; show q + (L2.length + 1 + L3.length) ≤ q3; omega, e3⟩
      · obtain ⟨q3, e3⟩ := z
        obtain ⟨q2, e2, -⟩ := p3.1 q3 e3
        exact wf_ll (hW L2 (w2 ⟨q2, e2⟩)) (w3 ⟨q3, e3⟩)
      · have hal : alC b n (.inl q) := ⟨q, rfl, h33⟩
        have hCq := hC q rfl
        have hkq' := hkq q rfl
        rw [nrm_ok h33] at hc
        have c5 : i 5 = 18 := by rw [hc.2.2.2.2.2.1]; exact hk
        obtain ⟨i1, a1, a2, a3⟩ := C_st1 (h := h) (j := j) hX hT hnb hc
        obtain ⟨i2, j2, A2, b1, b2, b3, b4, b5, b6⟩ := cs2 h i1 j A C hX hT a1 ⟨hcd.1, fun _ => hcd.2 hal⟩ (fun z e => by cases e; omega) hj
        obtain ⟨j3, A3, d1, d2, d3, d4⟩ := C_em (h := h) (i := i2) (o := 1017) b2 (fun z => by
          obtain ⟨q2, e, -⟩ := z
          have := hp2 q2 e
          rw [List.length_append]; omega)
        obtain ⟨i4, j4, A4, f1, f2, f3, f4, f5, f6⟩ := cs3 (k + 1) (by omega) (fun q2 e => by have := hp2 q2 e; omega) h i2 j3 A3 (C ++ L2 ++ [1017]) hX (tapC_fr hT (frA_t b5 d3)) b1 d1 (fun q2 e => by
          have := hp2 q2 e
          rw [List.length_append, List.length_append]; show C.length + L2.length + 1 ≤ q2; omega) (by rw [d2 17 (by decide), b4 17 (by decide)]; exact hj)
        refine ⟨i4, j4, A4, f1, by rw [← List.append_assoc, ← List.append_assoc]; exact f2, frI_t a2 (frI_t b3 f3), frI_t b4 (frI_t d2 f4), frA_t b5 (frA_t d3 f5), fun d Q hd => ?_⟩
        obtain ⟨d', rfl⟩ : ∃ d', d = d' + 1 := ⟨d - 1, by omega⟩
        rw [← f6 (d' + 1) Q hd]
        have ek : (k : Int) + 1 = ((k + 1 : Nat) : Int) := by omega
        have hk900 : (k : Int) < 900 := by omega
        rw [e_70_7]
        simp (disch := omega) only [e_70_8, e_70_11, e_70_14, e_70_15, e_70_18, e_70_21, e_70_23, e_70_26, e_70_27, e_70_30, e_70_33, e_70_34, e_70_35, e_70_38, e_70_39, e_70_42, e_70_45, e_70_48, c5, a3, b6, d4, ek, true_and, tkO_c, tkO_g0, tkO_k0, tkO_g1, tkO_k1, tkO_g2, tkO_k2, tkO_g3, tkO_k3, tkO_g4, tkO_k4, tkO_g5, tkO_k5, tkO_g6, tkO_k6, tkO_g7, tkO_k7, tkO_g8, tkO_k8, tkO_s1, tkO_s2, tkO_s3, tkO_s4, tkO_s5, tkO_s6, tkO_s7, tkO_s8, rdO_c, rdO_g0, rdO_k0, rdO_g1, rdO_k1, rdO_g2, rdO_k2, rdO_g3, rdO_k3, rdO_g4, rdO_k4, rdO_g5, rdO_k5, rdO_g6, rdO_k6, rdO_g7, rdO_k7, rdO_g8, rdO_k8, rdO_g9, rdO_k9, rdO_g10, rdO_k10, rdO_g11, rdO_k11, rdO_g12, rdO_k12, rdO_g13, rdO_k13, rdO_g14, rdO_k14, rdO_g15, rdO_k15, rdO_g16, rdO_k16, rdO_g17, rdO_k17, rdO_s2, rdO_s3, rdO_s4, rdO_s10, rdO_s11, rdO_s12, rdO_s13, rdO_s14, rdO_s15, rdO_s16, rdO_s17, rh_1, rh_2, rh_g11, rh_g12, rh_g13, rh_g14, rh_g15, rh_g16, rh_g17, rh_g18, rh_g19, rh_out, rh_u11, rh_u12, rh_u13, rh_u14, rh_u15, rh_u16, rh_u17, rh_u18, rh_u19, iup_s, iup_n, aup_s, aup_n, ne_eq, not_false_eq_true, sh_0, sh_1, sh_2, sh_3, sh_4, sh_5, sh_8, sh_15, sh_16, sh_24, Int.reducePow, Int.cast_ofNat_Int, w_of, wl_of, ltT, ltF, leT, leF, eqT, eqF, okF_0, okF_s, gF_0, gF_s, consC_o, sF_0, sF_s, clsO_o, inA_i, ldA_i, stA_i, inJ_l, ldJ_l, stJ_l, inR_r, ldR_r, stR_r, tgR_r, lenA_i, lenA_l, lenA_r, lenA_ex, nl_i, nl_o, nl_l, nl_n, wd_n, wd_i, wd_l, wd_o, fit_i, fit_l, fit_o, K_v, K_n, true_and, and_true, Nat.reduceAdd, Nat.reduceLeDiff, Nat.reduceEqDiff, Nat.reduceMul, Nat.reduceLT, reduceIte, true_or, or_true, cmp_lt, cmp_gt, cmp_eq, wb_0, b_01, cmp_lt', cmp_gt', cmp_eq', b_0, b_1, wb_1, Int.reduceSub, Int.reduceToNat, List.getD_cons_succ, List.getD_cons_zero, Int.reduceLE, Int.reduceLT, Int.reduceEq, Int.reduceNeg, Int.reduceAdd, Int.reduceMul, and_self, em_b, ne_eq, not_false_eq_true, not_true_eq_false]
        try rfl
      · have hCq := hC q rfl
        obtain ⟨i1, a1, a2, a3⟩ := R_ea (h := h) (A := A) (kd := 18) hX hT hnb (by decide) hr
        rw [if_pos hB] at a1
        rw [if_pos hB, show rkK 18 = 19 from rfl] at a3
        obtain ⟨i2, A2, b1, b2, b3, b4, b5⟩ := rs2 h i1 A C m hX hT a1 (fun _ => hcd ⟨q, rfl⟩) (fun z e => by cases e; omega) (by rw [a2 15 (by decide)]; exact hi)
        obtain ⟨A3, d1, d2, d3⟩ := R_co (h := h) (l := l) (o := 1017) (v := 3008) (by rfl) b1 (fun z => ⟨b2 z, by
          obtain ⟨q2, e⟩ := z
          have := hp2 q2 e
          rw [List.length_append]; omega⟩)
        obtain ⟨i4, A4, f1, f2, f3, f4, f5⟩ := rs3 h i2 A3 (C ++ L2 ++ [1017]) m hX (tapM_fr hT (frF_t b4 d2)) b1 d1 (fun q2 e => by
          have := hp2 q2 e
          rw [List.length_append, List.length_append]; show C.length + L2.length + 1 ≤ q2; omega) (by rw [b3 15 (by decide), a2 15 (by decide)]; exact hi)
        refine ⟨i4, A4, f1, fun z => by rw [← List.append_assoc, ← List.append_assoc]; exact f2 z, frI_t a2 (frI_t b3 f3), frF_t b4 (frF_t d2 f4), fun d Q hd => ?_⟩
        obtain ⟨d', rfl⟩ : ∃ d', d = d' + 1 := ⟨d - 1, by omega⟩
        rw [← f5 (d' + 1) Q hd]
        rw [e_187_5]
        simp (disch := omega) only [e_187_6, e_187_8, e_187_11, e_187_14, e_187_15, e_187_16, e_187_19, e_187_20, e_187_23, e_187_26, a3, b5, d3, true_and, mdO_c, mdO_g0, mdO_k0, mdO_g1, mdO_k1, mdO_g2, mdO_k2, mdO_g3, mdO_k3, mdO_g4, mdO_k4, mdO_g5, mdO_k5, mdO_g6, mdO_k6, mdO_g7, mdO_k7, mdO_g8, mdO_k8, mdO_g9, mdO_k9, mdO_g10, mdO_k10, mdO_g11, mdO_k11, mdO_g12, mdO_k12, mdO_g13, mdO_k13, mdO_g14, mdO_k14, mdO_g15, mdO_k15, mdO_g16, mdO_k16, mdO_g17, mdO_k17, mdO_g18, mdO_k18, mdO_g19, mdO_k19, mdO_g20, mdO_k20, mdO_g21, mdO_k21, mdO_g22, mdO_k22, mdO_g23, mdO_k23, mdO_g24, mdO_k24, mdO_g25, mdO_k25, mdO_g26, mdO_k26, mdO_g27, mdO_k27, mdO_g28, mdO_k28, mdO_g29, mdO_k29, mdO_g30, mdO_k30, mdO_g31, mdO_k31, mdO_g32, mdO_k32, mdO_g33, mdO_k33, mdO_g34, mdO_k34, mdO_g35, mdO_k35, mdO_s0, mdO_s5, mdO_s6, mdO_s7, mdO_s8, mdO_s9, mdO_s10, mdO_s11, mdO_s12, mdO_s13, mdO_s14, mdO_s15, mdO_s19, mdO_s20, mdO_s25, mdO_s26, mdO_s31, mdO_s32, md_1, md_2, md_g71, md_g72, md_g73, md_g74, md_g75, md_g76, md_g77, md_g78, md_g79, md_g80, md_g81, md_g82, md_g83, md_g84, md_g85, md_g86, md_g87, md_g88, md_g89, md_out, md_u71, md_u72, md_u73, md_u74, md_u75, md_u76, md_u77, md_u78, md_u79, md_u80, md_u81, md_u82, md_u83, md_u84, md_u85, md_u86, md_u87, md_u88, md_u89, md_uo, iup_s, iup_n, aup_s, aup_n, ne_eq, not_false_eq_true, sh_0, sh_1, sh_2, sh_3, sh_4, sh_5, sh_8, sh_15, sh_16, sh_24, Int.reducePow, Int.cast_ofNat_Int, w_of, wl_of, ltT, ltF, leT, leF, eqT, eqF, okF_0, okF_s, gF_0, gF_s, consC_o, sF_0, sF_s, clsO_o, inA_i, ldA_i, stA_i, inJ_l, ldJ_l, stJ_l, inR_r, ldR_r, stR_r, tgR_r, lenA_i, lenA_l, lenA_r, lenA_ex, nl_i, nl_o, nl_l, nl_n, wd_n, wd_i, wd_l, wd_o, fit_i, fit_l, fit_o, K_v, K_n, true_and, and_true, Nat.reduceAdd, Nat.reduceLeDiff, Nat.reduceEqDiff, Nat.reduceMul, Nat.reduceLT, reduceIte, true_or, or_true, cmp_lt, cmp_gt, cmp_eq, wb_0, b_01, cmp_lt', cmp_gt', cmp_eq', b_0, b_1, wb_1, Int.reduceSub, Int.reduceToNat, List.getD_cons_succ, List.getD_cons_zero, Int.reduceLE, Int.reduceLT, Int.reduceEq, Int.reduceNeg, Int.reduceAdd, Int.reduceMul, and_self, em_b, ne_eq, not_false_eq_true, not_true_eq_false]
        try rfl
    · exact ex_truth hF hG hq hB
theorem J_truth {FS GS K : Nat} {W : List Int → Prop} (hnb : n ≤ b.length) (hb9 : b.length ≤ 900) (hF : 8 ≤ FS) (hG : 8 ≤ GS) (hsub : ∀ s, okq n s → JN b n l 71 [none] FS 186 [] GS W deep s) (hW : ∀ L, W L → wfL K true (L ++ [1017])) (hW2 : ∀ L, W L → wfS K true L) : ∀ s, okq n s → JN b n l 70 [none] (FS + 1) 187 [] (GS + 1) (wfS K true) deep s := by
  intro s hq
  obtain ⟨s1, L1, p1, w1, cs1, rs1⟩ := hsub s hq
  obtain ⟨s2, L2, p2, w2, cs2, rs2⟩ := lp_truth hnb hb9 hF hG hsub hW (n + 1) s1 (prg_ok p1) (fun q _ => by omega)
  refine ⟨s2, L1 ++ L2, prg_t p1 p2, fun z => ?_, fun h i j A C hX hT hc hcd hC hj => ?_, fun h i A C m hX hT hr hcd hC hi => ?_⟩
  · obtain ⟨q2, e2⟩ := z
    obtain ⟨q1, e1, -⟩ := p2.1 q2 e2
    exact wf_sl (hW2 L1 (w1 ⟨q1, e1⟩)) (w2 ⟨q2, e2⟩)
  · obtain ⟨i2, j2, A2, b1, b2, b3, b4, b5, b6⟩ := cs1 h i j A C hX hT hc hcd hC hj
    obtain ⟨i4, j4, A4, f1, f2, f3, f4, f5, f6⟩ := cs2 0 (by omega) (fun q _ => Nat.zero_le _) h i2 j2 A2 (C ++ L1) hX (tapC_fr hT b5) b1 b2 (prg_C p1 hC) (by rw [b4 17 (by decide)]; exact hj)
    refine ⟨i4, j4, A4, f1, by rw [← List.append_assoc]; exact f2, frI_t b3 f3, frI_t b4 f4, frA_t b5 f5, fun d Q hd => ?_⟩
    obtain ⟨d', rfl⟩ : ∃ d', d = d' + 1 := ⟨d - 1, by omega⟩
    have f6' := f6 (d' + 1) Q hd
    rw [nc0] at f6'
    rw [← f6']
    simp (disch := omega) only [e_70_0, e_70_1, e_70_2, e_70_5, e_70_6, b6, true_and, tkO_c, tkO_g0, tkO_k0, tkO_g1, tkO_k1, tkO_g2, tkO_k2, tkO_g3, tkO_k3, tkO_g4, tkO_k4, tkO_g5, tkO_k5, tkO_g6, tkO_k6, tkO_g7, tkO_k7, tkO_g8, tkO_k8, tkO_s1, tkO_s2, tkO_s3, tkO_s4, tkO_s5, tkO_s6, tkO_s7, tkO_s8, rdO_c, rdO_g0, rdO_k0, rdO_g1, rdO_k1, rdO_g2, rdO_k2, rdO_g3, rdO_k3, rdO_g4, rdO_k4, rdO_g5, rdO_k5, rdO_g6, rdO_k6, rdO_g7, rdO_k7, rdO_g8, rdO_k8, rdO_g9, rdO_k9, rdO_g10, rdO_k10, rdO_g11, rdO_k11, rdO_g12, rdO_k12, rdO_g13, rdO_k13, rdO_g14, rdO_k14, rdO_g15, rdO_k15, rdO_g16, rdO_k16, rdO_g17, rdO_k17, rdO_s2, rdO_s3, rdO_s4, rdO_s10, rdO_s11, rdO_s12, rdO_s13, rdO_s14, rdO_s15, rdO_s16, rdO_s17, rh_1, rh_2, rh_g11, rh_g12, rh_g13, rh_g14, rh_g15, rh_g16, rh_g17, rh_g18, rh_g19, rh_out, rh_u11, rh_u12, rh_u13, rh_u14, rh_u15, rh_u16, rh_u17, rh_u18, rh_u19, iup_s, iup_n, aup_s, aup_n, ne_eq, not_false_eq_true, sh_0, sh_1, sh_2, sh_3, sh_4, sh_5, sh_8, sh_15, sh_16, sh_24, Int.reducePow, Int.cast_ofNat_Int, w_of, wl_of, ltT, ltF, leT, leF, eqT, eqF, okF_0, okF_s, gF_0, gF_s, consC_o, sF_0, sF_s, clsO_o, inA_i, ldA_i, stA_i, inJ_l, ldJ_l, stJ_l, inR_r, ldR_r, stR_r, tgR_r, lenA_i, lenA_l, lenA_r, lenA_ex, nl_i, nl_o, nl_l, nl_n, wd_n, wd_i, wd_l, wd_o, fit_i, fit_l, fit_o, K_v, K_n, true_and, and_true, Nat.reduceAdd, Nat.reduceLeDiff, Nat.reduceEqDiff, Nat.reduceMul, Nat.reduceLT, reduceIte, true_or, or_true, cmp_lt, cmp_gt, cmp_eq, wb_0, b_01, cmp_lt', cmp_gt', cmp_eq', b_0, b_1, wb_1, Int.reduceSub, Int.reduceToNat, List.getD_cons_succ, List.getD_cons_zero, Int.reduceLE, Int.reduceLT, Int.reduceEq, Int.reduceNeg, Int.reduceAdd, Int.reduceMul, and_self, em_b, ne_eq, not_false_eq_true, not_true_eq_false]
    try rfl
  · obtain ⟨i2, A2, b1, b2, b3, b4, b5⟩ := rs1 h i A C m hX hT hr hcd hC hi
    obtain ⟨i4, A4, f1, f2, f3, f4, f5⟩ := rs2 h i2 A2 (C ++ L1) m hX (tapM_fr hT b4) b1 b2 (prg_C p1 hC) (by rw [b3 15 (by decide)]; exact hi)
    refine ⟨i4, A4, f1, fun z => by rw [← List.append_assoc]; exact f2 z, frI_t b3 f3, frF_t b4 f4, fun d Q hd => ?_⟩
    obtain ⟨d', rfl⟩ : ∃ d', d = d' + 1 := ⟨d - 1, by omega⟩
    rw [← f5 (d' + 1) Q hd]
    simp (disch := omega) only [e_187_0, e_187_1, e_187_2, b5, true_and, mdO_c, mdO_g0, mdO_k0, mdO_g1, mdO_k1, mdO_g2, mdO_k2, mdO_g3, mdO_k3, mdO_g4, mdO_k4, mdO_g5, mdO_k5, mdO_g6, mdO_k6, mdO_g7, mdO_k7, mdO_g8, mdO_k8, mdO_g9, mdO_k9, mdO_g10, mdO_k10, mdO_g11, mdO_k11, mdO_g12, mdO_k12, mdO_g13, mdO_k13, mdO_g14, mdO_k14, mdO_g15, mdO_k15, mdO_g16, mdO_k16, mdO_g17, mdO_k17, mdO_g18, mdO_k18, mdO_g19, mdO_k19, mdO_g20, mdO_k20, mdO_g21, mdO_k21, mdO_g22, mdO_k22, mdO_g23, mdO_k23, mdO_g24, mdO_k24, mdO_g25, mdO_k25, mdO_g26, mdO_k26, mdO_g27, mdO_k27, mdO_g28, mdO_k28, mdO_g29, mdO_k29, mdO_g30, mdO_k30, mdO_g31, mdO_k31, mdO_g32, mdO_k32, mdO_g33, mdO_k33, mdO_g34, mdO_k34, mdO_g35, mdO_k35, mdO_s0, mdO_s5, mdO_s6, mdO_s7, mdO_s8, mdO_s9, mdO_s10, mdO_s11, mdO_s12, mdO_s13, mdO_s14, mdO_s15, mdO_s19, mdO_s20, mdO_s25, mdO_s26, mdO_s31, mdO_s32, md_1, md_2, md_g71, md_g72, md_g73, md_g74, md_g75, md_g76, md_g77, md_g78, md_g79, md_g80, md_g81, md_g82, md_g83, md_g84, md_g85, md_g86, md_g87, md_g88, md_g89, md_out, md_u71, md_u72, md_u73, md_u74, md_u75, md_u76, md_u77, md_u78, md_u79, md_u80, md_u81, md_u82, md_u83, md_u84, md_u85, md_u86, md_u87, md_u88, md_u89, md_uo, iup_s, iup_n, aup_s, aup_n, ne_eq, not_false_eq_true, sh_0, sh_1, sh_2, sh_3, sh_4, sh_5, sh_8, sh_15, sh_16, sh_24, Int.reducePow, Int.cast_ofNat_Int, w_of, wl_of, ltT, ltF, leT, leF, eqT, eqF, okF_0, okF_s, gF_0, gF_s, consC_o, sF_0, sF_s, clsO_o, inA_i, ldA_i, stA_i, inJ_l, ldJ_l, stJ_l, inR_r, ldR_r, stR_r, tgR_r, lenA_i, lenA_l, lenA_r, lenA_ex, nl_i, nl_o, nl_l, nl_n, wd_n, wd_i, wd_l, wd_o, fit_i, fit_l, fit_o, K_v, K_n, true_and, and_true, Nat.reduceAdd, Nat.reduceLeDiff, Nat.reduceEqDiff, Nat.reduceMul, Nat.reduceLT, reduceIte, true_or, or_true, cmp_lt, cmp_gt, cmp_eq, wb_0, b_01, cmp_lt', cmp_gt', cmp_eq', b_0, b_1, wb_1, Int.reduceSub, Int.reduceToNat, List.getD_cons_succ, List.getD_cons_zero, Int.reduceLE, Int.reduceLT, Int.reduceEq, Int.reduceNeg, Int.reduceAdd, Int.reduceMul, and_self, em_b, ne_eq, not_false_eq_true, not_true_eq_false]
    try rfl
end jl
