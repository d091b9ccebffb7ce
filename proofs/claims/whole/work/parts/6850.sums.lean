/-! READING LAWS: sums -/
section jl
variable {b : List Int} {n l deep : Nat}
theorem ex_sum {FS GS K : Nat} {s : TS} (hF : 8 ≤ FS) (hG : 8 ≤ GS) (hq : okq n s) (hB1 : ¬ isB b n s 43 = true) (hB2 : ¬ isB b n s 45 = true) : ∃ (s' : TS) (L : List Int), prg n s s' L ∧ (alR s' → wfL K false L) ∧ (∀ (k : Nat) (o3 : Option PV), k ≤ 900 → (∀ q, s = .inl q → k ≤ q) → CSpec b n l 73 7 [some (vi deep), some (vi k), o3] (FS + 1) s s' L) ∧ (∀ o2 : Option PV, RSpec b n l 184 5 [some (vi deep), o2] (GS + 1) s s' L) := by
  refine ⟨s, [], prg_r hq, fun _ => wf_nil, fun k o3 hk9 hkq h i j A C hX hT hc hcd hC hj => ⟨i, j, A, hc, by rw [List.append_nil]; exact hcd, frI_r, frI_r, frA_r, fun d Q hd => ?_⟩, fun o2 h i A C m hX hT hr hcd hC hi => ?_⟩
  · obtain ⟨c1, c2, c3⟩ := cl_kind (by omega) (by omega) hc hB1
    obtain ⟨c4, -, -⟩ := cl_kind (by omega) (by omega) hc hB2
    by_cases z : (k : Int) < 900
    · rw [e_73_7]
      simp (disch := omega) only [e_73_8, e_73_11, e_73_14, e_73_15, e_73_18, e_73_21, e_73_23, e_73_26, e_73_27, e_73_30, e_73_33, e_73_35, e_73_83, true_and, tkO_c, tkO_g0, tkO_k0, tkO_g1, tkO_k1, tkO_g2, tkO_k2, tkO_g3, tkO_k3, tkO_g4, tkO_k4, tkO_g5, tkO_k5, tkO_g6, tkO_k6, tkO_g7, tkO_k7, tkO_g8, tkO_k8, tkO_s1, tkO_s2, tkO_s3, tkO_s4, tkO_s5, tkO_s6, tkO_s7, tkO_s8, rdO_c, rdO_g0, rdO_k0, rdO_g1, rdO_k1, rdO_g2, rdO_k2, rdO_g3, rdO_k3, rdO_g4, rdO_k4, rdO_g5, rdO_k5, rdO_g6, rdO_k6, rdO_g7, rdO_k7, rdO_g8, rdO_k8, rdO_g9, rdO_k9, rdO_g10, rdO_k10, rdO_g11, rdO_k11, rdO_g12, rdO_k12, rdO_g13, rdO_k13, rdO_g14, rdO_k14, rdO_g15, rdO_k15, rdO_g16, rdO_k16, rdO_g17, rdO_k17, rdO_s2, rdO_s3, rdO_s4, rdO_s10, rdO_s11, rdO_s12, rdO_s13, rdO_s14, rdO_s15, rdO_s16, rdO_s17, rh_1, rh_2, rh_g11, rh_g12, rh_g13, rh_g14, rh_g15, rh_g16, rh_g17, rh_g18, rh_g19, rh_out, rh_u11, rh_u12, rh_u13, rh_u14, rh_u15, rh_u16, rh_u17, rh_u18, rh_u19, iup_s, iup_n, aup_s, aup_n, ne_eq, not_false_eq_true, sh_0, sh_1, sh_2, sh_3, sh_4, sh_5, sh_8, sh_15, sh_16, sh_24, Int.reducePow, Int.cast_ofNat_Int, w_of, wl_of, ltT, ltF, leT, leF, eqT, eqF, okF_0, okF_s, gF_0, gF_s, consC_o, sF_0, sF_s, clsO_o, inA_i, ldA_i, stA_i, inJ_l, ldJ_l, stJ_l, inR_r, ldR_r, stR_r, tgR_r, lenA_i, lenA_l, lenA_r, lenA_ex, nl_i, nl_o, nl_l, nl_n, wd_n, wd_i, wd_l, wd_o, fit_i, fit_l, fit_o, K_v, K_n, true_and, and_true, Nat.reduceAdd, Nat.reduceLeDiff, Nat.reduceEqDiff, Nat.reduceMul, Nat.reduceLT, reduceIte, true_or, or_true, cmp_lt, cmp_gt, cmp_eq, wb_0, b_01, cmp_lt', cmp_gt', cmp_eq', b_0, b_1, wb_1, Int.reduceSub, Int.reduceToNat, List.getD_cons_succ, List.getD_cons_zero, Int.reduceLE, Int.reduceLT, Int.reduceEq, Int.reduceNeg, Int.reduceAdd, Int.reduceMul, and_self, em_b, ne_eq, not_false_eq_true, not_true_eq_false]
      try rfl
    · rw [e_73_7]
      simp (disch := omega) only [e_73_8, e_73_11, e_73_83, true_and, tkO_c, tkO_g0, tkO_k0, tkO_g1, tkO_k1, tkO_g2, tkO_k2, tkO_g3, tkO_k3, tkO_g4, tkO_k4, tkO_g5, tkO_k5, tkO_g6, tkO_k6, tkO_g7, tkO_k7, tkO_g8, tkO_k8, tkO_s1, tkO_s2, tkO_s3, tkO_s4, tkO_s5, tkO_s6, tkO_s7, tkO_s8, rdO_c, rdO_g0, rdO_k0, rdO_g1, rdO_k1, rdO_g2, rdO_k2, rdO_g3, rdO_k3, rdO_g4, rdO_k4, rdO_g5, rdO_k5, rdO_g6, rdO_k6, rdO_g7, rdO_k7, rdO_g8, rdO_k8, rdO_g9, rdO_k9, rdO_g10, rdO_k10, rdO_g11, rdO_k11, rdO_g12, rdO_k12, rdO_g13, rdO_k13, rdO_g14, rdO_k14, rdO_g15, rdO_k15, rdO_g16, rdO_k16, rdO_g17, rdO_k17, rdO_s2, rdO_s3, rdO_s4, rdO_s10, rdO_s11, rdO_s12, rdO_s13, rdO_s14, rdO_s15, rdO_s16, rdO_s17, rh_1, rh_2, rh_g11, rh_g12, rh_g13, rh_g14, rh_g15, rh_g16, rh_g17, rh_g18, rh_g19, rh_out, rh_u11, rh_u12, rh_u13, rh_u14, rh_u15, rh_u16, rh_u17, rh_u18, rh_u19, iup_s, iup_n, aup_s, aup_n, ne_eq, not_false_eq_true, sh_0, sh_1, sh_2, sh_3, sh_4, sh_5, sh_8, sh_15, sh_16, sh_24, Int.reducePow, Int.cast_ofNat_Int, w_of, wl_of, ltT, ltF, leT, leF, eqT, eqF, okF_0, okF_s, gF_0, gF_s, consC_o, sF_0, sF_s, clsO_o, inA_i, ldA_i, stA_i, inJ_l, ldJ_l, stJ_l, inR_r, ldR_r, stR_r, tgR_r, lenA_i, lenA_l, lenA_r, lenA_ex, nl_i, nl_o, nl_l, nl_n, wd_n, wd_i, wd_l, wd_o, fit_i, fit_l, fit_o, K_v, K_n, true_and, and_true, Nat.reduceAdd, Nat.reduceLeDiff, Nat.reduceEqDiff, Nat.reduceMul, Nat.reduceLT, reduceIte, true_or, or_true, cmp_lt, cmp_gt, cmp_eq, wb_0, b_01, cmp_lt', cmp_gt', cmp_eq', b_0, b_1, wb_1, Int.reduceSub, Int.reduceToNat, List.getD_cons_succ, List.getD_cons_zero, Int.reduceLE, Int.reduceLT, Int.reduceEq, Int.reduceNeg, Int.reduceAdd, Int.reduceMul, and_self, em_b, ne_eq, not_false_eq_true, not_true_eq_false]
      try rfl
  · have is1 := r_is (h := h) (A := A) (kd := 43) (by decide) hr
    have is2 := r_is (h := h) (A := A) (kd := 45) (by decide) hr
    rw [if_neg hB1, show rkK 43 = 32 from rfl] at is1
    rw [if_neg hB2, show rkK 45 = 33 from rfl] at is2
    refine ⟨i, A, hr, fun z => by rw [List.append_nil]; exact hcd z, frI_r, frF_r, fun d Q hd => ?_⟩
    obtain ⟨d', rfl⟩ : ∃ d', d = d' + 2 := ⟨d - 2, by omega⟩
    rw [e_184_5]
    simp (disch := omega) only [e_184_6, e_184_8, e_184_11, e_184_14, e_184_15, e_184_17, e_184_20, e_184_59, is1, is2, true_and, mdO_c, mdO_g0, mdO_k0, mdO_g1, mdO_k1, mdO_g2, mdO_k2, mdO_g3, mdO_k3, mdO_g4, mdO_k4, mdO_g5, mdO_k5, mdO_g6, mdO_k6, mdO_g7, mdO_k7, mdO_g8, mdO_k8, mdO_g9, mdO_k9, mdO_g10, mdO_k10, mdO_g11, mdO_k11, mdO_g12, mdO_k12, mdO_g13, mdO_k13, mdO_g14, mdO_k14, mdO_g15, mdO_k15, mdO_g16, mdO_k16, mdO_g17, mdO_k17, mdO_g18, mdO_k18, mdO_g19, mdO_k19, mdO_g20, mdO_k20, mdO_g21, mdO_k21, mdO_g22, mdO_k22, mdO_g23, mdO_k23, mdO_g24, mdO_k24, mdO_g25, mdO_k25, mdO_g26, mdO_k26, mdO_g27, mdO_k27, mdO_g28, mdO_k28, mdO_g29, mdO_k29, mdO_g30, mdO_k30, mdO_g31, mdO_k31, mdO_g32, mdO_k32, mdO_g33, mdO_k33, mdO_g34, mdO_k34, mdO_g35, mdO_k35, mdO_s0, mdO_s5, mdO_s6, mdO_s7, mdO_s8, mdO_s9, mdO_s10, mdO_s11, mdO_s12, mdO_s13, mdO_s14, mdO_s15, mdO_s19, mdO_s20, mdO_s25, mdO_s26, mdO_s31, mdO_s32, md_1, md_2, md_g71, md_g72, md_g73, md_g74, md_g75, md_g76, md_g77, md_g78, md_g79, md_g80, md_g81, md_g82, md_g83, md_g84, md_g85, md_g86, md_g87, md_g88, md_g89, md_out, md_u71, md_u72, md_u73, md_u74, md_u75, md_u76, md_u77, md_u78, md_u79, md_u80, md_u81, md_u82, md_u83, md_u84, md_u85, md_u86, md_u87, md_u88, md_u89, md_uo, iup_s, iup_n, aup_s, aup_n, ne_eq, not_false_eq_true, sh_0, sh_1, sh_2, sh_3, sh_4, sh_5, sh_8, sh_15, sh_16, sh_24, Int.reducePow, Int.cast_ofNat_Int, w_of, wl_of, ltT, ltF, leT, leF, eqT, eqF, okF_0, okF_s, gF_0, gF_s, consC_o, sF_0, sF_s, clsO_o, inA_i, ldA_i, stA_i, inJ_l, ldJ_l, stJ_l, inR_r, ldR_r, stR_r, tgR_r, lenA_i, lenA_l, lenA_r, lenA_ex, nl_i, nl_o, nl_l, nl_n, wd_n, wd_i, wd_l, wd_o, fit_i, fit_l, fit_o, K_v, K_n, true_and, and_true, Nat.reduceAdd, Nat.reduceLeDiff, Nat.reduceEqDiff, Nat.reduceMul, Nat.reduceLT, reduceIte, true_or, or_true, cmp_lt, cmp_gt, cmp_eq, wb_0, b_01, cmp_lt', cmp_gt', cmp_eq', b_0, b_1, wb_1, Int.reduceSub, Int.reduceToNat, List.getD_cons_succ, List.getD_cons_zero, Int.reduceLE, Int.reduceLT, Int.reduceEq, Int.reduceNeg, Int.reduceAdd, Int.reduceMul, and_self, em_b, ne_eq, not_false_eq_true, not_true_eq_false]
    try rfl
theorem lp_sum {FS GS K : Nat} {W : List Int → Prop} (hnb : n ≤ b.length) (hb9 : b.length ≤ 900) (hF : 8 ≤ FS) (hG : 8 ≤ GS) (hsub : ∀ s, okq n s → JN b n l 74 [none] FS 183 [] GS W deep s) (hW : ∀ L o, W L → (o = 1010 ∨ o = 1011) → wfL K false (L ++ [o])) : ∀ (r : Nat) (s : TS), okq n s → (∀ q, s = .inl q → n - q < r) → ∃ (s' : TS) (L : List Int), prg n s s' L ∧ (alR s' → wfL K false L) ∧ (∀ (k : Nat) (o3 : Option PV), k ≤ 900 → (∀ q, s = .inl q → k ≤ q) → CSpec b n l 73 7 [some (vi deep), some (vi k), o3] (FS + 1) s s' L) ∧ (∀ o2 : Option PV, RSpec b n l 184 5 [some (vi deep), o2] (GS + 1) s s' L) := by
  intro r
  induction r with
  | zero =>
    intro s hq hr
    have hB : ∀ kd, ¬ isB b n s kd = true := fun kd w => by
      match s, w with
      | .inl q, w => exact absurd (hr q rfl) (by omega)
      | .inr x, w => cases w
    exact ex_sum hF hG hq (hB 43) (hB 45)
  | succ r ih =>
    intro s hq hr
    by_cases hB : isB b n s 43 = true ∨ isB b n s 45 = true
    · obtain ⟨q, rfl, hk⟩ : ∃ q, s = .inl q ∧ (tkK b n q = 43 ∨ tkK b n q = 45) := by
        rcases hB with z | z
        · obtain ⟨q, e, hk⟩ := isB_t z; exact ⟨q, e, Or.inl hk⟩
        · obtain ⟨q, e, hk⟩ := isB_t z; exact ⟨q, e, Or.inr hk⟩
      have hqn := hq q rfl
      have hlt := tkE_lt hqn (show tkK b n q ≠ 32 by omega)
      have hle := (tkE_le (b := b) hqn).2
      have h33 : tkK b n q ≠ 33 := by omega
      obtain ⟨s2, L2, p2, w2, cs2, rs2⟩ := hsub (.inl (tkE b n q)) (fun z e => by cases e; exact hle)
      have hp2 : ∀ q2, s2 = .inl q2 → tkE b n q + L2.length ≤ q2 ∧ q2 ≤ n := fun q2 e => by
        obtain ⟨z, e1, e2, e3⟩ := p2.1 q2 e
        cases e1
        exact ⟨e2, e3⟩
      have hrq := hr q rfl
      obtain ⟨s3, L3, p3, w3, cs3, rs3⟩ := ih s2 (prg_ok p2) (fun q2 e => by have := hp2 q2 e; omega)
      obtain ⟨op, hop, hop2⟩ : ∃ op : Int, (op = 1010 ∨ op = 1011) ∧ (tkK b n q = 43 ∧ op = 1010 ∨ tkK b n q = 45 ∧ op = 1011) := by
        rcases hk with z | z
        · exact ⟨1010, Or.inl rfl, Or.inl ⟨z, rfl⟩⟩
        · exact ⟨1011, Or.inr rfl, Or.inr ⟨z, rfl⟩⟩
      refine ⟨s3, L2 ++ [op] ++ L3, ⟨fun q3 e => ?_, fun x e => by cases e⟩, fun z => ?_, fun k o3 hk9 hkq h i j A C hX hT hc hcd hC hj => ?_, fun o2 h i A C m hX hT hr hcd hC hi => ?_⟩
      · obtain ⟨q2, e1, e2, e3⟩ := p3.1 q3 e
        have := hp2 q2 e1
        exact ⟨q, rfl, by rw [List.length_append, List.length_append]; show q + (L2.length + 1 + L3.length) ≤ q3; omega, e3⟩
      · obtain ⟨q3, e3⟩ := z
        obtain ⟨q2, e2, -⟩ := p3.1 q3 e3
        exact wf_ll (hW L2 op (w2 ⟨q2, e2⟩) hop) (w3 ⟨q3, e3⟩)
      · have hal : alC b n (.inl q) := ⟨q, rfl, h33⟩
        have hCq := hC q rfl
        have hkq' := hkq q rfl
        rw [nrm_ok h33] at hc
        have c5 : i 5 = tkK b n q := hc.2.2.2.2.2.1
        obtain ⟨i1, a1, a2, a3⟩ := C_st1 (h := h) (j := j) hX hT hnb hc
        obtain ⟨i2, j2, A2, b1, b2, b3, b4, b5, b6⟩ := cs2 h i1 j A C hX hT a1 ⟨hcd.1, fun _ => hcd.2 hal⟩ (fun z e => by cases e; omega) hj
        obtain ⟨j3, A3, d1, d2, d3, d4⟩ := C_em (h := h) (i := i2) (o := op) b2 (fun z => by
          obtain ⟨q2, e, -⟩ := z
          have := hp2 q2 e
          rw [List.length_append]; omega)
        obtain ⟨i4, j4, A4, f1, f2, f3, f4, f5, f6⟩ := cs3 (k + 1) (some (vi (tkK b n q))) (by omega) (fun q2 e => by have := hp2 q2 e; omega) h i2 j3 A3 (C ++ L2 ++ [op]) hX (tapC_fr hT (frA_t b5 d3)) b1 d1 (fun q2 e => by
          have := hp2 q2 e
          rw [List.length_append, List.length_append]; show C.length + L2.length + 1 ≤ q2; omega) (by rw [d2 17 (by decide), b4 17 (by decide)]; exact hj)
        refine ⟨i4, j4, A4, f1, by rw [← List.append_assoc, ← List.append_assoc]; exact f2, frI_t a2 (frI_t b3 f3), frI_t b4 (frI_t d2 f4), frA_t b5 (frA_t d3 f5), fun d Q hd => ?_⟩
        obtain ⟨d', rfl⟩ : ∃ d', d = d' + 1 := ⟨d - 1, by omega⟩
        rw [← f6 (d' + 1) Q hd]
        have ek : (k : Int) + 1 = ((k + 1 : Nat) : Int) := by omega
        have hk900 : (k : Int) < 900 := by omega
        rcases hop2 with ⟨z1, z2⟩ | ⟨z1, z2⟩
        · subst z2
          rw [z1] at c5 ⊢
          rw [e_73_7]
          simp (disch := omega) only [e_73_8, e_73_11, e_73_14, e_73_15, e_73_18, e_73_21, e_73_23, e_73_26, e_73_27, e_73_30, e_73_33, e_73_35, e_73_38, e_73_39, e_73_42, e_73_45, e_73_46, e_73_47, e_73_50, e_73_53, e_73_54, e_73_55, e_73_58, e_73_59, e_73_60, e_73_62, e_73_65, e_73_68, e_73_71, e_73_74, e_73_77, e_73_80, c5, a3, b6, d4, ek, true_and, tkO_c, tkO_g0, tkO_k0, tkO_g1, tkO_k1, tkO_g2, tkO_k2, tkO_g3, tkO_k3, tkO_g4, tkO_k4, tkO_g5, tkO_k5, tkO_g6, tkO_k6, tkO_g7, tkO_k7, tkO_g8, tkO_k8, tkO_s1, tkO_s2, tkO_s3, tkO_s4, tkO_s5, tkO_s6, tkO_s7, tkO_s8, rdO_c, rdO_g0, rdO_k0, rdO_g1, rdO_k1, rdO_g2, rdO_k2, rdO_g3, rdO_k3, rdO_g4, rdO_k4, rdO_g5, rdO_k5, rdO_g6, rdO_k6, rdO_g7, rdO_k7, rdO_g8, rdO_k8, rdO_g9, rdO_k9, rdO_g10, rdO_k10, rdO_g11, rdO_k11, rdO_g12, rdO_k12, rdO_g13, rdO_k13, rdO_g14, rdO_k14, rdO_g15, rdO_k15, rdO_g16, rdO_k16, rdO_g17, rdO_k17, rdO_s2, rdO_s3, rdO_s4, rdO_s10, rdO_s11, rdO_s12, rdO_s13, rdO_s14, rdO_s15, rdO_s16, rdO_s17, rh_1, rh_2, rh_g11, rh_g12, rh_g13, rh_g14, rh_g15, rh_g16, rh_g17, rh_g18, rh_g19, rh_out, rh_u11, rh_u12, rh_u13, rh_u14, rh_u15, rh_u16, rh_u17, rh_u18, rh_u19, iup_s, iup_n, aup_s, aup_n, ne_eq, not_false_eq_true, sh_0, sh_1, sh_2, sh_3, sh_4, sh_5, sh_8, sh_15, sh_16, sh_24, Int.reducePow, Int.cast_ofNat_Int, w_of, wl_of, ltT, ltF, leT, leF, eqT, eqF, okF_0, okF_s, gF_0, gF_s, consC_o, sF_0, sF_s, clsO_o, inA_i, ldA_i, stA_i, inJ_l, ldJ_l, stJ_l, inR_r, ldR_r, stR_r, tgR_r, lenA_i, lenA_l, lenA_r, lenA_ex, nl_i, nl_o, nl_l, nl_n, wd_n, wd_i, wd_l, wd_o, fit_i, fit_l, fit_o, K_v, K_n, true_and, and_true, Nat.reduceAdd, Nat.reduceLeDiff, Nat.reduceEqDiff, Nat.reduceMul, Nat.reduceLT, reduceIte, true_or, or_true, cmp_lt, cmp_gt, cmp_eq, wb_0, b_01, cmp_lt', cmp_gt', cmp_eq', b_0, b_1, wb_1, Int.reduceSub, Int.reduceToNat, List.getD_cons_succ, List.getD_cons_zero, Int.reduceLE, Int.reduceLT, Int.reduceEq, Int.reduceNeg, Int.reduceAdd, Int.reduceMul, and_self, em_b, ne_eq, not_false_eq_true, not_true_eq_false]
          try rfl
        · subst z2
          rw [z1] at c5 ⊢
          rw [e_73_7]
          simp (disch := omega) only [e_73_8, e_73_11, e_73_14, e_73_15, e_73_18, e_73_21, e_73_23, e_73_26, e_73_27, e_73_30, e_73_33, e_73_35, e_73_38, e_73_39, e_73_42, e_73_45, e_73_46, e_73_47, e_73_50, e_73_53, e_73_54, e_73_55, e_73_58, e_73_59, e_73_60, e_73_62, e_73_65, e_73_68, e_73_71, e_73_74, e_73_77, e_73_80, c5, a3, b6, d4, ek, true_and, tkO_c, tkO_g0, tkO_k0, tkO_g1, tkO_k1, tkO_g2, tkO_k2, tkO_g3, tkO_k3, tkO_g4, tkO_k4, tkO_g5, tkO_k5, tkO_g6, tkO_k6, tkO_g7, tkO_k7, tkO_g8, tkO_k8, tkO_s1, tkO_s2, tkO_s3, tkO_s4, tkO_s5, tkO_s6, tkO_s7, tkO_s8, rdO_c, rdO_g0, rdO_k0, rdO_g1, rdO_k1, rdO_g2, rdO_k2, rdO_g3, rdO_k3, rdO_g4, rdO_k4, rdO_g5, rdO_k5, rdO_g6, rdO_k6, rdO_g7, rdO_k7, rdO_g8, rdO_k8, rdO_g9, rdO_k9, rdO_g10, rdO_k10, rdO_g11, rdO_k11, rdO_g12, rdO_k12, rdO_g13, rdO_k13, rdO_g14, rdO_k14, rdO_g15, rdO_k15, rdO_g16, rdO_k16, rdO_g17, rdO_k17, rdO_s2, rdO_s3, rdO_s4, rdO_s10, rdO_s11, rdO_s12, rdO_s13, rdO_s14, rdO_s15, rdO_s16, rdO_s17, rh_1, rh_2, rh_g11, rh_g12, rh_g13, rh_g14, rh_g15, rh_g16, rh_g17, rh_g18, rh_g19, rh_out, rh_u11, rh_u12, rh_u13, rh_u14, rh_u15, rh_u16, rh_u17, rh_u18, rh_u19, iup_s, iup_n, aup_s, aup_n, ne_eq, not_false_eq_true, sh_0, sh_1, sh_2, sh_3, sh_4, sh_5, sh_8, sh_15, sh_16, sh_24, Int.reducePow, Int.cast_ofNat_Int, w_of, wl_of, ltT, ltF, leT, leF, eqT, eqF, okF_0, okF_s, gF_0, gF_s, consC_o, sF_0, sF_s, clsO_o, inA_i, ldA_i, stA_i, inJ_l, ldJ_l, stJ_l, inR_r, ldR_r, stR_r, tgR_r, lenA_i, lenA_l, lenA_r, lenA_ex, nl_i, nl_o, nl_l, nl_n, wd_n, wd_i, wd_l, wd_o, fit_i, fit_l, fit_o, K_v, K_n, true_and, and_true, Nat.reduceAdd, Nat.reduceLeDiff, Nat.reduceEqDiff, Nat.reduceMul, Nat.reduceLT, reduceIte, true_or, or_true, cmp_lt, cmp_gt, cmp_eq, wb_0, b_01, cmp_lt', cmp_gt', cmp_eq', b_0, b_1, wb_1, Int.reduceSub, Int.reduceToNat, List.getD_cons_succ, List.getD_cons_zero, Int.reduceLE, Int.reduceLT, Int.reduceEq, Int.reduceNeg, Int.reduceAdd, Int.reduceMul, and_self, em_b, ne_eq, not_false_eq_true, not_true_eq_false]
          try rfl
      · have hCq := hC q rfl
        obtain ⟨i1, a1, a2, a3⟩ := R_nx1 (h := h) (A := A) hX hT hnb hr
        obtain ⟨i2, A2, b1, b2, b3, b4, b5⟩ := rs2 h i1 A C m hX hT a1 (fun _ => hcd ⟨q, rfl⟩) (fun z e => by cases e; omega) (by rw [a2 15 (by decide)]; exact hi)
        obtain ⟨A3, d1, d2, d3⟩ := R_co (h := h) (l := l) (o := op) (v := op + 1990) (by rcases hop with z | z <;> subst z <;> rfl) b1 (fun z => ⟨b2 z, by
          obtain ⟨q2, e⟩ := z
          have := hp2 q2 e
          rw [List.length_append]; omega⟩)
        obtain ⟨i4, A4, f1, f2, f3, f4, f5⟩ := rs3 (some (vi (op + 1990))) h i2 A3 (C ++ L2 ++ [op]) m hX (tapM_fr hT (frF_t b4 d2)) b1 d1 (fun q2 e => by
          have := hp2 q2 e
          rw [List.length_append, List.length_append]; show C.length + L2.length + 1 ≤ q2; omega) (by rw [b3 15 (by decide), a2 15 (by decide)]; exact hi)
        refine ⟨i4, A4, f1, fun z => by rw [← List.append_assoc, ← List.append_assoc]; exact f2 z, frI_t a2 (frI_t b3 f3), frF_t b4 (frF_t d2 f4), fun d Q hd => ?_⟩
        obtain ⟨d', rfl⟩ : ∃ d', d = d' + 1 := ⟨d - 1, by omega⟩
        rw [← f5 (d' + 1) Q hd]
        have is1 := r_is (h := h) (A := A) (kd := 43) (by decide) hr
        have is2 := r_is (h := h) (A := A) (kd := 45) (by decide) hr
        rw [show rkK 43 = 32 from rfl] at is1
        rw [show rkK 45 = 33 from rfl] at is2
        have c9 : i 9 = rkK (tkK b n q) := hr.2.2.2.1
        rcases hop2 with ⟨z1, z2⟩ | ⟨z1, z2⟩
        · subst z2
          rw [if_pos (show isB b n (.inl q) 43 = true from decide_eq_true z1)] at is1
          rw [z1, show rkK 43 = 32 from rfl] at c9
          have e30 : (1010 : Int) + 1990 = 3000 := rfl
          rw [e30] at d3 ⊢
          rw [e_184_5]
          simp (disch := omega) only [e_184_6, e_184_8, e_184_11, e_184_14, e_184_15, e_184_17, e_184_20, e_184_23, e_184_24, e_184_27, e_184_29, e_184_32, e_184_35, e_184_38, e_184_41, e_184_42, e_184_43, e_184_46, e_184_47, e_184_48, e_184_51, e_184_52, e_184_53, e_184_56, is1, c9, a3, b5, d3, true_and, mdO_c, mdO_g0, mdO_k0, mdO_g1, mdO_k1, mdO_g2, mdO_k2, mdO_g3, mdO_k3, mdO_g4, mdO_k4, mdO_g5, mdO_k5, mdO_g6, mdO_k6, mdO_g7, mdO_k7, mdO_g8, mdO_k8, mdO_g9, mdO_k9, mdO_g10, mdO_k10, mdO_g11, mdO_k11, mdO_g12, mdO_k12, mdO_g13, mdO_k13, mdO_g14, mdO_k14, mdO_g15, mdO_k15, mdO_g16, mdO_k16, mdO_g17, mdO_k17, mdO_g18, mdO_k18, mdO_g19, mdO_k19, mdO_g20, mdO_k20, mdO_g21, mdO_k21, mdO_g22, mdO_k22, mdO_g23, mdO_k23, mdO_g24, mdO_k24, mdO_g25, mdO_k25, mdO_g26, mdO_k26, mdO_g27, mdO_k27, mdO_g28, mdO_k28, mdO_g29, mdO_k29, mdO_g30, mdO_k30, mdO_g31, mdO_k31, mdO_g32, mdO_k32, mdO_g33, mdO_k33, mdO_g34, mdO_k34, mdO_g35, mdO_k35, mdO_s0, mdO_s5, mdO_s6, mdO_s7, mdO_s8, mdO_s9, mdO_s10, mdO_s11, mdO_s12, mdO_s13, mdO_s14, mdO_s15, mdO_s19, mdO_s20, mdO_s25, mdO_s26, mdO_s31, mdO_s32, md_1, md_2, md_g71, md_g72, md_g73, md_g74, md_g75, md_g76, md_g77, md_g78, md_g79, md_g80, md_g81, md_g82, md_g83, md_g84, md_g85, md_g86, md_g87, md_g88, md_g89, md_out, md_u71, md_u72, md_u73, md_u74, md_u75, md_u76, md_u77, md_u78, md_u79, md_u80, md_u81, md_u82, md_u83, md_u84, md_u85, md_u86, md_u87, md_u88, md_u89, md_uo, iup_s, iup_n, aup_s, aup_n, ne_eq, not_false_eq_true, sh_0, sh_1, sh_2, sh_3, sh_4, sh_5, sh_8, sh_15, sh_16, sh_24, Int.reducePow, Int.cast_ofNat_Int, w_of, wl_of, ltT, ltF, leT, leF, eqT, eqF, okF_0, okF_s, gF_0, gF_s, consC_o, sF_0, sF_s, clsO_o, inA_i, ldA_i, stA_i, inJ_l, ldJ_l, stJ_l, inR_r, ldR_r, stR_r, tgR_r, lenA_i, lenA_l, lenA_r, lenA_ex, nl_i, nl_o, nl_l, nl_n, wd_n, wd_i, wd_l, wd_o, fit_i, fit_l, fit_o, K_v, K_n, true_and, and_true, Nat.reduceAdd, Nat.reduceLeDiff, Nat.reduceEqDiff, Nat.reduceMul, Nat.reduceLT, reduceIte, true_or, or_true, cmp_lt, cmp_gt, cmp_eq, wb_0, b_01, cmp_lt', cmp_gt', cmp_eq', b_0, b_1, wb_1, Int.reduceSub, Int.reduceToNat, List.getD_cons_succ, List.getD_cons_zero, Int.reduceLE, Int.reduceLT, Int.reduceEq, Int.reduceNeg, Int.reduceAdd, Int.reduceMul, and_self, em_b, ne_eq, not_false_eq_true, not_true_eq_false]
          try rfl
        · subst z2
          rw [if_neg (show ¬ isB b n (.inl q) 43 = true from fun w => by have := of_decide_eq_true w; omega)] at is1
          rw [if_pos (show isB b n (.inl q) 45 = true from decide_eq_true z1)] at is2
          rw [z1, show rkK 45 = 33 from rfl] at c9
          have e30 : (1011 : Int) + 1990 = 3001 := rfl
          rw [e30] at d3 ⊢
          rw [e_184_5]
          simp (disch := omega) only [e_184_6, e_184_8, e_184_11, e_184_14, e_184_15, e_184_17, e_184_20, e_184_23, e_184_24, e_184_27, e_184_29, e_184_32, e_184_35, e_184_38, e_184_41, e_184_42, e_184_43, e_184_46, e_184_47, e_184_48, e_184_51, e_184_52, e_184_53, e_184_56, is1, is2, c9, a3, b5, d3, true_and, mdO_c, mdO_g0, mdO_k0, mdO_g1, mdO_k1, mdO_g2, mdO_k2, mdO_g3, mdO_k3, mdO_g4, mdO_k4, mdO_g5, mdO_k5, mdO_g6, mdO_k6, mdO_g7, mdO_k7, mdO_g8, mdO_k8, mdO_g9, mdO_k9, mdO_g10, mdO_k10, mdO_g11, mdO_k11, mdO_g12, mdO_k12, mdO_g13, mdO_k13, mdO_g14, mdO_k14, mdO_g15, mdO_k15, mdO_g16, mdO_k16, mdO_g17, mdO_k17, mdO_g18, mdO_k18, mdO_g19, mdO_k19, mdO_g20, mdO_k20, mdO_g21, mdO_k21, mdO_g22, mdO_k22, mdO_g23, mdO_k23, mdO_g24, mdO_k24, mdO_g25, mdO_k25, mdO_g26, mdO_k26, mdO_g27, mdO_k27, mdO_g28, mdO_k28, mdO_g29, mdO_k29, mdO_g30, mdO_k30, mdO_g31, mdO_k31, mdO_g32, mdO_k32, mdO_g33, mdO_k33, mdO_g34, mdO_k34, mdO_g35, mdO_k35, mdO_s0, mdO_s5, mdO_s6, mdO_s7, mdO_s8, mdO_s9, mdO_s10, mdO_s11, mdO_s12, mdO_s13, mdO_s14, mdO_s15, mdO_s19, mdO_s20, mdO_s25, mdO_s26, mdO_s31, mdO_s32, md_1, md_2, md_g71, md_g72, md_g73, md_g74, md_g75, md_g76, md_g77, md_g78, md_g79, md_g80, md_g81, md_g82, md_g83, md_g84, md_g85, md_g86, md_g87, md_g88, md_g89, md_out, md_u71, md_u72, md_u73, md_u74, md_u75, md_u76, md_u77, md_u78, md_u79, md_u80, md_u81, md_u82, md_u83, md_u84, md_u85, md_u86, md_u87, md_u88, md_u89, md_uo, iup_s, iup_n, aup_s, aup_n, ne_eq, not_false_eq_true, sh_0, sh_1, sh_2, sh_3, sh_4, sh_5, sh_8, sh_15, sh_16, sh_24, Int.reducePow, Int.cast_ofNat_Int, w_of, wl_of, ltT, ltF, leT, leF, eqT, eqF, okF_0, okF_s, gF_0, gF_s, consC_o, sF_0, sF_s, clsO_o, inA_i, ldA_i, stA_i, inJ_l, ldJ_l, stJ_l, inR_r, ldR_r, stR_r, tgR_r, lenA_i, lenA_l, lenA_r, lenA_ex, nl_i, nl_o, nl_l, nl_n, wd_n, wd_i, wd_l, wd_o, fit_i, fit_l, fit_o, K_v, K_n, true_and, and_true, Nat.reduceAdd, Nat.reduceLeDiff, Nat.reduceEqDiff, Nat.reduceMul, Nat.reduceLT, reduceIte, true_or, or_true, cmp_lt, cmp_gt, cmp_eq, wb_0, b_01, cmp_lt', cmp_gt', cmp_eq', b_0, b_1, wb_1, Int.reduceSub, Int.reduceToNat, List.getD_cons_succ, List.getD_cons_zero, Int.reduceLE, Int.reduceLT, Int.reduceEq, Int.reduceNeg, Int.reduceAdd, Int.reduceMul, and_self, em_b, ne_eq, not_false_eq_true, not_true_eq_false]
          try rfl
    · exact ex_sum hF hG hq (fun z => hB (Or.inl z)) (fun z => hB (Or.inr z))
theorem J_sum {FS GS K : Nat} {W : List Int → Prop} (hnb : n ≤ b.length) (hb9 : b.length ≤ 900) (hF : 8 ≤ FS) (hG : 8 ≤ GS) (hsub : ∀ s, okq n s → JN b n l 74 [none] FS 183 [] GS W deep s) (hW : ∀ L o, W L → (o = 1010 ∨ o = 1011) → wfL K false (L ++ [o])) (hW2 : ∀ L, W L → wfS K false L) : ∀ s, okq n s → JN b n l 73 [none, none] (FS + 1) 184 [none] (GS + 1) (wfS K false) deep s := by
  intro s hq
  obtain ⟨s1, L1, p1, w1, cs1, rs1⟩ := hsub s hq
  obtain ⟨s2, L2, p2, w2, cs2, rs2⟩ := lp_sum hnb hb9 hF hG hsub hW (n + 1) s1 (prg_ok p1) (fun q _ => by omega)
  refine ⟨s2, L1 ++ L2, prg_t p1 p2, fun z => ?_, fun h i j A C hX hT hc hcd hC hj => ?_, fun h i A C m hX hT hr hcd hC hi => ?_⟩
  · obtain ⟨q2, e2⟩ := z
    obtain ⟨q1, e1, -⟩ := p2.1 q2 e2
    exact wf_sl (hW2 L1 (w1 ⟨q1, e1⟩)) (w2 ⟨q2, e2⟩)
  · obtain ⟨i2, j2, A2, b1, b2, b3, b4, b5, b6⟩ := cs1 h i j A C hX hT hc hcd hC hj
    obtain ⟨i4, j4, A4, f1, f2, f3, f4, f5, f6⟩ := cs2 0 none (by omega) (fun q _ => Nat.zero_le _) h i2 j2 A2 (C ++ L1) hX (tapC_fr hT b5) b1 b2 (prg_C p1 hC) (by rw [b4 17 (by decide)]; exact hj)
    refine ⟨i4, j4, A4, f1, by rw [← List.append_assoc]; exact f2, frI_t b3 f3, frI_t b4 f4, frA_t b5 f5, fun d Q hd => ?_⟩
    obtain ⟨d', rfl⟩ : ∃ d', d = d' + 1 := ⟨d - 1, by omega⟩
    have f6' := f6 (d' + 1) Q hd
    rw [nc0] at f6'
    rw [← f6']
    simp (disch := omega) only [e_73_0, e_73_1, e_73_2, e_73_5, e_73_6, b6, true_and, tkO_c, tkO_g0, tkO_k0, tkO_g1, tkO_k1, tkO_g2, tkO_k2, tkO_g3, tkO_k3, tkO_g4, tkO_k4, tkO_g5, tkO_k5, tkO_g6, tkO_k6, tkO_g7, tkO_k7, tkO_g8, tkO_k8, tkO_s1, tkO_s2, tkO_s3, tkO_s4, tkO_s5, tkO_s6, tkO_s7, tkO_s8, rdO_c, rdO_g0, rdO_k0, rdO_g1, rdO_k1, rdO_g2, rdO_k2, rdO_g3, rdO_k3, rdO_g4, rdO_k4, rdO_g5, rdO_k5, rdO_g6, rdO_k6, rdO_g7, rdO_k7, rdO_g8, rdO_k8, rdO_g9, rdO_k9, rdO_g10, rdO_k10, rdO_g11, rdO_k11, rdO_g12, rdO_k12, rdO_g13, rdO_k13, rdO_g14, rdO_k14, rdO_g15, rdO_k15, rdO_g16, rdO_k16, rdO_g17, rdO_k17, rdO_s2, rdO_s3, rdO_s4, rdO_s10, rdO_s11, rdO_s12, rdO_s13, rdO_s14, rdO_s15, rdO_s16, rdO_s17, rh_1, rh_2, rh_g11, rh_g12, rh_g13, rh_g14, rh_g15, rh_g16, rh_g17, rh_g18, rh_g19, rh_out, rh_u11, rh_u12, rh_u13, rh_u14, rh_u15, rh_u16, rh_u17, rh_u18, rh_u19, iup_s, iup_n, aup_s, aup_n, ne_eq, not_false_eq_true, sh_0, sh_1, sh_2, sh_3, sh_4, sh_5, sh_8, sh_15, sh_16, sh_24, Int.reducePow, Int.cast_ofNat_Int, w_of, wl_of, ltT, ltF, leT, leF, eqT, eqF, okF_0, okF_s, gF_0, gF_s, consC_o, sF_0, sF_s, clsO_o, inA_i, ldA_i, stA_i, inJ_l, ldJ_l, stJ_l, inR_r, ldR_r, stR_r, tgR_r, lenA_i, lenA_l, lenA_r, lenA_ex, nl_i, nl_o, nl_l, nl_n, wd_n, wd_i, wd_l, wd_o, fit_i, fit_l, fit_o, K_v, K_n, true_and, and_true, Nat.reduceAdd, Nat.reduceLeDiff, Nat.reduceEqDiff, Nat.reduceMul, Nat.reduceLT, reduceIte, true_or, or_true, cmp_lt, cmp_gt, cmp_eq, wb_0, b_01, cmp_lt', cmp_gt', cmp_eq', b_0, b_1, wb_1, Int.reduceSub, Int.reduceToNat, List.getD_cons_succ, List.getD_cons_zero, Int.reduceLE, Int.reduceLT, Int.reduceEq, Int.reduceNeg, Int.reduceAdd, Int.reduceMul, and_self, em_b, ne_eq, not_false_eq_true, not_true_eq_false]
    try rfl
  · obtain ⟨i2, A2, b1, b2, b3, b4, b5⟩ := rs1 h i A C m hX hT hr hcd hC hi
    obtain ⟨i4, A4, f1, f2, f3, f4, f5⟩ := rs2 none h i2 A2 (C ++ L1) m hX (tapM_fr hT b4) b1 b2 (prg_C p1 hC) (by rw [b3 15 (by decide)]; exact hi)
    refine ⟨i4, A4, f1, fun z => by rw [← List.append_assoc]; exact f2 z, frI_t b3 f3, frF_t b4 f4, fun d Q hd => ?_⟩
    obtain ⟨d', rfl⟩ : ∃ d', d = d' + 1 := ⟨d - 1, by omega⟩
    rw [← f5 (d' + 1) Q hd]
    simp (disch := omega) only [e_184_0, e_184_1, e_184_2, b5, true_and, mdO_c, mdO_g0, mdO_k0, mdO_g1, mdO_k1, mdO_g2, mdO_k2, mdO_g3, mdO_k3, mdO_g4, mdO_k4, mdO_g5, mdO_k5, mdO_g6, mdO_k6, mdO_g7, mdO_k7, mdO_g8, mdO_k8, mdO_g9, mdO_k9, mdO_g10, mdO_k10, mdO_g11, mdO_k11, mdO_g12, mdO_k12, mdO_g13, mdO_k13, mdO_g14, mdO_k14, mdO_g15, mdO_k15, mdO_g16, mdO_k16, mdO_g17, mdO_k17, mdO_g18, mdO_k18, mdO_g19, mdO_k19, mdO_g20, mdO_k20, mdO_g21, mdO_k21, mdO_g22, mdO_k22, mdO_g23, mdO_k23, mdO_g24, mdO_k24, mdO_g25, mdO_k25, mdO_g26, mdO_k26, mdO_g27, mdO_k27, mdO_g28, mdO_k28, mdO_g29, mdO_k29, mdO_g30, mdO_k30, mdO_g31, mdO_k31, mdO_g32, mdO_k32, mdO_g33, mdO_k33, mdO_g34, mdO_k34, mdO_g35, mdO_k35, mdO_s0, mdO_s5, mdO_s6, mdO_s7, mdO_s8, mdO_s9, mdO_s10, mdO_s11, mdO_s12, mdO_s13, mdO_s14, mdO_s15, mdO_s19, mdO_s20, mdO_s25, mdO_s26, mdO_s31, mdO_s32, md_1, md_2, md_g71, md_g72, md_g73, md_g74, md_g75, md_g76, md_g77, md_g78, md_g79, md_g80, md_g81, md_g82, md_g83, md_g84, md_g85, md_g86, md_g87, md_g88, md_g89, md_out, md_u71, md_u72, md_u73, md_u74, md_u75, md_u76, md_u77, md_u78, md_u79, md_u80, md_u81, md_u82, md_u83, md_u84, md_u85, md_u86, md_u87, md_u88, md_u89, md_uo, iup_s, iup_n, aup_s, aup_n, ne_eq, not_false_eq_true, sh_0, sh_1, sh_2, sh_3, sh_4, sh_5, sh_8, sh_15, sh_16, sh_24, Int.reducePow, Int.cast_ofNat_Int, w_of, wl_of, ltT, ltF, leT, leF, eqT, eqF, okF_0, okF_s, gF_0, gF_s, consC_o, sF_0, sF_s, clsO_o, inA_i, ldA_i, stA_i, inJ_l, ldJ_l, stJ_l, inR_r, ldR_r, stR_r, tgR_r, lenA_i, lenA_l, lenA_r, lenA_ex, nl_i, nl_o, nl_l, nl_n, wd_n, wd_i, wd_l, wd_o, fit_i, fit_l, fit_o, K_v, K_n, true_and, and_true, Nat.reduceAdd, Nat.reduceLeDiff, Nat.reduceEqDiff, Nat.reduceMul, Nat.reduceLT, reduceIte, true_or, or_true, cmp_lt, cmp_gt, cmp_eq, wb_0, b_01, cmp_lt', cmp_gt', cmp_eq', b_0, b_1, wb_1, Int.reduceSub, Int.reduceToNat, List.getD_cons_succ, List.getD_cons_zero, Int.reduceLE, Int.reduceLT, Int.reduceEq, Int.reduceNeg, Int.reduceAdd, Int.reduceMul, and_self, em_b, ne_eq, not_false_eq_true, not_true_eq_false]
    try rfl
end jl
