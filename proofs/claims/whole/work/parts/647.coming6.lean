/-! THE CLASS: Coming, its calls -/
theorem c_notSame {ow : Nat → Nat} {h : PH} {ca : Nat} {c : KC} {sky e : Nat} {s : ST} {i : Nat → Int} {cca q g n m : Nat} {fq fg : Int → Int} (hH : HoP ow h ca c sky e) (hs : okS c s) (hC : comH h i cca q g n fq fg) (hm : i 5 = (m : Int)) (hmn : m ≤ 24000) (hcc : 10 ≤ cca) (hi1 : -2147483648 ≤ i 1 ∧ i 1 < 2147483648) (hi2 : -2147483648 ≤ i 2 ∧ i 2 < 2147483648) (hno : ¬ (cca = ca ∧ i 1 = (sky : Int) ∧ i 2 = (encC c s : Int) ∧ 0 < m)) :
    ∀ d Q, WP d 10 0 [some (vr 38), some (vr 27), some (vi (encC c s)), none] [] h Q = WP d 10 40 [some (vr 38), some (vr 27), some (vi (encC c s)), some (vi 0)] [] h Q := by
  obtain ⟨ih, A, a1, a2, a3, a4, a5, a6, a7, a8, hKC⟩ := hH
  have h1 := a8.1
  have hsky := a8.2.2.2.2.1
  have hsl := encC_lt hKC.2.1.1 hs
  have h24 := szC_le hKC.2.1.1
  have hcn := hKC.2.2.2.1
  obtain ⟨hi1a, hi1b⟩ := hi1
  obtain ⟨hi2a, hi2b⟩ := hi2
  obtain ⟨c1, c2, c3⟩ := hC
  intro d Q
  by_cases n1 : cca = ca
  · by_cases n2 : i 1 = (sky : Int)
    · by_cases n3 : i 2 = (encC c s : Int)
      · have n4 : m = 0 := by
          by_cases z : m = 0
          · exact z
          · exact absurd ⟨n1, n2, n3, by omega⟩ hno
        subst n4
        subst n1
        simp (disch := omega) only [e_10_0, e_10_1, e_10_4, e_10_5, e_10_8, e_10_11, e_10_12, e_10_15, e_10_16, e_10_19, e_10_22, e_10_23, e_10_26, e_10_27, e_10_30, e_10_31, e_10_34, e_10_37, e_10_38, e_10_39, c1, a1, h1, n2, n3, hm, nc0, okR_s, hcc, true_and, cmO_c, cmO_g0, cmO_k0, cmO_g1, cmO_k1, cmO_g2, cmO_k2, cmO_g3, cmO_k3, cmO_g4, cmO_k4, cmO_g5, cmO_k5, cmO_g6, cmO_k6, cmO_s0, cmO_s1, cmO_s2, cmO_s3, cmO_s4, cmO_s5, cmO_s6, hoO_c, hoO_g0, hoO_k0, hoO_g1, hoO_k1, hoO_g2, hoO_k2, hoO_g3, hoO_k3, hoO_g4, hoO_k4, hoO_g5, hoO_k5, hoO_g6, hoO_k6, hoO_g7, hoO_k7, hoO_g8, hoO_k8, hoO_g9, hoO_k9, hoO_s0, hoO_s1, hoO_s2, hoO_s9, iup_s, iup_n, hp_up1, hp_upn, ne_eq, not_false_eq_true, sh_0, sh_1, sh_2, sh_3, sh_4, sh_5, sh_8, sh_15, sh_16, sh_24, Int.reducePow, Int.cast_ofNat_Int, w_of, wl_of, ltT, ltF, leT, leF, eqT, eqF, okF_0, okF_s, gF_0, gF_s, consC_o, sF_0, sF_s, clsO_o, inA_i, ldA_i, stA_i, inJ_l, ldJ_l, stJ_l, inR_r, ldR_r, stR_r, tgR_r, lenA_i, lenA_l, lenA_r, lenA_ex, nl_i, nl_o, nl_l, nl_n, wd_n, wd_i, wd_l, wd_o, fit_i, fit_l, fit_o, K_v, K_n, true_and, and_true, Nat.reduceAdd, Nat.reduceLeDiff, Nat.reduceEqDiff, Nat.reduceMul, Nat.reduceLT, reduceIte, true_or, or_true, cmp_lt, cmp_gt, cmp_eq, wb_0, b_01, cmp_lt', cmp_gt', cmp_eq', b_0, b_1, wb_1, Int.reduceSub, Int.reduceToNat, List.getD_cons_succ, List.getD_cons_zero, Int.reduceLE, Int.reduceLT, Int.reduceEq, Int.reduceNeg, Int.reduceAdd, Int.reduceMul, and_self, em_b, ne_eq, not_false_eq_true, not_true_eq_false]
        try rfl
      · subst n1
        simp (disch := omega) only [e_10_0, e_10_1, e_10_4, e_10_5, e_10_8, e_10_11, e_10_12, e_10_15, e_10_16, e_10_19, e_10_22, e_10_23, e_10_26, e_10_27, e_10_30, e_10_31, e_10_34, e_10_37, e_10_38, e_10_39, c1, a1, h1, n2, n3, hm, okR_s, hcc, true_and, cmO_c, cmO_g0, cmO_k0, cmO_g1, cmO_k1, cmO_g2, cmO_k2, cmO_g3, cmO_k3, cmO_g4, cmO_k4, cmO_g5, cmO_k5, cmO_g6, cmO_k6, cmO_s0, cmO_s1, cmO_s2, cmO_s3, cmO_s4, cmO_s5, cmO_s6, hoO_c, hoO_g0, hoO_k0, hoO_g1, hoO_k1, hoO_g2, hoO_k2, hoO_g3, hoO_k3, hoO_g4, hoO_k4, hoO_g5, hoO_k5, hoO_g6, hoO_k6, hoO_g7, hoO_k7, hoO_g8, hoO_k8, hoO_g9, hoO_k9, hoO_s0, hoO_s1, hoO_s2, hoO_s9, iup_s, iup_n, hp_up1, hp_upn, ne_eq, not_false_eq_true, sh_0, sh_1, sh_2, sh_3, sh_4, sh_5, sh_8, sh_15, sh_16, sh_24, Int.reducePow, Int.cast_ofNat_Int, w_of, wl_of, ltT, ltF, leT, leF, eqT, eqF, okF_0, okF_s, gF_0, gF_s, consC_o, sF_0, sF_s, clsO_o, inA_i, ldA_i, stA_i, inJ_l, ldJ_l, stJ_l, inR_r, ldR_r, stR_r, tgR_r, lenA_i, lenA_l, lenA_r, lenA_ex, nl_i, nl_o, nl_l, nl_n, wd_n, wd_i, wd_l, wd_o, fit_i, fit_l, fit_o, K_v, K_n, true_and, and_true, Nat.reduceAdd, Nat.reduceLeDiff, Nat.reduceEqDiff, Nat.reduceMul, Nat.reduceLT, reduceIte, true_or, or_true, cmp_lt, cmp_gt, cmp_eq, wb_0, b_01, cmp_lt', cmp_gt', cmp_eq', b_0, b_1, wb_1, Int.reduceSub, Int.reduceToNat, List.getD_cons_succ, List.getD_cons_zero, Int.reduceLE, Int.reduceLT, Int.reduceEq, Int.reduceNeg, Int.reduceAdd, Int.reduceMul, and_self, em_b, ne_eq, not_false_eq_true, not_true_eq_false]
        try rfl
    · subst n1
      simp (disch := omega) only [e_10_0, e_10_1, e_10_4, e_10_5, e_10_8, e_10_11, e_10_12, e_10_15, e_10_16, e_10_19, e_10_22, e_10_23, e_10_26, e_10_27, e_10_30, e_10_31, e_10_34, e_10_37, e_10_38, e_10_39, c1, a1, h1, n2, hm, okR_s, hcc, true_and, cmO_c, cmO_g0, cmO_k0, cmO_g1, cmO_k1, cmO_g2, cmO_k2, cmO_g3, cmO_k3, cmO_g4, cmO_k4, cmO_g5, cmO_k5, cmO_g6, cmO_k6, cmO_s0, cmO_s1, cmO_s2, cmO_s3, cmO_s4, cmO_s5, cmO_s6, hoO_c, hoO_g0, hoO_k0, hoO_g1, hoO_k1, hoO_g2, hoO_k2, hoO_g3, hoO_k3, hoO_g4, hoO_k4, hoO_g5, hoO_k5, hoO_g6, hoO_k6, hoO_g7, hoO_k7, hoO_g8, hoO_k8, hoO_g9, hoO_k9, hoO_s0, hoO_s1, hoO_s2, hoO_s9, iup_s, iup_n, hp_up1, hp_upn, ne_eq, not_false_eq_true, sh_0, sh_1, sh_2, sh_3, sh_4, sh_5, sh_8, sh_15, sh_16, sh_24, Int.reducePow, Int.cast_ofNat_Int, w_of, wl_of, ltT, ltF, leT, leF, eqT, eqF, okF_0, okF_s, gF_0, gF_s, consC_o, sF_0, sF_s, clsO_o, inA_i, ldA_i, stA_i, inJ_l, ldJ_l, stJ_l, inR_r, ldR_r, stR_r, tgR_r, lenA_i, lenA_l, lenA_r, lenA_ex, nl_i, nl_o, nl_l, nl_n, wd_n, wd_i, wd_l, wd_o, fit_i, fit_l, fit_o, K_v, K_n, true_and, and_true, Nat.reduceAdd, Nat.reduceLeDiff, Nat.reduceEqDiff, Nat.reduceMul, Nat.reduceLT, reduceIte, true_or, or_true, cmp_lt, cmp_gt, cmp_eq, wb_0, b_01, cmp_lt', cmp_gt', cmp_eq', b_0, b_1, wb_1, Int.reduceSub, Int.reduceToNat, List.getD_cons_succ, List.getD_cons_zero, Int.reduceLE, Int.reduceLT, Int.reduceEq, Int.reduceNeg, Int.reduceAdd, Int.reduceMul, and_self, em_b, ne_eq, not_false_eq_true, not_true_eq_false]
      try rfl
  · simp (disch := omega) only [e_10_0, e_10_1, e_10_4, e_10_5, e_10_8, e_10_11, e_10_12, e_10_15, e_10_16, e_10_19, e_10_22, e_10_23, e_10_26, e_10_27, e_10_30, e_10_31, e_10_34, e_10_37, e_10_38, e_10_39, c1, a1, h1, n1, hm, okR_s, hcc, hcn, true_and, and_true, Option.some.injEq, cmO_c, cmO_g0, cmO_k0, cmO_g1, cmO_k1, cmO_g2, cmO_k2, cmO_g3, cmO_k3, cmO_g4, cmO_k4, cmO_g5, cmO_k5, cmO_g6, cmO_k6, cmO_s0, cmO_s1, cmO_s2, cmO_s3, cmO_s4, cmO_s5, cmO_s6, hoO_c, hoO_g0, hoO_k0, hoO_g1, hoO_k1, hoO_g2, hoO_k2, hoO_g3, hoO_k3, hoO_g4, hoO_k4, hoO_g5, hoO_k5, hoO_g6, hoO_k6, hoO_g7, hoO_k7, hoO_g8, hoO_k8, hoO_g9, hoO_k9, hoO_s0, hoO_s1, hoO_s2, hoO_s9, iup_s, iup_n, hp_up1, hp_upn, ne_eq, not_false_eq_true, sh_0, sh_1, sh_2, sh_3, sh_4, sh_5, sh_8, sh_15, sh_16, sh_24, Int.reducePow, Int.cast_ofNat_Int, w_of, wl_of, ltT, ltF, leT, leF, eqT, eqF, okF_0, okF_s, gF_0, gF_s, consC_o, sF_0, sF_s, clsO_o, inA_i, ldA_i, stA_i, inJ_l, ldJ_l, stJ_l, inR_r, ldR_r, stR_r, tgR_r, lenA_i, lenA_l, lenA_r, lenA_ex, nl_i, nl_o, nl_l, nl_n, wd_n, wd_i, wd_l, wd_o, fit_i, fit_l, fit_o, K_v, K_n, true_and, and_true, Nat.reduceAdd, Nat.reduceLeDiff, Nat.reduceEqDiff, Nat.reduceMul, Nat.reduceLT, reduceIte, true_or, or_true, cmp_lt, cmp_gt, cmp_eq, wb_0, b_01, cmp_lt', cmp_gt', cmp_eq', b_0, b_1, wb_1, Int.reduceSub, Int.reduceToNat, List.getD_cons_succ, List.getD_cons_zero, Int.reduceLE, Int.reduceLT, Int.reduceEq, Int.reduceNeg, Int.reduceAdd, Int.reduceMul, and_self, em_b, ne_eq, not_false_eq_true, not_true_eq_false]
    try rfl
theorem C_start {kc : Nat → KC} {ow : Nat → Nat} {h : PH} {ca : Nat} {c : KC} {sky e n : Nat} {s : ST} (hF : owF ow h) (hH : HoP ow h ca c sky e) (hkc : kc ca = c) (hP : ComP kc ow h n) (hs : okS c s) :
    ∃ (h' : PH) (ow' : Nat → Nat) (n' : Nat) (QL : List QE) (sr : Nat), extO ow h ow' h' [3] ∧ (∀ k, h.1 ≤ k → k < h'.1 → ow' k = 3) ∧ ((n' = n ∧ h'.1 = h.1 ∧ h'.2.1 = h.2.1) ∨ (n < n' ∧ n' = szC c ∧ h'.1 = h.1 + 2 ∧ h'.2.1 = h.2.1 + szC c + szC c)) ∧ HoP ow' h' ca c sky e ∧ ComV ow' h' ca c sky s QL sr n' ∧ ∀ d Q, WP d 10 0 [some (vr 38), some (vr 27), some (vi (encC c s)), none] [] h Q = Q none h' := by
  obtain ⟨i, cca, q, g, fq, fg, m, p1, p2, p3, p4, p5, p6, p7, p8, p9, p10⟩ := hP
  have hn24 : n ≤ 24000 := p2.2.2.2.2.2.2.2
  by_cases hsame : cca = ca ∧ i 1 = (sky : Int) ∧ i 2 = (encC c s : Int) ∧ 0 < m
  · obtain ⟨s1, s2, s3, s4⟩ := hsame
    obtain ⟨sky', s0, QL, sr, g1, g2, g3, g4, g5, g6⟩ := p7 s4
    subst s1
    rw [hkc] at g1 g2 g3 g6
    have hKC := hH
    obtain ⟨ih, A, a1, a2, a3, a4, a5, a6, a7, a8, hKC⟩ := hKC
    have hK := hKC.2.1.1
    have es : sky' = sky := by rw [s2] at g5; omega
    have e0 : s0 = s := encC_inj hK (g3.2.1 _ (List.mem_of_getElem? g3.1)) hs (by rw [s3] at g6; omega)
    subst es
    subst e0
    have h1 := a8.1
    refine ⟨h, ow, n, QL, sr, ext_r, fun k k1 k2 => by omega, Or.inl ⟨rfl, rfl, rfl⟩, hH, ⟨i, q, g, fq, fg, p1, p2, g1, g2, g3, g4, s2, s3⟩, fun d Q => ?_⟩
    obtain ⟨c1, c2, c3⟩ := p1
    have hm24 : m ≤ 24000 := by omega
    simp (disch := omega) only [e_10_0, e_10_1, e_10_4, e_10_5, e_10_8, e_10_11, e_10_12, e_10_15, e_10_16, e_10_19, e_10_22, e_10_23, e_10_26, e_10_27, e_10_30, e_10_31, e_10_34, e_10_37, c1, a1, h1, s2, s3, p3, okR_s, p8, true_and, cmO_c, cmO_g0, cmO_k0, cmO_g1, cmO_k1, cmO_g2, cmO_k2, cmO_g3, cmO_k3, cmO_g4, cmO_k4, cmO_g5, cmO_k5, cmO_g6, cmO_k6, cmO_s0, cmO_s1, cmO_s2, cmO_s3, cmO_s4, cmO_s5, cmO_s6, hoO_c, hoO_g0, hoO_k0, hoO_g1, hoO_k1, hoO_g2, hoO_k2, hoO_g3, hoO_k3, hoO_g4, hoO_k4, hoO_g5, hoO_k5, hoO_g6, hoO_k6, hoO_g7, hoO_k7, hoO_g8, hoO_k8, hoO_g9, hoO_k9, hoO_s0, hoO_s1, hoO_s2, hoO_s9, iup_s, iup_n, hp_up1, hp_upn, ne_eq, not_false_eq_true, sh_0, sh_1, sh_2, sh_3, sh_4, sh_5, sh_8, sh_15, sh_16, sh_24, Int.reducePow, Int.cast_ofNat_Int, w_of, wl_of, ltT, ltF, leT, leF, eqT, eqF, okF_0, okF_s, gF_0, gF_s, consC_o, sF_0, sF_s, clsO_o, inA_i, ldA_i, stA_i, inJ_l, ldJ_l, stJ_l, inR_r, ldR_r, stR_r, tgR_r, lenA_i, lenA_l, lenA_r, lenA_ex, nl_i, nl_o, nl_l, nl_n, wd_n, wd_i, wd_l, wd_o, fit_i, fit_l, fit_o, K_v, K_n, true_and, and_true, Nat.reduceAdd, Nat.reduceLeDiff, Nat.reduceEqDiff, Nat.reduceMul, Nat.reduceLT, reduceIte, true_or, or_true, cmp_lt, cmp_gt, cmp_eq, wb_0, b_01, cmp_lt', cmp_gt', cmp_eq', b_0, b_1, wb_1, Int.reduceSub, Int.reduceToNat, List.getD_cons_succ, List.getD_cons_zero, Int.reduceLE, Int.reduceLT, Int.reduceEq, Int.reduceNeg, Int.reduceAdd, Int.reduceMul, and_self, em_b, ne_eq, not_false_eq_true, not_true_eq_false]
    try rfl
  · obtain ⟨h1, fg1, b1, b2, b3, b4⟩ := c_clrLp (ow := ow) (y := (encC c s : Int)) p3 p4 p5 m 0 h fg (by omega) hF p1 p2 (fun k => by
      rcases p6 k with z | ⟨j, j1, j2⟩
      · exact Or.inl z
      · exact Or.inr ⟨j, Nat.zero_le _, j1, j2⟩)
    have ns := c_notSame hH hs p1 p3 (by omega) p8 p9 p10 hsame
    have hF1 := chg_F b1 hF
    have hH1 := HoP_c hF b1 (by decide) (by decide) hH
    have e1 := b1.1
    have e2 := b1.2.1
    have hW1 : comW ow h1 q g n := ⟨p2.1, p2.2.1, p2.2.2.1, p2.2.2.2.1, p2.2.2.2.2.1, by rw [e1]; exact p2.2.2.2.2.2.1, by rw [e1]; exact p2.2.2.2.2.2.2.1, p2.2.2.2.2.2.2.2⟩
    by_cases hn : szC c ≤ n
    · obtain ⟨h', d1, d2, d3⟩ := c_tail1 (m := m) hF1 hH1 hs hn b2 hW1 b3
      refine ⟨h', ow, n, _, 0, ext_t (ext_c b1) (ext_c d1), fun k k1 k2 => by rw [d1.1, e1] at k2; omega, Or.inl ⟨rfl, by rw [d1.1, e1], by rw [d1.2.1, e2]⟩, HoP_c hF1 d1 (by decide) (by decide) hH1, d2, fun d Q => ?_⟩
      have := b4 d Q
      rw [nc0] at this
      rw [ns d Q, this, d3 d Q]
    · obtain ⟨h', d1, d2, d3, d4, d5⟩ := c_tail2 (m := m) hF1 hH1 hs hn b2 hW1
      refine ⟨h', _, szC c, _, 0, ext_t (ext_c b1) d3, fun k k1 k2 => if_neg (by omega), Or.inr ⟨by omega, rfl, by rw [d1, e1], by rw [d2, e2]⟩, HoP_e hF1 d3 (by decide) (by decide) hH1, d4, fun d Q => ?_⟩
      have := b4 d Q
      rw [nc0] at this
      rw [ns d Q, this, d5 d Q]
theorem C_find0 {ow : Nat → Nat} {h : PH} {ca : Nat} {c : KC} {sky e sr : Nat} {s0 : ST} {n k : Nat} {p : Int} {QL : List QE} (hk : k < 5) (hp1 : -1 ≤ p) (hp2 : p < 5) (hF : owF ow h) (hH : HoP ow h ca c sky e) (hV : ComV ow h ca c sky s0 QL sr n) :
    ∃ (h' : PH) (QL' : List QE) (sr' : Nat) (v : Int), chg ow [1, 3] h h' ∧ HoP ow h' ca c sky e ∧ ComV ow h' ca c sky s0 QL' sr' n ∧ findR c sky (goalP c k p) s0 QL' v ∧ ∀ d Q, WP (d + 10) 12 0 [some (vr 38), some (vr 27), some (vi k), some (vi p), none, none] [] h Q = Q (some (vi v)) h' := by
  obtain ⟨hO⟩ : Nonempty (okC c) := by obtain ⟨_, _, _, _, _, _, _, _, _, _, a9⟩ := hH; exact ⟨a9.2.1⟩
  obtain ⟨h', QL', sr', v, a1, a2, a3, a4, a5⟩ := C_find (e := e) hO hk hp1 hp2 24001 0 h QL sr none (by omega) hF hH hV (Nat.zero_le _) (fun a x ha _ => by omega)
  refine ⟨h', QL', sr', v, a1, a2, a3, a4, fun d Q => ?_⟩
  have := a5 d Q
  rw [nc0] at this
  rw [← this]
  simp (disch := omega) only [e_12_0, e_12_1, cmO_c, cmO_g0, cmO_k0, cmO_g1, cmO_k1, cmO_g2, cmO_k2, cmO_g3, cmO_k3, cmO_g4, cmO_k4, cmO_g5, cmO_k5, cmO_g6, cmO_k6, cmO_s0, cmO_s1, cmO_s2, cmO_s3, cmO_s4, cmO_s5, cmO_s6, hoO_c, hoO_g0, hoO_k0, hoO_g1, hoO_k1, hoO_g2, hoO_k2, hoO_g3, hoO_k3, hoO_g4, hoO_k4, hoO_g5, hoO_k5, hoO_g6, hoO_k6, hoO_g7, hoO_k7, hoO_g8, hoO_k8, hoO_g9, hoO_k9, hoO_s0, hoO_s1, hoO_s2, hoO_s9, iup_s, iup_n, hp_up1, hp_upn, ne_eq, not_false_eq_true, sh_0, sh_1, sh_2, sh_3, sh_4, sh_5, sh_8, sh_15, sh_16, sh_24, Int.reducePow, Int.cast_ofNat_Int, w_of, wl_of, ltT, ltF, leT, leF, eqT, eqF, okF_0, okF_s, gF_0, gF_s, consC_o, sF_0, sF_s, clsO_o, inA_i, ldA_i, stA_i, inJ_l, ldJ_l, stJ_l, inR_r, ldR_r, stR_r, tgR_r, lenA_i, lenA_l, lenA_r, lenA_ex, nl_i, nl_o, nl_l, nl_n, wd_n, wd_i, wd_l, wd_o, fit_i, fit_l, fit_o, K_v, K_n, true_and, and_true, Nat.reduceAdd, Nat.reduceLeDiff, Nat.reduceEqDiff, Nat.reduceMul, Nat.reduceLT, reduceIte, true_or, or_true, cmp_lt, cmp_gt, cmp_eq, wb_0, b_01, cmp_lt', cmp_gt', cmp_eq', b_0, b_1, wb_1, Int.reduceSub, Int.reduceToNat, List.getD_cons_succ, List.getD_cons_zero, Int.reduceLE, Int.reduceLT, Int.reduceEq, Int.reduceNeg, Int.reduceAdd, Int.reduceMul, and_self, em_b, ne_eq, not_false_eq_true, not_true_eq_false]
  try rfl
theorem C_all0 {ow : Nat → Nat} {h : PH} {ca : Nat} {c : KC} {sky e sr : Nat} {s0 : ST} {n : Nat} {QL : List QE} (hF : owF ow h) (hH : HoP ow h ca c sky e) (hV : ComV ow h ca c sky s0 QL sr n) :
    ∃ (h' : PH) (QL' : List QE), chg ow [1, 3] h h' ∧ HoP ow h' ca c sky e ∧ ComV ow h' ca c sky s0 QL' QL'.length n ∧ ansT c sky s0 (QL'.length : Int) ∧ ∀ d Q, WP (d + 10) 14 0 [some (vr 38), some (vr 27), none] [] h Q = Q (some (vi (QL'.length : Int))) h' := by
  obtain ⟨hO⟩ : Nonempty (okC c) := by obtain ⟨_, _, _, _, _, _, _, _, _, _, a9⟩ := hH; exact ⟨a9.2.1⟩
  obtain ⟨h', QL', a1, a2, a3, a4⟩ := C_all (e := e) hO 24001 0 h QL sr (by omega) hF hH hV (Nat.zero_le _)
  refine ⟨h', QL', a1, a2, a3, ?_, fun d Q => ?_⟩
  · obtain ⟨i, q, g, fq, fg, v1, v2, v3, v4, v5, v6, v7, v8⟩ := a3
    exact ⟨QL'.map (fun e => e.1), bfs_nd hO.1 v5, fun x => bfs_all v5, by rw [List.length_map]⟩
  · have := a4 d Q
    rw [nc0] at this
    rw [← this]
    simp (disch := omega) only [e_14_0, e_14_1, cmO_c, cmO_g0, cmO_k0, cmO_g1, cmO_k1, cmO_g2, cmO_k2, cmO_g3, cmO_k3, cmO_g4, cmO_k4, cmO_g5, cmO_k5, cmO_g6, cmO_k6, cmO_s0, cmO_s1, cmO_s2, cmO_s3, cmO_s4, cmO_s5, cmO_s6, hoO_c, hoO_g0, hoO_k0, hoO_g1, hoO_k1, hoO_g2, hoO_k2, hoO_g3, hoO_k3, hoO_g4, hoO_k4, hoO_g5, hoO_k5, hoO_g6, hoO_k6, hoO_g7, hoO_k7, hoO_g8, hoO_k8, hoO_g9, hoO_k9, hoO_s0, hoO_s1, hoO_s2, hoO_s9, iup_s, iup_n, hp_up1, hp_upn, ne_eq, not_false_eq_true, sh_0, sh_1, sh_2, sh_3, sh_4, sh_5, sh_8, sh_15, sh_16, sh_24, Int.reducePow, Int.cast_ofNat_Int, w_of, wl_of, ltT, ltF, leT, leF, eqT, eqF, okF_0, okF_s, gF_0, gF_s, consC_o, sF_0, sF_s, clsO_o, inA_i, ldA_i, stA_i, inJ_l, ldJ_l, stJ_l, inR_r, ldR_r, stR_r, tgR_r, lenA_i, lenA_l, lenA_r, lenA_ex, nl_i, nl_o, nl_l, nl_n, wd_n, wd_i, wd_l, wd_o, fit_i, fit_l, fit_o, K_v, K_n, true_and, and_true, Nat.reduceAdd, Nat.reduceLeDiff, Nat.reduceEqDiff, Nat.reduceMul, Nat.reduceLT, reduceIte, true_or, or_true, cmp_lt, cmp_gt, cmp_eq, wb_0, b_01, cmp_lt', cmp_gt', cmp_eq', b_0, b_1, wb_1, Int.reduceSub, Int.reduceToNat, List.getD_cons_succ, List.getD_cons_zero, Int.reduceLE, Int.reduceLT, Int.reduceEq, Int.reduceNeg, Int.reduceAdd, Int.reduceMul, and_self, em_b, ne_eq, not_false_eq_true, not_true_eq_false]
    try rfl
theorem msk_0 {c : KC} {QL : List QE} {f : ST → Nat} : mskQ c QL f 0 = 0 := by
  apply Nat.eq_of_testBit_eq
  intro i
  unfold mskQ
  rw [bitsF_tb, prB_F (fun ⟨a, x, h, _⟩ => by omega), Bool.and_false, Nat.zero_testBit]
theorem C_bits0 {ow : Nat → Nat} {h : PH} {ca : Nat} {c : KC} {sky e sr : Nat} {s0 : ST} {n : Nat} {QL : List QE} {ob : Bool} (hF : owF ow h) (hH : HoP ow h ca c sky e) (hV : ComV ow h ca c sky s0 QL sr n) :
    ∃ (h' : PH) (QL' : List QE) (sr' : Nat), chg ow [1, 3] h h' ∧ HoP ow h' ca c sky e ∧ ComV ow h' ca c sky s0 QL' sr' n ∧ ∀ d Q, WP (d + 10) 13 0 [some (vr 38), some (vr 27), some (vi (if ob then 1 else 0)), none, none, none, none] [] h Q = Q (some (vi (allV c sky s0 (obF ob)))) h' := by
  have hKC := hH
  obtain ⟨ih, A, a1, a2, a3, a4, a5, a6, a7, a8, hKC⟩ := hKC
  have hO := hKC.2.1
  have hK := hO.1
  obtain ⟨y4, y5, y6, y7, y8, y9, y10, y11, y14, y15, y17, hA⟩ := KCty_sz hKC
  have hs0 : okS c s0 := by obtain ⟨i, q, g, fq, fg, v1, v2, v3, v4, v5, v6, v7, v8⟩ := hV; exact v5.2.1 _ (List.mem_of_getElem? v5.1)
  have hN : obN ob c ≤ 5 := by unfold obN; have := hK.2.1; have := hK.2.2; cases ob <;> simp <;> omega
  have hF2 : 2 ^ obN ob c ≤ 32 := Nat.pow_le_pow_right (by decide) hN
  have hF3 : 1 ≤ 2 ^ obN ob c := Nat.one_le_two_pow
  have eN : (1 : Int) * 2 ^ sh (obN ob c : Int) = ((2 ^ obN ob c : Nat) : Int) := by rw [sh_nat (by omega), Int.one_mul, castP]
  generalize hFe : 2 ^ obN ob c = F at hF2 hF3 eN
  obtain ⟨h', QL', sr', b1, b2, b3, b4⟩ := C_bits (e := e) (ob := ob) hO hs0 hFe.symm hF2 hF3 24001 0 h QL sr none (by omega) hF hH hV (Nat.zero_le _)
  refine ⟨h', QL', sr', b1, b2, b3, fun d Q => ?_⟩
  have := b4 d Q
  rw [msk_0, nc0] at this
  rw [← this]
  obtain ⟨i, q, g, fq, fg, v1, v2, v3, v4, v5, v6, v7, v8⟩ := hV
  obtain ⟨c1, c2, c3⟩ := v1
  cases ob
  · rw [show obN false c = kP c from rfl] at eN
    simp only [Bool.false_eq_true, if_false]
    simp (disch := omega) only [e_13_0, e_13_1, e_13_2, e_13_5, e_13_6, e_13_9, e_13_12, e_13_15, e_13_16, e_13_19, e_13_22, e_13_23, e_13_24, e_13_25, e_13_26, e_13_27, e_13_29, e_13_30, c1, hA, eN, cmO_c, cmO_g0, cmO_k0, cmO_g1, cmO_k1, cmO_g2, cmO_k2, cmO_g3, cmO_k3, cmO_g4, cmO_k4, cmO_g5, cmO_k5, cmO_g6, cmO_k6, cmO_s0, cmO_s1, cmO_s2, cmO_s3, cmO_s4, cmO_s5, cmO_s6, hoO_c, hoO_g0, hoO_k0, hoO_g1, hoO_k1, hoO_g2, hoO_k2, hoO_g3, hoO_k3, hoO_g4, hoO_k4, hoO_g5, hoO_k5, hoO_g6, hoO_k6, hoO_g7, hoO_k7, hoO_g8, hoO_k8, hoO_g9, hoO_k9, hoO_s0, hoO_s1, hoO_s2, hoO_s9, iup_s, iup_n, hp_up1, hp_upn, ne_eq, not_false_eq_true, sh_0, sh_1, sh_2, sh_3, sh_4, sh_5, sh_8, sh_15, sh_16, sh_24, Int.reducePow, Int.cast_ofNat_Int, w_of, wl_of, ltT, ltF, leT, leF, eqT, eqF, okF_0, okF_s, gF_0, gF_s, consC_o, sF_0, sF_s, clsO_o, inA_i, ldA_i, stA_i, inJ_l, ldJ_l, stJ_l, inR_r, ldR_r, stR_r, tgR_r, lenA_i, lenA_l, lenA_r, lenA_ex, nl_i, nl_o, nl_l, nl_n, wd_n, wd_i, wd_l, wd_o, fit_i, fit_l, fit_o, K_v, K_n, true_and, and_true, Nat.reduceAdd, Nat.reduceLeDiff, Nat.reduceEqDiff, Nat.reduceMul, Nat.reduceLT, reduceIte, true_or, or_true, cmp_lt, cmp_gt, cmp_eq, wb_0, b_01, cmp_lt', cmp_gt', cmp_eq', b_0, b_1, wb_1, Int.reduceSub, Int.reduceToNat, List.getD_cons_succ, List.getD_cons_zero, Int.reduceLE, Int.reduceLT, Int.reduceEq, Int.reduceNeg, Int.reduceAdd, Int.reduceMul, and_self, em_b, ne_eq, not_false_eq_true, not_true_eq_false]
    try rfl
  · rw [show obN true c = kN c from rfl] at eN
    simp only [if_true]
    simp (disch := omega) only [e_13_0, e_13_1, e_13_2, e_13_5, e_13_6, e_13_9, e_13_12, e_13_15, e_13_16, e_13_19, e_13_22, e_13_23, e_13_24, e_13_25, e_13_26, e_13_27, e_13_29, e_13_30, c1, hA, eN, cmO_c, cmO_g0, cmO_k0, cmO_g1, cmO_k1, cmO_g2, cmO_k2, cmO_g3, cmO_k3, cmO_g4, cmO_k4, cmO_g5, cmO_k5, cmO_g6, cmO_k6, cmO_s0, cmO_s1, cmO_s2, cmO_s3, cmO_s4, cmO_s5, cmO_s6, hoO_c, hoO_g0, hoO_k0, hoO_g1, hoO_k1, hoO_g2, hoO_k2, hoO_g3, hoO_k3, hoO_g4, hoO_k4, hoO_g5, hoO_k5, hoO_g6, hoO_k6, hoO_g7, hoO_k7, hoO_g8, hoO_k8, hoO_g9, hoO_k9, hoO_s0, hoO_s1, hoO_s2, hoO_s9, iup_s, iup_n, hp_up1, hp_upn, ne_eq, not_false_eq_true, sh_0, sh_1, sh_2, sh_3, sh_4, sh_5, sh_8, sh_15, sh_16, sh_24, Int.reducePow, Int.cast_ofNat_Int, w_of, wl_of, ltT, ltF, leT, leF, eqT, eqF, okF_0, okF_s, gF_0, gF_s, consC_o, sF_0, sF_s, clsO_o, inA_i, ldA_i, stA_i, inJ_l, ldJ_l, stJ_l, inR_r, ldR_r, stR_r, tgR_r, lenA_i, lenA_l, lenA_r, lenA_ex, nl_i, nl_o, nl_l, nl_n, wd_n, wd_i, wd_l, wd_o, fit_i, fit_l, fit_o, K_v, K_n, true_and, and_true, Nat.reduceAdd, Nat.reduceLeDiff, Nat.reduceEqDiff, Nat.reduceMul, Nat.reduceLT, reduceIte, true_or, or_true, cmp_lt, cmp_gt, cmp_eq, wb_0, b_01, cmp_lt', cmp_gt', cmp_eq', b_0, b_1, wb_1, Int.reduceSub, Int.reduceToNat, List.getD_cons_succ, List.getD_cons_zero, Int.reduceLE, Int.reduceLT, Int.reduceEq, Int.reduceNeg, Int.reduceAdd, Int.reduceMul, and_self, em_b, ne_eq, not_false_eq_true, not_true_eq_false]
    try rfl
