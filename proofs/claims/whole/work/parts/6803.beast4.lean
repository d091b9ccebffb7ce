/-! THE CLASS: the Beast, meetAll -/
theorem chs_b {ow : Nat → Nat} {h h' : PH} {wA dl : Nat} (hF : owF ow h) (ow6 : ow wA = 6) (ol : ow dl = 2) (a : chs [59, wA, dl] h h') : chg ow [2, 6] h h' := chs_c a (fun y hy => by
  simp at hy
  rcases hy with z | z | z
  · rw [z, show ow 59 = 6 from hF.2 59 (by omega)]; simp
  · rw [z, ow6]; simp
  · rw [z, ol]; simp)
theorem Be_pLp {ow : Nat → Nat} {c : KC} {ca sky dl dx wA n nd : Nat} {pm : PV} {y : ST} {x2 x3 x4 x5 : Int} (hO : okC c) (hn : szC c ≤ n) (hn1 : n ≤ 24000) (hn2 : szC c ≤ nd) (hn3 : nd ≤ 24000) (ow6 : ow wA = 6) (ol : ow dl = 2) (q1 : 59 < wA) (q3 : 34 < dl) (hy : okS c y) :
    ∀ (r p : Nat) (h : PH) (M : List ST), p + r = kN c → owF ow h → KCty ow h ca c → MtS c h ca sky dl dx wA n nd pm M →
    ∃ (h' : PH) (E : List ST), chs [59, wA, dl] h h' ∧ MtS c h' ca sky dl dx wA n nd pm (M ++ E) ∧ (∀ q, p ≤ q → q < kN c → weakS y q ∈ M ++ E) ∧ ∀ d Q, WP (d + 2) 5 102 [some (vr 59), some (vr 27), some (vi x2), some (vi x3), some (vi x4), some (vi x5), some (vi (encC c y)), some (vi p)] [] h Q = WP (d + 2) 5 135 [some (vr 59), some (vr 27), some (vi x2), some (vi x3), some (vi x4), some (vi x5), some (vi (encC c y)), some (vi (kN c))] [] h' Q := by
  have hK := hO.1
  have hN := hK.2.2
  intro r
  induction r with
  | zero =>
    intro p h M hpk hF hC hS
    have e : p = kN c := by omega
    subst e
    obtain ⟨y4, y5, y6, y7, y8, y9, y10, y11, y14, y15, y17, hA⟩ := KCty_sz hC
    have h59 : ∃ i, hp h 59 = beO i (vr ca) (vr wA) := by obtain ⟨i, W, fl, s1, s2, _⟩ := hS; exact ⟨i, s2⟩
    obtain ⟨i, h59⟩ := h59
    refine ⟨h, [], chs_r, by rw [List.append_nil]; exact hS, fun q h1 h2 => by omega, fun d Q => ?_⟩
    rw [e_5_102]
    simp (disch := omega) only [e_5_104, e_5_105, e_5_108, e_5_111, h59, hA, true_and, beO_c, beO_g0, beO_k0, beO_g1, beO_k1, beO_s1, beO_g2, beO_k2, beO_s2, beO_g3, beO_k3, beO_s3, beO_g4, beO_k4, beO_s4, dkO_c, dkO_g0, dkO_k0, dkO_s0, dkO_g1, dkO_k1, dkO_s1, dkO_g2, dkO_k2, dkO_s2, hoO_c, hoO_g0, hoO_k0, hoO_s0, hoO_g1, hoO_k1, hoO_s1, hoO_g2, hoO_k2, hoO_s2, hoO_g3, hoO_k3, hoO_g4, hoO_k4, hoO_g5, hoO_k5, hoO_g6, hoO_k6, hoO_g7, hoO_k7, hoO_g8, hoO_k8, hoO_g9, hoO_k9, hoO_s9, iup_s, iup_n, hp_up1, hp_upn, ne_eq, not_false_eq_true, sh_0, sh_1, sh_2, sh_3, sh_4, sh_5, sh_8, sh_15, sh_16, sh_24, Int.reducePow, Int.cast_ofNat_Int, w_of, wl_of, ltT, ltF, leT, leF, eqT, eqF, okF_0, okF_s, gF_0, gF_s, consC_o, sF_0, sF_s, clsO_o, inA_i, ldA_i, stA_i, inJ_l, ldJ_l, stJ_l, inR_r, ldR_r, stR_r, tgR_r, lenA_i, lenA_l, lenA_r, lenA_ex, nl_i, nl_o, nl_l, nl_n, wd_n, wd_i, wd_l, wd_o, fit_i, fit_l, fit_o, K_v, K_n, true_and, and_true, Nat.reduceAdd, Nat.reduceLeDiff, Nat.reduceEqDiff, Nat.reduceMul, Nat.reduceLT, reduceIte, true_or, or_true, cmp_lt, cmp_gt, cmp_eq, wb_0, b_01, cmp_lt', cmp_gt', cmp_eq', b_0, b_1, wb_1, Int.reduceSub, Int.reduceToNat, List.getD_cons_succ, List.getD_cons_zero, Int.reduceLE, Int.reduceLT, Int.reduceEq, Int.reduceNeg, Int.reduceAdd, Int.reduceMul, and_self, em_b, ne_eq, not_false_eq_true, not_true_eq_false]
    try rfl
  | succ r ih =>
    intro p h M hpk hF hC hS
    obtain ⟨y4, y5, y6, y7, y8, y9, y10, y11, y14, y15, y17, hA⟩ := KCty_sz hC
    have h59 : ∃ i, hp h 59 = beO i (vr ca) (vr wA) := by obtain ⟨i, W, fl, s1, s2, _⟩ := hS; exact ⟨i, s2⟩
    obtain ⟨i, h59⟩ := h59
    have wk := fun (d : Nat) (Q : PQ) => c_weakened (d := d) (Q := Q) (p := p) hK hC.1 hy (by omega)
    obtain ⟨h1, E, b1, b2, b3, b4⟩ := Be_meet hK hF hn hn1 hn2 hn3 ow6 ol q1 q3 hS (weakS_ok (p := p) hy (by omega))
    have hc := chs_b hF ow6 ol b1
    obtain ⟨h', E', c1, c2, c3, c4⟩ := ih (p + 1) h1 (M ++ E) (by omega) (chg_F hc hF) (KCty_c hc (by decide) hC) b2
    rw [List.append_assoc] at c2 c3
    refine ⟨h', E ++ E', chs_t b1 c1, c2, fun q h1 h2 => ?_, fun d Q => ?_⟩
    · by_cases z : q = p
      · rw [z, ← List.append_assoc]; exact List.mem_append.mpr (Or.inl b3)
      · exact c3 q (by omega) h2
    · rw [← c4 d Q]
      have ep : (p : Int) + 1 = ((p + 1 : Nat) : Int) := by omega
      have b4' := fun (d : Nat) (Q : PQ) => b4 d Q
      rw [e_5_102]
      simp (disch := omega) only [e_5_104, e_5_105, e_5_108, e_5_111, e_5_114, e_5_115, e_5_116, e_5_119, e_5_121, e_5_123, e_5_126, e_5_129, e_5_132, h59, hA, wk, b4', ep, true_and, beO_c, beO_g0, beO_k0, beO_g1, beO_k1, beO_s1, beO_g2, beO_k2, beO_s2, beO_g3, beO_k3, beO_s3, beO_g4, beO_k4, beO_s4, dkO_c, dkO_g0, dkO_k0, dkO_s0, dkO_g1, dkO_k1, dkO_s1, dkO_g2, dkO_k2, dkO_s2, hoO_c, hoO_g0, hoO_k0, hoO_s0, hoO_g1, hoO_k1, hoO_s1, hoO_g2, hoO_k2, hoO_s2, hoO_g3, hoO_k3, hoO_g4, hoO_k4, hoO_g5, hoO_k5, hoO_g6, hoO_k6, hoO_g7, hoO_k7, hoO_g8, hoO_k8, hoO_g9, hoO_k9, hoO_s9, iup_s, iup_n, hp_up1, hp_upn, ne_eq, not_false_eq_true, sh_0, sh_1, sh_2, sh_3, sh_4, sh_5, sh_8, sh_15, sh_16, sh_24, Int.reducePow, Int.cast_ofNat_Int, w_of, wl_of, ltT, ltF, leT, leF, eqT, eqF, okF_0, okF_s, gF_0, gF_s, consC_o, sF_0, sF_s, clsO_o, inA_i, ldA_i, stA_i, inJ_l, ldJ_l, stJ_l, inR_r, ldR_r, stR_r, tgR_r, lenA_i, lenA_l, lenA_r, lenA_ex, nl_i, nl_o, nl_l, nl_n, wd_n, wd_i, wd_l, wd_o, fit_i, fit_l, fit_o, K_v, K_n, true_and, and_true, Nat.reduceAdd, Nat.reduceLeDiff, Nat.reduceEqDiff, Nat.reduceMul, Nat.reduceLT, reduceIte, true_or, or_true, cmp_lt, cmp_gt, cmp_eq, wb_0, b_01, cmp_lt', cmp_gt', cmp_eq', b_0, b_1, wb_1, Int.reduceSub, Int.reduceToNat, List.getD_cons_succ, List.getD_cons_zero, Int.reduceLE, Int.reduceLT, Int.reduceEq, Int.reduceNeg, Int.reduceAdd, Int.reduceMul, and_self, em_b, ne_eq, not_false_eq_true, not_true_eq_false]
      try rfl
theorem Be_jLp {ow : Nat → Nat} {c : KC} {ca sky dl dx wA n nd : Nat} {pm : PV} {x : ST} {x2 x3 : Int} {L : List (Nat × ST)} (hL : nx c sky x = L) (hO : okC c) (hx : okS c x) (hn : szC c ≤ n) (hn1 : n ≤ 24000) (hn2 : szC c ≤ nd) (hn3 : nd ≤ 24000) (ow6 : ow wA = 6) (ol : ow dl = 2) (q1 : 59 < wA) (q3 : 34 < dl) :
    ∀ (r j : Nat) (h : PH) (M : List ST) (o6 o7 : Option PV), j + r = L.length → owF ow h → KCty ow h ca c → spr h ca c L → MtS c h ca sky dl dx wA n nd pm M →
    ∃ (h' : PH) (E : List ST) (p6 p7 : Option PV), chs [59, wA, dl] h h' ∧ MtS c h' ca sky dl dx wA n nd pm (M ++ E) ∧ (∀ (k : Nat) y, j ≤ k → L[k]? = some y → 2 ≤ bearS c y.2 → y.2 ∈ M ++ E ∧ ∀ q, q < kN c → weakS y.2 q ∈ M ++ E) ∧ ∀ d Q, WP (d + 2) 5 62 [some (vr 59), some (vr 27), some (vi x2), some (vi x3), some (vi (encC c x)), some (vi j), o6, o7] [] h Q = WP (d + 2) 5 141 [some (vr 59), some (vr 27), some (vi x2), some (vi x3), some (vi (encC c x)), some (vi L.length), p6, p7] [] h' Q := by
  have hK := hO.1
  have h24 := szC_le hK
  have hlen := nx_len (sky := sky) hO hx
  rw [hL] at hlen
  intro r
  induction r with
  | zero =>
    intro j h M o6 o7 hj hF hC hS hM
    have e : j = L.length := by omega
    subst e
    obtain ⟨ii, f, g', a1, a2, a3, a4, a5⟩ := hS
    refine ⟨h, [], o6, o7, chs_r, by rw [List.append_nil]; exact hM, fun k y h1 h2 => ?_, fun d Q => ?_⟩
    · have := (List.getElem?_eq_some_iff.mp h2).1; omega
    · rw [e_5_62]
      simp (disch := omega) only [e_5_64, e_5_65, e_5_68, a1, a2, true_and, beO_c, beO_g0, beO_k0, beO_g1, beO_k1, beO_s1, beO_g2, beO_k2, beO_s2, beO_g3, beO_k3, beO_s3, beO_g4, beO_k4, beO_s4, dkO_c, dkO_g0, dkO_k0, dkO_s0, dkO_g1, dkO_k1, dkO_s1, dkO_g2, dkO_k2, dkO_s2, hoO_c, hoO_g0, hoO_k0, hoO_s0, hoO_g1, hoO_k1, hoO_s1, hoO_g2, hoO_k2, hoO_s2, hoO_g3, hoO_k3, hoO_g4, hoO_k4, hoO_g5, hoO_k5, hoO_g6, hoO_k6, hoO_g7, hoO_k7, hoO_g8, hoO_k8, hoO_g9, hoO_k9, hoO_s9, iup_s, iup_n, hp_up1, hp_upn, ne_eq, not_false_eq_true, sh_0, sh_1, sh_2, sh_3, sh_4, sh_5, sh_8, sh_15, sh_16, sh_24, Int.reducePow, Int.cast_ofNat_Int, w_of, wl_of, ltT, ltF, leT, leF, eqT, eqF, okF_0, okF_s, gF_0, gF_s, consC_o, sF_0, sF_s, clsO_o, inA_i, ldA_i, stA_i, inJ_l, ldJ_l, stJ_l, inR_r, ldR_r, stR_r, tgR_r, lenA_i, lenA_l, lenA_r, lenA_ex, nl_i, nl_o, nl_l, nl_n, wd_n, wd_i, wd_l, wd_o, fit_i, fit_l, fit_o, K_v, K_n, true_and, and_true, Nat.reduceAdd, Nat.reduceLeDiff, Nat.reduceEqDiff, Nat.reduceMul, Nat.reduceLT, reduceIte, true_or, or_true, cmp_lt, cmp_gt, cmp_eq, wb_0, b_01, cmp_lt', cmp_gt', cmp_eq', b_0, b_1, wb_1, Int.reduceSub, Int.reduceToNat, List.getD_cons_succ, List.getD_cons_zero, Int.reduceLE, Int.reduceLT, Int.reduceEq, Int.reduceNeg, Int.reduceAdd, Int.reduceMul, and_self, em_b, ne_eq, not_false_eq_true, not_true_eq_false]
      try rfl
  | succ r ih =>
    intro j h M o6 o7 hj hF hC hS hM
    have hS' := hS
    obtain ⟨ii, f, g', a1, a2, a3, a4, a5⟩ := hS
    obtain ⟨y4, y5, y6, y7, y8, y9, y10, y11, y14, y15, y17, hA⟩ := KCty_sz hC
    have h59 : ∃ i, hp h 59 = beO i (vr ca) (vr wA) := by obtain ⟨i, W, fl, s1, s2, _⟩ := hM; exact ⟨i, s2⟩
    obtain ⟨i, h59⟩ := h59
    have hy : L[j]? = some L[j] := List.getElem?_eq_getElem (by omega)
    generalize L[j] = y at hy
    obtain ⟨x1, x2'⟩ := a5 j y hy
    have hym : y ∈ nx c sky x := by rw [hL]; exact List.mem_of_getElem? hy
    have hyo := nx_ok hx hym
    have hyl := encC_lt hK hyo
    have br := fun (d : Nat) (Q : PQ) => c_bearing (d := d) (Q := Q) hK hC.1 hyo
    have bl : bearS c y.2 < 4 := by
      unfold bearS
      split
      · omega
      · exact ((okS_R hK hyo).1 y.2.1).2
    have ej : (j : Int) + 1 = ((j + 1 : Nat) : Int) := by omega
    by_cases hb : 2 ≤ bearS c y.2
    · obtain ⟨h1, E1, b1, b2, b3, b4⟩ := Be_meet hK hF hn hn1 hn2 hn3 ow6 ol q1 q3 hM hyo
      have hc1 := chs_b hF ow6 ol b1
      have hF1 := chg_F hc1 hF
      obtain ⟨h2, E2, c1, c2, c3, c4⟩ := Be_pLp (ow := ow) (x2 := x2) (x3 := x3) (x4 := (encC c x : Int)) (x5 := (j : Int)) hO hn hn1 hn2 hn3 ow6 ol q1 q3 hyo (kN c) 0 h1 (M ++ E1) (by omega) hF1 (KCty_c hc1 (by decide) hC) b2
      have hc2 := chs_b hF1 ow6 ol c1
      have hc12 := chg_t hc1 hc2
      obtain ⟨h3, E3, p6, p7, d1, d2, d3, d4⟩ := ih (j + 1) h2 (M ++ E1 ++ E2) (some (vi (encC c y.2))) (some (vi (kN c))) (by omega) (chg_F hc12 hF) (KCty_c hc12 (by decide) hC) (spr_c hF hc12 (by decide) hS') c2
      have ea : M ++ (E1 ++ E2 ++ E3) = M ++ E1 ++ E2 ++ E3 := by simp only [List.append_assoc]
      refine ⟨h3, E1 ++ E2 ++ E3, p6, p7, chs_t b1 (chs_t c1 d1), by rw [ea]; exact d2, fun k z h1 h2 h3 => ?_, fun d Q => ?_⟩
      · by_cases w : k = j
        · rw [w, hy] at h2
          have ez : y = z := Option.some.inj h2
          rw [← ez, ea]
          exact ⟨List.mem_append.mpr (Or.inl (List.mem_append.mpr (Or.inl b3))), fun q hq => List.mem_append.mpr (Or.inl (c3 q (by omega) hq))⟩
        · rw [ea]; exact d3 k z (by omega) h2 h3
      · rw [← d4 d Q]
        have b4' := fun (d : Nat) (Q : PQ) => b4 d Q
        have c4' := c4 d Q
        rw [nc0] at c4'
        rw [e_5_62]
        simp (disch := omega) only [e_5_64, e_5_65, e_5_68, e_5_71, e_5_72, e_5_75, e_5_77, e_5_78, e_5_80, e_5_81, e_5_84, e_5_86, e_5_89, e_5_90, e_5_93, e_5_94, e_5_96, e_5_99, e_5_100, e_5_135, e_5_138, a1, a2, a4, x2', h59, hA, br, b4', c4', ej, true_and, beO_c, beO_g0, beO_k0, beO_g1, beO_k1, beO_s1, beO_g2, beO_k2, beO_s2, beO_g3, beO_k3, beO_s3, beO_g4, beO_k4, beO_s4, dkO_c, dkO_g0, dkO_k0, dkO_s0, dkO_g1, dkO_k1, dkO_s1, dkO_g2, dkO_k2, dkO_s2, hoO_c, hoO_g0, hoO_k0, hoO_s0, hoO_g1, hoO_k1, hoO_s1, hoO_g2, hoO_k2, hoO_s2, hoO_g3, hoO_k3, hoO_g4, hoO_k4, hoO_g5, hoO_k5, hoO_g6, hoO_k6, hoO_g7, hoO_k7, hoO_g8, hoO_k8, hoO_g9, hoO_k9, hoO_s9, iup_s, iup_n, hp_up1, hp_upn, ne_eq, not_false_eq_true, sh_0, sh_1, sh_2, sh_3, sh_4, sh_5, sh_8, sh_15, sh_16, sh_24, Int.reducePow, Int.cast_ofNat_Int, w_of, wl_of, ltT, ltF, leT, leF, eqT, eqF, okF_0, okF_s, gF_0, gF_s, consC_o, sF_0, sF_s, clsO_o, inA_i, ldA_i, stA_i, inJ_l, ldJ_l, stJ_l, inR_r, ldR_r, stR_r, tgR_r, lenA_i, lenA_l, lenA_r, lenA_ex, nl_i, nl_o, nl_l, nl_n, wd_n, wd_i, wd_l, wd_o, fit_i, fit_l, fit_o, K_v, K_n, true_and, and_true, Nat.reduceAdd, Nat.reduceLeDiff, Nat.reduceEqDiff, Nat.reduceMul, Nat.reduceLT, reduceIte, true_or, or_true, cmp_lt, cmp_gt, cmp_eq, wb_0, b_01, cmp_lt', cmp_gt', cmp_eq', b_0, b_1, wb_1, Int.reduceSub, Int.reduceToNat, List.getD_cons_succ, List.getD_cons_zero, Int.reduceLE, Int.reduceLT, Int.reduceEq, Int.reduceNeg, Int.reduceAdd, Int.reduceMul, and_self, em_b, ne_eq, not_false_eq_true, not_true_eq_false]
        try rfl
    · obtain ⟨h3, E3, p6, p7, d1, d2, d3, d4⟩ := ih (j + 1) h M (some (vi (encC c y.2))) o7 (by omega) hF hC hS' hM
      refine ⟨h3, E3, p6, p7, d1, d2, fun k z h1 h2 h3 => ?_, fun d Q => ?_⟩
      · by_cases w : k = j
        · rw [w, hy] at h2
          have ez : y = z := Option.some.inj h2
          rw [← ez] at h3
          exact absurd h3 hb
        · exact d3 k z (by omega) h2 h3
      · rw [← d4 d Q]
        rw [e_5_62]
        simp (disch := omega) only [e_5_64, e_5_65, e_5_68, e_5_71, e_5_72, e_5_75, e_5_77, e_5_78, e_5_80, e_5_81, e_5_84, e_5_86, e_5_89, e_5_90, e_5_135, e_5_138, a1, a2, a4, x2', h59, hA, br, ej, true_and, beO_c, beO_g0, beO_k0, beO_g1, beO_k1, beO_s1, beO_g2, beO_k2, beO_s2, beO_g3, beO_k3, beO_s3, beO_g4, beO_k4, beO_s4, dkO_c, dkO_g0, dkO_k0, dkO_s0, dkO_g1, dkO_k1, dkO_s1, dkO_g2, dkO_k2, dkO_s2, hoO_c, hoO_g0, hoO_k0, hoO_s0, hoO_g1, hoO_k1, hoO_s1, hoO_g2, hoO_k2, hoO_s2, hoO_g3, hoO_k3, hoO_g4, hoO_k4, hoO_g5, hoO_k5, hoO_g6, hoO_k6, hoO_g7, hoO_k7, hoO_g8, hoO_k8, hoO_g9, hoO_k9, hoO_s9, iup_s, iup_n, hp_up1, hp_upn, ne_eq, not_false_eq_true, sh_0, sh_1, sh_2, sh_3, sh_4, sh_5, sh_8, sh_15, sh_16, sh_24, Int.reducePow, Int.cast_ofNat_Int, w_of, wl_of, ltT, ltF, leT, leF, eqT, eqF, okF_0, okF_s, gF_0, gF_s, consC_o, sF_0, sF_s, clsO_o, inA_i, ldA_i, stA_i, inJ_l, ldJ_l, stJ_l, inR_r, ldR_r, stR_r, tgR_r, lenA_i, lenA_l, lenA_r, lenA_ex, nl_i, nl_o, nl_l, nl_n, wd_n, wd_i, wd_l, wd_o, fit_i, fit_l, fit_o, K_v, K_n, true_and, and_true, Nat.reduceAdd, Nat.reduceLeDiff, Nat.reduceEqDiff, Nat.reduceMul, Nat.reduceLT, reduceIte, true_or, or_true, cmp_lt, cmp_gt, cmp_eq, wb_0, b_01, cmp_lt', cmp_gt', cmp_eq', b_0, b_1, wb_1, Int.reduceSub, Int.reduceToNat, List.getD_cons_succ, List.getD_cons_zero, Int.reduceLE, Int.reduceLT, Int.reduceEq, Int.reduceNeg, Int.reduceAdd, Int.reduceMul, and_self, em_b, ne_eq, not_false_eq_true, not_true_eq_false]
        try rfl
theorem app_at {α : Type} {A E : List α} {k : Nat} (hk : k < A.length) : (A ++ E)[k]? = A[k]? := List.getElem?_append_left hk
theorem Be_iLp {ow : Nat → Nat} {c : KC} {ca sky e dl dx wA n nd : Nat} {pm : PV} {x2 : Int} (hO : okC c) (hn : szC c ≤ n) (hn1 : n ≤ 24000) (hn2 : szC c ≤ nd) (hn3 : nd ≤ 24000) (ow6 : ow wA = 6) (ol : ow dl = 2) (ox : ow dx = 2) (q1 : 59 < wA) (q3 : 34 < dl) (q2 : 34 < dx) (q4 : dl ≠ dx) :
    ∀ (r k : Nat) (h : PH) (M : List ST) (O : Int → Int) (o4 o5 o6 o7 : Option PV), k + r = 24001 → k ≤ M.length → owF ow h → HoP ow h ca c sky e → MtS c h ca sky dl dx wA n nd pm M → hp h dx = aI 0 nd O → (∀ (q : Nat) x, q < k → M[q]? = some x → O (encC c x) = -1 ∧ ∀ y, y ∈ nx c sky x → 2 ≤ bearS c y.2 → y.2 ∈ M ∧ ∀ p, p < kN c → weakS y.2 p ∈ M) →
    ∃ (h' : PH) (M' : List ST) (O' : Int → Int), (∀ x, x ∈ M → x ∈ M') ∧ chx ow [59, wA, dl, dx] h h' ∧ HoP ow h' ca c sky e ∧ MtS c h' ca sky dl dx wA n nd pm M' ∧ hp h' dx = aI 0 nd O' ∧ (∀ x, x ∈ M' → O' (encC c x) = -1) ∧ clsB c sky M' ∧ ∀ d Q, WP (d + 9) 5 12 [some (vr 59), some (vr 27), some (vi x2), some (vi k), o4, o5, o6, o7] [] h Q = Q none h' := by
  have hK := hO.1
  have h24 := szC_le hK
  intro r
  induction r with
  | zero =>
    intro k h M O o4 o5 o6 o7 hk hkM hF hH hS hO' hI
    obtain ⟨i, W, fl, s1, s2, s3, s4, s5, s6, s7, s8⟩ := hS
    have := mt_len hK s8
    omega
  | succ r ih =>
    intro k h M O o4 o5 o6 o7 hk hkM hF hH hS hdx hI
    have hS' := hS
    obtain ⟨i, W, fl, s1, s2, s3, s4, s5, s6, s7, s8⟩ := hS
    have hl := mt_len hK s8
    obtain ⟨hKC⟩ : Nonempty (KCty ow h ca c) := by obtain ⟨_, _, _, _, _, _, _, _, _, _, a9⟩ := hH; exact ⟨a9⟩
    obtain ⟨y4, y5, y6, y7, y8, y9, y10, y11, y14, y15, y17, hA⟩ := KCty_sz hKC
    by_cases hend : k = M.length
    · subst hend
      refine ⟨h, M, O, fun x hx => hx, chx_r, hH, hS', hdx, fun x hx => ?_, fun x hx => ?_, fun d Q => ?_⟩
      · obtain ⟨q, hq⟩ := List.getElem?_of_mem hx
        exact (hI q x (List.getElem?_eq_some_iff.mp hq).1 hq).1
      · obtain ⟨q, hq⟩ := List.getElem?_of_mem hx
        exact (hI q x (List.getElem?_eq_some_iff.mp hq).1 hq).2
      · rw [e_5_12]
        simp (disch := omega) only [e_5_13, e_5_14, e_5_17, e_5_147, s2, s3, true_and, beO_c, beO_g0, beO_k0, beO_g1, beO_k1, beO_s1, beO_g2, beO_k2, beO_s2, beO_g3, beO_k3, beO_s3, beO_g4, beO_k4, beO_s4, dkO_c, dkO_g0, dkO_k0, dkO_s0, dkO_g1, dkO_k1, dkO_s1, dkO_g2, dkO_k2, dkO_s2, hoO_c, hoO_g0, hoO_k0, hoO_s0, hoO_g1, hoO_k1, hoO_s1, hoO_g2, hoO_k2, hoO_s2, hoO_g3, hoO_k3, hoO_g4, hoO_k4, hoO_g5, hoO_k5, hoO_g6, hoO_k6, hoO_g7, hoO_k7, hoO_g8, hoO_k8, hoO_g9, hoO_k9, hoO_s9, iup_s, iup_n, hp_up1, hp_upn, ne_eq, not_false_eq_true, sh_0, sh_1, sh_2, sh_3, sh_4, sh_5, sh_8, sh_15, sh_16, sh_24, Int.reducePow, Int.cast_ofNat_Int, w_of, wl_of, ltT, ltF, leT, leF, eqT, eqF, okF_0, okF_s, gF_0, gF_s, consC_o, sF_0, sF_s, clsO_o, inA_i, ldA_i, stA_i, inJ_l, ldJ_l, stJ_l, inR_r, ldR_r, stR_r, tgR_r, lenA_i, lenA_l, lenA_r, lenA_ex, nl_i, nl_o, nl_l, nl_n, wd_n, wd_i, wd_l, wd_o, fit_i, fit_l, fit_o, K_v, K_n, true_and, and_true, Nat.reduceAdd, Nat.reduceLeDiff, Nat.reduceEqDiff, Nat.reduceMul, Nat.reduceLT, reduceIte, true_or, or_true, cmp_lt, cmp_gt, cmp_eq, wb_0, b_01, cmp_lt', cmp_gt', cmp_eq', b_0, b_1, wb_1, Int.reduceSub, Int.reduceToNat, List.getD_cons_succ, List.getD_cons_zero, Int.reduceLE, Int.reduceLT, Int.reduceEq, Int.reduceNeg, Int.reduceAdd, Int.reduceMul, and_self, em_b, ne_eq, not_false_eq_true, not_true_eq_false]
        try rfl
    · have hkl : k < M.length := by omega
      have hx : M[k]? = some M[k] := List.getElem?_eq_getElem hkl
      generalize M[k] = x at hx
      have hxm := List.mem_of_getElem? hx
      have hxo := s8.2.1 x hxm
      have hxl := encC_lt hK hxo
      have hfx := s7 k x hx
      have t59 : ow 59 = 6 := hF.2 59 (by omega)
      have x59 : dx ≠ 59 := fun z => by rw [z, t59] at ox; omega
      have xw : dx ≠ wA := fun z => by rw [z, ow6] at ox; omega
      have c0 : chg ow [2] h (hup h dx (aI 0 nd (fset O (encC c x : Nat) (-1)))) := chg_up ox (by decide)
      have hF0 := chg_F c0 hF
      have hH0 := HoP_c hF c0 (by decide) (by decide) hH
      obtain ⟨g, g1, g2, g3, g4⟩ := H_spread hF0 hH0 hxo
      have hF1 := chg_F g1 hF0
      obtain ⟨hKC1⟩ : Nonempty (KCty ow g ca c) := by obtain ⟨_, _, _, _, _, _, _, _, _, _, a9⟩ := g2; exact ⟨a9⟩
      have at1 : ∀ z, ow z ≠ 1 → z ≠ dx → hp g z = hp h z := fun z z1 z2 => by rw [chg_at g1 rfl (fun w => z1 (List.mem_singleton.mp w)), hp_upn z2]
      have hS1 : MtS c g ca sky dl dx wA n nd pm M := ⟨i, W, fl, by rw [at1 34 (by rw [tg_34 hF]; decide) (by omega)]; exact s1, by rw [at1 59 (by rw [t59]; decide) (fun z => x59 z.symm)]; exact s2, s3, s4, by rw [at1 wA (by rw [ow6]; decide) (fun z => xw z.symm)]; exact s5, by rw [at1 dl (by rw [ol]; decide) q4]; exact s6, s7, s8⟩
      have edx : hp g dx = aI 0 nd (fset O (encC c x : Nat) (-1)) := by rw [chg_at g1 ox (by decide), hp_up1]
      obtain ⟨h1, E, p6, p7, b1, b2, b3, b4⟩ := Be_jLp (ow := ow) (x2 := x2) (x3 := (k : Int)) rfl hO hxo hn hn1 hn2 hn3 ow6 ol q1 q3 (nx c sky x).length 0 g M o6 o7 (by omega) hF1 hKC1 g3 hS1
      have hc1 := chs_b hF1 ow6 ol b1
      have e1dx : hp h1 dx = aI 0 nd (fset O (encC c x : Nat) (-1)) := by rw [b1.2.2 dx (by simp; exact ⟨x59, xw, fun z => q4 z.symm⟩)]; exact edx
      obtain ⟨h', M', O', d1, d2, d3, d4, d5, d6, d7, d8⟩ := ih (k + 1) h1 (M ++ E) (fset O (encC c x : Nat) (-1)) (some (vi (encC c x))) (some (vi (nx c sky x).length)) p6 p7 (by omega) (by rw [List.length_append]; omega) (chg_F hc1 hF1) (HoP_c hF1 hc1 (by decide) (by decide) g2) b2 e1dx (fun q z hq hqz => by
        rw [app_at (by omega)] at hqz
        by_cases w : q = k
        · rw [w, hx] at hqz
          have ez : x = z := Option.some.inj hqz
          rw [← ez]
          refine ⟨fs_same, fun y hy hb => ?_⟩
          obtain ⟨kk, hkk⟩ := List.getElem?_of_mem hy
          exact b3 kk y (by omega) hkk hb
        · obtain ⟨z1, z2⟩ := hI q z (by omega) hqz
          refine ⟨?_, fun y hy hb => ⟨List.mem_append.mpr (Or.inl (z2 y hy hb).1), fun p hp => List.mem_append.mpr (Or.inl ((z2 y hy hb).2 p hp))⟩⟩
          by_cases u : (encC c z : Int) = (encC c x : Nat)
          · rw [u, fs_same]
          · rw [fs_ne u]; exact z1)
      refine ⟨h', M', O', fun z hz => d1 z (List.mem_append.mpr (Or.inl hz)), chx_t (chx_t (chx_t (chx_up (by simp)) (chx_c g1)) (chx_w (chs_x b1) (by intro t ht; simp at ht ⊢; omega))) d2, d3, d4, d5, d6, d7, fun d Q => ?_⟩
      rw [← d8 d Q]
      have g4' := fun (Q : PQ) => g4 d Q
      have b4' := b4 (d + 7) Q
      rw [nc0] at b4'
      have ek : (k : Int) + 1 = ((k + 1 : Nat) : Int) := by omega
      have dx10 : 10 ≤ dx := by omega
      obtain ⟨iy, h27⟩ : ∃ i, hp h 27 = hoO i (vr ca) := by obtain ⟨i, A, a1, _⟩ := hH; exact ⟨i, a1⟩
      have n27 : 27 ≠ dx := by omega
      rw [e_5_12]
      simp (disch := omega) only [e_5_13, e_5_14, e_5_17, e_5_20, e_5_21, e_5_22, e_5_25, e_5_28, e_5_31, e_5_32, e_5_35, e_5_38, e_5_39, e_5_40, e_5_42, e_5_43, e_5_46, e_5_49, e_5_51, e_5_52, e_5_53, e_5_54, e_5_56, e_5_59, e_5_60, e_5_141, e_5_144, s1, s2, s3, s6, hdx, hA, hfx, h27, n27, g4', b4', ek, dx10, true_and, beO_c, beO_g0, beO_k0, beO_g1, beO_k1, beO_s1, beO_g2, beO_k2, beO_s2, beO_g3, beO_k3, beO_s3, beO_g4, beO_k4, beO_s4, dkO_c, dkO_g0, dkO_k0, dkO_s0, dkO_g1, dkO_k1, dkO_s1, dkO_g2, dkO_k2, dkO_s2, hoO_c, hoO_g0, hoO_k0, hoO_s0, hoO_g1, hoO_k1, hoO_s1, hoO_g2, hoO_k2, hoO_s2, hoO_g3, hoO_k3, hoO_g4, hoO_k4, hoO_g5, hoO_k5, hoO_g6, hoO_k6, hoO_g7, hoO_k7, hoO_g8, hoO_k8, hoO_g9, hoO_k9, hoO_s9, iup_s, iup_n, hp_up1, hp_upn, ne_eq, not_false_eq_true, sh_0, sh_1, sh_2, sh_3, sh_4, sh_5, sh_8, sh_15, sh_16, sh_24, Int.reducePow, Int.cast_ofNat_Int, w_of, wl_of, ltT, ltF, leT, leF, eqT, eqF, okF_0, okF_s, gF_0, gF_s, consC_o, sF_0, sF_s, clsO_o, inA_i, ldA_i, stA_i, inJ_l, ldJ_l, stJ_l, inR_r, ldR_r, stR_r, tgR_r, lenA_i, lenA_l, lenA_r, lenA_ex, nl_i, nl_o, nl_l, nl_n, wd_n, wd_i, wd_l, wd_o, fit_i, fit_l, fit_o, K_v, K_n, true_and, and_true, Nat.reduceAdd, Nat.reduceLeDiff, Nat.reduceEqDiff, Nat.reduceMul, Nat.reduceLT, reduceIte, true_or, or_true, cmp_lt, cmp_gt, cmp_eq, wb_0, b_01, cmp_lt', cmp_gt', cmp_eq', b_0, b_1, wb_1, Int.reduceSub, Int.reduceToNat, List.getD_cons_succ, List.getD_cons_zero, Int.reduceLE, Int.reduceLT, Int.reduceEq, Int.reduceNeg, Int.reduceAdd, Int.reduceMul, and_self, em_b, ne_eq, not_false_eq_true, not_true_eq_false]
      try rfl
