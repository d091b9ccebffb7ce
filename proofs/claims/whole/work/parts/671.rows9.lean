/-! THE CLASS: Rows, canGoOn done; the first step -/
theorem or4_same {x b v : Nat} (hb : b < 4) (h0 : x / 4 ^ v % 4 = b) : (x ||| b * 4 ^ v) = x := by
  have p1 : 0 < 4 ^ v := Nat.pow_pos (by decide)
  have hle : b * 4 ^ v ≤ x := by
    have a1 : x / 4 ^ v * 4 ^ v ≤ x := Nat.div_mul_le_self x (4 ^ v)
    have a2 : b * 4 ^ v ≤ x / 4 ^ v * 4 ^ v := Nat.mul_le_mul_right _ (by rw [← h0]; exact Nat.mod_le _ _)
    omega
  have hy : (x - b * 4 ^ v) / 4 ^ v % 4 = 0 := by
    have e : x = (x - b * 4 ^ v) + b * 4 ^ v := by omega
    have e2 : x / 4 ^ v = (x - b * 4 ^ v) / 4 ^ v + b := by
      conv => lhs; rw [e, Nat.add_mul_div_right _ _ p1]
    omega
  have e : ((x - b * 4 ^ v) ||| b * 4 ^ v) = x := by rw [or4 hb hy]; omega
  conv => lhs; rw [← e]
  rw [Nat.or_assoc, Nat.or_self, e]
theorem mk_or {c : KC} {sky : Nat} {lw : List Int} {fm : Int → Int} {y : ST} {b v : Nat} (hK : okK c) (h : mkI c sky lw fm) (hl : lw.length ≤ 8) (hv : v < lw.length) (hy : okS c y) (hb : (b = 1 ∧ 0 < cmF c sky lw (lw.length - v) v y) ∨ (b = 2 ∧ ¬ 0 < cmF c sky lw (lw.length - v) v y)) : ∃ x : Nat, fm (encC c y) = (x : Int) ∧ x < 65536 ∧ mkI c sky lw (fset fm (encC c y : Nat) ((x ||| b * 4 ^ v : Nat) : Int)) := by
  obtain ⟨x, h1, h2, h3⟩ := h y hy
  have b4 : b < 4 := by omega
  refine ⟨x, h1, h2, ?_⟩
  by_cases z : x / 4 ^ v % 4 = 0
  · rw [or4 b4 z]
    exact mk_up hK h hl hv hy h1 z hb
  · have e : x / 4 ^ v % 4 = b := by
      rcases h3 v hv with w | ⟨w, w2⟩ | ⟨w, w2⟩
      · exact absurd w z
      · rcases hb with ⟨q, -⟩ | ⟨-, q⟩
        · omega
        · exact absurd w2 q
      · rcases hb with ⟨-, q⟩ | ⟨q, -⟩
        · exact absurd q w2
        · omega
    rw [or4_same b4 e]
    have : fset fm (encC c y : Nat) (x : Int) = fm := by
      funext k
      unfold fset
      by_cases w : k = (encC c y : Nat)
      · rw [if_pos w, w, h1]
      · rw [if_neg w]
    rw [this]
    exact h
theorem can_s {ow : Nat → Nat} {ca : Nat} {c : KC} {sky e : Nat} {i : Nat → Int} {dl dx dm nd : Nat} {pa pb : PV} {fw : Int → Int} {lw : List Int} {r : Nat} (hO : okC c) (hi : i 4 = (lw.length : Int)) (hl : lw.length ≤ 8) (hn2 : szC c ≤ nd) (hn3 : nd ≤ 24000) (om : ow dm = 2) (om2 : 34 < dm) (hfw : ∀ k, k < lw.length → fw k = lw.getD k 0) (hb : ∀ k, k < lw.length → -1 ≤ lw.getD k 0 ∧ lw.getD k 0 < 5) (ih : canC ow ca c sky e i dl dx dm nd pa pb fw lw r) : canC ow ca c sky e i dl dx dm nd pa pb fw lw (r + 1) := by
  have hK := hO.1
  have h24 := szC_le hK
  intro v h fm y hv hy hA hm
  have hA' := hA
  obtain ⟨h1, h2, h3, h4, h5, h6, h7, h8⟩ := hA
  have hyl := encC_lt hK hy
  obtain ⟨x, x1, x2, x3⟩ := hm y hy
  have hx3 := x3 v (by omega)
  rw [show lw.length - v = r + 1 by omega] at hx3
  have ekn : iand ((x : Int) / 2 ^ sh (2 * (v : Int))) 3 = ((x / 4 ^ v % 4 : Nat) : Int) := by
    rw [cast2, sh_nat (by omega), castP, ← Int.natCast_ediv, four_pow, iand_3, castM4]
  by_cases hk : x / 4 ^ v % 4 = 0
  · rw [hk] at ekn
    obtain ⟨iy, h27⟩ : ∃ i, hp h 27 = hoO i (vr ca) := by obtain ⟨i, A, a1, _⟩ := h2; exact ⟨i, a1⟩
    obtain ⟨g, g1, g2, g3, g4⟩ := H_spread h1 h2 hy
    have hA1 := AhS_c om hA' g1 g2
    obtain ⟨ii, f, gg, s1, s2, s3, s4, s5⟩ := g3
    have hlen := nx_len (sky := sky) hO hy
    generalize hL : nx c sky y = L at *
    obtain ⟨f50, q50⟩ := hA1.2.2.2.2.2.2.1 v (by omega)
    have cp := fun (d : Nat) (ls : PL) (Q : PQ) => e_cp (d := d) (ls := ls) (Q := Q) (h := g) (n := L.length) s4 q50 (by omega) (by omega) (by omega) (by omega) (by omega)
    have hA2 := AhS_a (u := v) (f := cpyF gg f50 L.length) om (by omega) hA1
    obtain ⟨h', fm', p7, p8, b1, b2, b3, b4⟩ := can_Lp (x4 := 0) hO hL hy hv hl om (hfw v (by omega)) (hb v (by omega)) ih (fa := cpyF gg f50 L.length) (fun k z hz => by
      have hk := (List.getElem?_eq_some_iff.mp hz).1
      rw [cp_at hk]
      exact (s5 k z hz).2) L.length 0 _ fm none (by omega) hA2 hm hp_up1 (fun k z hk => by omega)
    have av := ah_at (v := v) (by omega)
    have e45 := hA1.2.2.2.1
    have e49 := hA1.2.2.2.2.2.1
    obtain ⟨c1, c2, c3, c4, c5, c6, c7, c8⟩ := b2
    have dm10 : 10 ≤ dm := by omega
    by_cases hc : 0 < cmF c sky lw (r + 1) v y
    · obtain ⟨x', z1, z2, z3⟩ := mk_or (b := 1) (v := v) hK b3 hl (by omega) hy (Or.inl ⟨rfl, by rw [show lw.length - v = r + 1 by omega]; exact hc⟩)
      refine ⟨_, _, chy_t (chy_t (chy_c g1) (chy_a (u := v) (x := aI 0 16 (cpyF gg f50 L.length)) (Nat.le_refl _) (by omega))) (chy_t b1 chy_d), AhS_d om om2 ⟨c1, c2, c3, c4, c5, c6, c7, c8⟩, z3, fun d Q => ?_⟩
      have e4 : 4 ^ v ≤ 4 ^ 7 := Nat.pow_le_pow_right (by decide) (by omega)
      have e47 : 4 ^ 7 = 16384 := by decide
      have eor : ior (x' : Int) (1 * 2 ^ sh (2 * (v : Int))) = ((x' ||| 1 * 4 ^ v : Nat) : Int) := by
        rw [cast2, sh_nat (by omega), castP, four_pow, Int.one_mul, ior_nat (by omega) (by omega), Nat.one_mul]
      have b4' := fun (Q : PQ) => b4 d Q
      rw [nc0] at b4'
      rw [if_pos hc] at b4' ⊢
      have g4' := fun (Q : PQ) => g4 (d + 1 + r) Q
      rw [show d + 9 + (r + 1) = d + 1 + r + 8 + 1 by omega] at b4' ⊢
      simp (disch := omega) only [e_87_0, e_87_1, e_87_2, e_87_5, e_87_8, e_87_9, e_87_10, e_87_11, e_87_14, e_87_17, e_87_18, e_87_19, e_87_20, e_87_21, e_87_22, e_87_23, e_87_24, e_87_25, e_87_27, e_87_29, e_87_44, e_87_45, e_87_46, e_87_49, e_87_50, e_87_53, e_87_55, e_87_56, e_87_59, e_87_60, e_87_61, e_87_64, e_87_65, e_87_66, e_87_67, e_87_72, e_87_73, e_87_75, e_87_76, e_87_141, e_87_142, e_87_145, e_87_148, e_87_149, e_87_150, e_87_151, e_87_153, e_87_156, e_87_157, e_87_160, e_87_161, e_87_162, e_87_163, e_87_164, e_87_165, e_87_166, e_87_167, e_87_169, h27, h3, h4, h8, hi, x1, ekn, g4', s1, s2, cp, e45, e49, av, b4', c3, c4, c8, z1, eor, dm10, true_and, rwO_c, rwO_g0, rwO_k0, rwO_g1, rwO_k1, rwO_s1, rwO_g2, rwO_k2, rwO_s2, rwO_g3, rwO_k3, rwO_g4, rwO_k4, rwO_s4, rwO_g5, rwO_k5, rwO_g6, rwO_k6, dkO_c, dkO_g0, dkO_k0, dkO_s0, dkO_g1, dkO_k1, dkO_s1, dkO_g2, dkO_k2, dkO_s2, hoO_c, hoO_g0, hoO_k0, hoO_s0, hoO_g1, hoO_k1, hoO_s1, hoO_g2, hoO_k2, hoO_s2, hoO_g3, hoO_k3, hoO_g4, hoO_k4, hoO_g5, hoO_k5, hoO_g6, hoO_k6, hoO_g7, hoO_k7, hoO_g8, hoO_k8, hoO_g9, hoO_k9, hoO_s9, iup_s, iup_n, hp_up1, hp_upn, ne_eq, not_false_eq_true, sh_0, sh_1, sh_2, sh_3, sh_4, sh_5, sh_8, sh_15, sh_16, sh_24, Int.reducePow, Int.cast_ofNat_Int, w_of, wl_of, ltT, ltF, leT, leF, eqT, eqF, okF_0, okF_s, gF_0, gF_s, consC_o, sF_0, sF_s, clsO_o, inA_i, ldA_i, stA_i, inJ_l, ldJ_l, stJ_l, inR_r, ldR_r, stR_r, tgR_r, lenA_i, lenA_l, lenA_r, lenA_ex, nl_i, nl_o, nl_l, nl_n, wd_n, wd_i, wd_l, wd_o, fit_i, fit_l, fit_o, K_v, K_n, true_and, and_true, Nat.reduceAdd, Nat.reduceLeDiff, Nat.reduceEqDiff, Nat.reduceMul, Nat.reduceLT, reduceIte, true_or, or_true, cmp_lt, cmp_gt, cmp_eq, wb_0, b_01, cmp_lt', cmp_gt', cmp_eq', b_0, b_1, wb_1, Int.reduceSub, Int.reduceToNat, List.getD_cons_succ, List.getD_cons_zero, Int.reduceLE, Int.reduceLT, Int.reduceEq, Int.reduceNeg, Int.reduceAdd, Int.reduceMul, and_self, em_b, ne_eq, not_false_eq_true, not_true_eq_false]
      try rfl
    · obtain ⟨x', z1, z2, z3⟩ := mk_or (b := 2) (v := v) hK b3 hl (by omega) hy (Or.inr ⟨rfl, by rw [show lw.length - v = r + 1 by omega]; exact hc⟩)
      refine ⟨_, _, chy_t (chy_t (chy_c g1) (chy_a (u := v) (x := aI 0 16 (cpyF gg f50 L.length)) (Nat.le_refl _) (by omega))) (chy_t b1 chy_d), AhS_d om om2 ⟨c1, c2, c3, c4, c5, c6, c7, c8⟩, z3, fun d Q => ?_⟩
      have e4 : 4 ^ v ≤ 4 ^ 7 := Nat.pow_le_pow_right (by decide) (by omega)
      have e47 : 4 ^ 7 = 16384 := by decide
      have eor : ior (x' : Int) (2 * 2 ^ sh (2 * (v : Int))) = ((x' ||| 2 * 4 ^ v : Nat) : Int) := by
        have e2 : (2 : Int) * ((4 ^ v : Nat) : Int) = ((2 * 4 ^ v : Nat) : Int) := by omega
        rw [cast2, sh_nat (by omega), castP, four_pow, e2, ior_nat (by omega) (by omega)]
      have b4' := fun (Q : PQ) => b4 d Q
      rw [nc0] at b4'
      rw [if_neg hc] at b4' ⊢
      have g4' := fun (Q : PQ) => g4 (d + 1 + r) Q
      rw [show d + 9 + (r + 1) = d + 1 + r + 8 + 1 by omega] at b4' ⊢
      simp (disch := omega) only [e_87_0, e_87_1, e_87_2, e_87_5, e_87_8, e_87_9, e_87_10, e_87_11, e_87_14, e_87_17, e_87_18, e_87_19, e_87_20, e_87_21, e_87_22, e_87_23, e_87_24, e_87_25, e_87_27, e_87_29, e_87_44, e_87_45, e_87_46, e_87_49, e_87_50, e_87_53, e_87_55, e_87_56, e_87_59, e_87_60, e_87_61, e_87_64, e_87_65, e_87_66, e_87_67, e_87_72, e_87_73, e_87_75, e_87_76, e_87_141, e_87_142, e_87_145, e_87_148, e_87_149, e_87_150, e_87_151, e_87_153, e_87_156, e_87_157, e_87_160, e_87_161, e_87_162, e_87_163, e_87_164, e_87_165, e_87_166, e_87_167, e_87_169, h27, h3, h4, h8, hi, x1, ekn, g4', s1, s2, cp, e45, e49, av, b4', c3, c4, c8, z1, eor, dm10, true_and, rwO_c, rwO_g0, rwO_k0, rwO_g1, rwO_k1, rwO_s1, rwO_g2, rwO_k2, rwO_s2, rwO_g3, rwO_k3, rwO_g4, rwO_k4, rwO_s4, rwO_g5, rwO_k5, rwO_g6, rwO_k6, dkO_c, dkO_g0, dkO_k0, dkO_s0, dkO_g1, dkO_k1, dkO_s1, dkO_g2, dkO_k2, dkO_s2, hoO_c, hoO_g0, hoO_k0, hoO_s0, hoO_g1, hoO_k1, hoO_s1, hoO_g2, hoO_k2, hoO_s2, hoO_g3, hoO_k3, hoO_g4, hoO_k4, hoO_g5, hoO_k5, hoO_g6, hoO_k6, hoO_g7, hoO_k7, hoO_g8, hoO_k8, hoO_g9, hoO_k9, hoO_s9, iup_s, iup_n, hp_up1, hp_upn, ne_eq, not_false_eq_true, sh_0, sh_1, sh_2, sh_3, sh_4, sh_5, sh_8, sh_15, sh_16, sh_24, Int.reducePow, Int.cast_ofNat_Int, w_of, wl_of, ltT, ltF, leT, leF, eqT, eqF, okF_0, okF_s, gF_0, gF_s, consC_o, sF_0, sF_s, clsO_o, inA_i, ldA_i, stA_i, inJ_l, ldJ_l, stJ_l, inR_r, ldR_r, stR_r, tgR_r, lenA_i, lenA_l, lenA_r, lenA_ex, nl_i, nl_o, nl_l, nl_n, wd_n, wd_i, wd_l, wd_o, fit_i, fit_l, fit_o, K_v, K_n, true_and, and_true, Nat.reduceAdd, Nat.reduceLeDiff, Nat.reduceEqDiff, Nat.reduceMul, Nat.reduceLT, reduceIte, true_or, or_true, cmp_lt, cmp_gt, cmp_eq, wb_0, b_01, cmp_lt', cmp_gt', cmp_eq', b_0, b_1, wb_1, Int.reduceSub, Int.reduceToNat, List.getD_cons_succ, List.getD_cons_zero, Int.reduceLE, Int.reduceLT, Int.reduceEq, Int.reduceNeg, Int.reduceAdd, Int.reduceMul, and_self, em_b, ne_eq, not_false_eq_true, not_true_eq_false]
      try rfl
  · refine ⟨h, fm, chy_r, hA', hm, fun d Q => ?_⟩
    have hv8 : v < lw.length := by omega
    rcases hx3 with w | ⟨w, w2⟩ | ⟨w, w2⟩
    · exact absurd w hk
    · rw [w] at ekn
      rw [if_pos w2]
      have ekn' : iand ((x : Int) / 2 ^ sh (2 * (v : Int))) 3 = 1 := ekn
      simp (disch := omega) only [e_87_0, e_87_1, e_87_2, e_87_5, e_87_8, e_87_9, e_87_10, e_87_11, e_87_14, e_87_17, e_87_18, e_87_19, e_87_20, e_87_21, e_87_22, e_87_23, e_87_24, e_87_25, e_87_27, e_87_29, e_87_32, e_87_34, e_87_35, e_87_38, e_87_39, e_87_42, e_87_43, h3, h4, h8, hi, x1, ekn', true_and, rwO_c, rwO_g0, rwO_k0, rwO_g1, rwO_k1, rwO_s1, rwO_g2, rwO_k2, rwO_s2, rwO_g3, rwO_k3, rwO_g4, rwO_k4, rwO_s4, rwO_g5, rwO_k5, rwO_g6, rwO_k6, dkO_c, dkO_g0, dkO_k0, dkO_s0, dkO_g1, dkO_k1, dkO_s1, dkO_g2, dkO_k2, dkO_s2, hoO_c, hoO_g0, hoO_k0, hoO_s0, hoO_g1, hoO_k1, hoO_s1, hoO_g2, hoO_k2, hoO_s2, hoO_g3, hoO_k3, hoO_g4, hoO_k4, hoO_g5, hoO_k5, hoO_g6, hoO_k6, hoO_g7, hoO_k7, hoO_g8, hoO_k8, hoO_g9, hoO_k9, hoO_s9, iup_s, iup_n, hp_up1, hp_upn, ne_eq, not_false_eq_true, sh_0, sh_1, sh_2, sh_3, sh_4, sh_5, sh_8, sh_15, sh_16, sh_24, Int.reducePow, Int.cast_ofNat_Int, w_of, wl_of, ltT, ltF, leT, leF, eqT, eqF, okF_0, okF_s, gF_0, gF_s, consC_o, sF_0, sF_s, clsO_o, inA_i, ldA_i, stA_i, inJ_l, ldJ_l, stJ_l, inR_r, ldR_r, stR_r, tgR_r, lenA_i, lenA_l, lenA_r, lenA_ex, nl_i, nl_o, nl_l, nl_n, wd_n, wd_i, wd_l, wd_o, fit_i, fit_l, fit_o, K_v, K_n, true_and, and_true, Nat.reduceAdd, Nat.reduceLeDiff, Nat.reduceEqDiff, Nat.reduceMul, Nat.reduceLT, reduceIte, true_or, or_true, cmp_lt, cmp_gt, cmp_eq, wb_0, b_01, cmp_lt', cmp_gt', cmp_eq', b_0, b_1, wb_1, Int.reduceSub, Int.reduceToNat, List.getD_cons_succ, List.getD_cons_zero, Int.reduceLE, Int.reduceLT, Int.reduceEq, Int.reduceNeg, Int.reduceAdd, Int.reduceMul, and_self, em_b, ne_eq, not_false_eq_true, not_true_eq_false]
      try rfl
    · rw [w] at ekn
      rw [if_neg w2]
      have ekn' : iand ((x : Int) / 2 ^ sh (2 * (v : Int))) 3 = 2 := ekn
      simp (disch := omega) only [e_87_0, e_87_1, e_87_2, e_87_5, e_87_8, e_87_9, e_87_10, e_87_11, e_87_14, e_87_17, e_87_18, e_87_19, e_87_20, e_87_21, e_87_22, e_87_23, e_87_24, e_87_25, e_87_27, e_87_29, e_87_32, e_87_34, e_87_35, e_87_38, e_87_39, e_87_42, e_87_43, h3, h4, h8, hi, x1, ekn', true_and, rwO_c, rwO_g0, rwO_k0, rwO_g1, rwO_k1, rwO_s1, rwO_g2, rwO_k2, rwO_s2, rwO_g3, rwO_k3, rwO_g4, rwO_k4, rwO_s4, rwO_g5, rwO_k5, rwO_g6, rwO_k6, dkO_c, dkO_g0, dkO_k0, dkO_s0, dkO_g1, dkO_k1, dkO_s1, dkO_g2, dkO_k2, dkO_s2, hoO_c, hoO_g0, hoO_k0, hoO_s0, hoO_g1, hoO_k1, hoO_s1, hoO_g2, hoO_k2, hoO_s2, hoO_g3, hoO_k3, hoO_g4, hoO_k4, hoO_g5, hoO_k5, hoO_g6, hoO_k6, hoO_g7, hoO_k7, hoO_g8, hoO_k8, hoO_g9, hoO_k9, hoO_s9, iup_s, iup_n, hp_up1, hp_upn, ne_eq, not_false_eq_true, sh_0, sh_1, sh_2, sh_3, sh_4, sh_5, sh_8, sh_15, sh_16, sh_24, Int.reducePow, Int.cast_ofNat_Int, w_of, wl_of, ltT, ltF, leT, leF, eqT, eqF, okF_0, okF_s, gF_0, gF_s, consC_o, sF_0, sF_s, clsO_o, inA_i, ldA_i, stA_i, inJ_l, ldJ_l, stJ_l, inR_r, ldR_r, stR_r, tgR_r, lenA_i, lenA_l, lenA_r, lenA_ex, nl_i, nl_o, nl_l, nl_n, wd_n, wd_i, wd_l, wd_o, fit_i, fit_l, fit_o, K_v, K_n, true_and, and_true, Nat.reduceAdd, Nat.reduceLeDiff, Nat.reduceEqDiff, Nat.reduceMul, Nat.reduceLT, reduceIte, true_or, or_true, cmp_lt, cmp_gt, cmp_eq, wb_0, b_01, cmp_lt', cmp_gt', cmp_eq', b_0, b_1, wb_1, Int.reduceSub, Int.reduceToNat, List.getD_cons_succ, List.getD_cons_zero, Int.reduceLE, Int.reduceLT, Int.reduceEq, Int.reduceNeg, Int.reduceAdd, Int.reduceMul, and_self, em_b, ne_eq, not_false_eq_true, not_true_eq_false]
      try rfl
theorem can_all {ow : Nat → Nat} {ca : Nat} {c : KC} {sky e : Nat} {i : Nat → Int} {dl dx dm nd : Nat} {pa pb : PV} {fw : Int → Int} {lw : List Int} (hO : okC c) (hi : i 4 = (lw.length : Int)) (hl : lw.length ≤ 8) (hn2 : szC c ≤ nd) (hn3 : nd ≤ 24000) (om : ow dm = 2) (om2 : 34 < dm) (hfw : ∀ k, k < lw.length → fw k = lw.getD k 0) (hb : ∀ k, k < lw.length → -1 ≤ lw.getD k 0 ∧ lw.getD k 0 < 5) : ∀ r, canC ow ca c sky e i dl dx dm nd pa pb fw lw r
  | 0 => can_0 hi hl
  | r + 1 => can_s hO hi hl hn2 hn3 om om2 hfw hb (can_all hO hi hl hn2 hn3 om om2 hfw hb r)
