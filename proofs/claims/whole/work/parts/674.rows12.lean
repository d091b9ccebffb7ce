/-! THE CLASS: Rows, bearersAt -/
theorem bits_and {n q : Nat} {f : Nat → Bool} (hn : n ≤ 30) (hq : q < n) : iand (bitsF n f : Int) (1 * 2 ^ sh (q : Int)) = ((if f q then 2 ^ q else 0 : Nat) : Int) := by
  have hl := bitsF_lt (n := n) (f := f)
  have h1 : 2 ^ n ≤ 2 ^ 30 := Nat.pow_le_pow_right (by decide) hn
  have h2 : 2 ^ q ≤ 2 ^ 30 := Nat.pow_le_pow_right (by decide) (by omega)
  have h3 : (2 : Nat) ^ 30 < 2147483648 := by decide
  rw [sh_nat (by omega), Int.one_mul, castP, iand_nat (by omega) (by omega)]
  congr 1
  apply Nat.eq_of_testBit_eq
  intro i
  by_cases h : f q = true
  · rw [if_pos h, Nat.testBit_and, Nat.testBit_two_pow, bitsF_tb]
    by_cases e : q = i
    · subst e; simp [hq, h]
    · simp [e]
  · rw [if_neg h, Nat.testBit_and, Nat.testBit_two_pow, bitsF_tb, Nat.zero_testBit]
    by_cases e : q = i
    · subst e; simp [h]
    · simp [e]
theorem bAt_Lp {ow : Nat → Nat} {ca : Nat} {c : KC} {sky e : Nat} {i : Nat → Int} {dl dx dm nd I r : Nat} {pa pb : PV} {fw fl : Int → Int} {lw : List Int} {M : List ST} {x2 : Int} (hO : okC c) (hI : I + 1 + r = lw.length) (hi : i 4 = (lw.length : Int)) (hl : lw.length ≤ 8) (hn2 : szC c ≤ nd) (hn3 : nd ≤ 24000) (om : ow dm = 2) (om2 : 34 < dm) (ol : ow dl = 2) (lm : dl ≠ dm) (hfw : ∀ k, k < lw.length → fw k = lw.getD k 0) (hb : ∀ k, k < lw.length → -1 ≤ lw.getD k 0 ∧ lw.getD k 0 < 5) (hM : ∀ x, x ∈ M → okS c x) (hMl : M.length ≤ szC c) (hP : pathA c M fl) :
    ∀ (q j : Nat) (h : PH) (fm : Int → Int) (P : Nat → Bool) (o7 o8 : Option PV), j + q = M.length → AhS ow h ca c sky e i dl dx dm nd pa pb fw fm → mkI c sky lw fm → hp h dl = aI 0 nd fl →
    ∃ (h' : PH) (fm' : Int → Int), chy ow dm 0 h h' ∧ AhS ow h' ca c sky e i dl dx dm nd pa pb fw fm' ∧ ∀ d Q, WP (d + 18) 88 37 [some (vr 45), some (vr 27), some (vi x2), some (vi I), some (vi M.length), some (vi (bitsF 3 P)), some (vi j), o7, o8] [] h Q = Q (some (vi (bitsF 3 (fun b => P b || prB (∃ t, t ∈ M.drop j ∧ 0 < cmF c sky lw r (I + 1) t ∧ t.1 = b))))) h' := by
  have hK := hO.1
  have h24 := szC_le hK
  have can := can_all (ow := ow) (ca := ca) (sky := sky) (e := e) (dl := dl) (dx := dx) (pa := pa) (pb := pb) hO hi hl hn2 hn3 om om2 hfw hb r
  intro q
  induction q with
  | zero =>
    intro j h fm P o7 o8 hj hA hm hdl
    have ej : j = M.length := by omega
    subst ej
    refine ⟨h, fm, chy_r, hA, fun d Q => ?_⟩
    rw [bitsF_congr (n := 3) (f := fun b => P b || prB (∃ t, t ∈ M.drop M.length ∧ 0 < cmF c sky lw r (I + 1) t ∧ t.1 = b)) (g := P) (fun b _ => by
      rw [List.drop_eq_nil_of_le (Nat.le_refl _), prB_F (by rintro ⟨t, t1, -⟩; cases t1), Bool.or_false])]
    rw [e_88_37]
    simp (disch := omega) only [e_88_39, e_88_41, e_88_103, e_88_105, rwO_c, rwO_g0, rwO_k0, rwO_g1, rwO_k1, rwO_s1, rwO_g2, rwO_k2, rwO_s2, rwO_g3, rwO_k3, rwO_g4, rwO_k4, rwO_s4, rwO_g5, rwO_k5, rwO_g6, rwO_k6, dkO_c, dkO_g0, dkO_k0, dkO_s0, dkO_g1, dkO_k1, dkO_s1, dkO_g2, dkO_k2, dkO_s2, hoO_c, hoO_g0, hoO_k0, hoO_s0, hoO_g1, hoO_k1, hoO_s1, hoO_g2, hoO_k2, hoO_s2, hoO_g3, hoO_k3, hoO_g4, hoO_k4, hoO_g5, hoO_k5, hoO_g6, hoO_k6, hoO_g7, hoO_k7, hoO_g8, hoO_k8, hoO_g9, hoO_k9, hoO_s9, iup_s, iup_n, hp_up1, hp_upn, ne_eq, not_false_eq_true, sh_0, sh_1, sh_2, sh_3, sh_4, sh_5, sh_8, sh_15, sh_16, sh_24, Int.reducePow, Int.cast_ofNat_Int, w_of, wl_of, ltT, ltF, leT, leF, eqT, eqF, okF_0, okF_s, gF_0, gF_s, consC_o, sF_0, sF_s, clsO_o, inA_i, ldA_i, stA_i, inJ_l, ldJ_l, stJ_l, inR_r, ldR_r, stR_r, tgR_r, lenA_i, lenA_l, lenA_r, lenA_ex, nl_i, nl_o, nl_l, nl_n, wd_n, wd_i, wd_l, wd_o, fit_i, fit_l, fit_o, K_v, K_n, true_and, and_true, Nat.reduceAdd, Nat.reduceLeDiff, Nat.reduceEqDiff, Nat.reduceMul, Nat.reduceLT, reduceIte, true_or, or_true, cmp_lt, cmp_gt, cmp_eq, wb_0, b_01, cmp_lt', cmp_gt', cmp_eq', b_0, b_1, wb_1, Int.reduceSub, Int.reduceToNat, List.getD_cons_succ, List.getD_cons_zero, Int.reduceLE, Int.reduceLT, Int.reduceEq, Int.reduceNeg, Int.reduceAdd, Int.reduceMul, and_self, em_b, ne_eq, not_false_eq_true, not_true_eq_false]
    try rfl
  | succ q ih =>
    intro j h fm P o7 o8 hj hA hm hdl
    have hA' := hA
    obtain ⟨h1, h2, h3, h4, h5, h6, h7, h8⟩ := hA
    obtain ⟨hKC⟩ : Nonempty (KCty ow h ca c) := by obtain ⟨_, _, _, _, _, _, _, _, _, _, a9⟩ := h2; exact ⟨a9⟩
    obtain ⟨iy, h27⟩ : ∃ i, hp h 27 = hoO i (vr ca) := by obtain ⟨i, A, a1, _⟩ := h2; exact ⟨i, a1⟩
    obtain ⟨y4, y5, y6, y7, y8, y9, y10, y11, y14, y15, y17, hAc⟩ := KCty_sz hKC
    have hx : M[j]? = some M[j] := List.getElem?_eq_getElem (by omega)
    generalize M[j] = x at hx
    have hxo := hM x (List.mem_of_getElem? hx)
    have hxl := encC_lt hK hxo
    have hfx := hP j x hx
    have hdr := drop_at hx
    have br := fun (d : Nat) (Q : PQ) => c_bearerOf (d := d) (Q := Q) hK hKC.1 hxo
    have hb2 := (okS_R hK hxo).2
    have hlt := bitsF_lt (n := 3) (f := P)
    have h8' : 2 ^ 3 = 8 := by decide
    have ej : (j : Int) + 1 = ((j + 1 : Nat) : Int) := by omega
    have eI : (I : Int) + 1 = ((I + 1 : Nat) : Int) := by omega
    have ba := bits_and (n := 3) (q := x.1) (f := P) (by omega) (by omega)
    by_cases hp1 : P x.1 = true
    · rw [if_pos hp1] at ba
      obtain ⟨h', fm', b1, b2, b3⟩ := ih (j + 1) h fm P (some (vi (encC c x))) (some (vi (1 * 2 ^ sh (x.1 : Int)))) (by omega) hA' hm hdl
      refine ⟨h', fm', b1, b2, fun d Q => ?_⟩
      rw [bitsF_congr (n := 3) (f := fun b => P b || prB (∃ t, t ∈ M.drop j ∧ 0 < cmF c sky lw r (I + 1) t ∧ t.1 = b)) (g := fun b => P b || prB (∃ t, t ∈ M.drop (j + 1) ∧ 0 < cmF c sky lw r (I + 1) t ∧ t.1 = b)) (fun b _ => by
        by_cases z : b = x.1
        · rw [z, hp1, Bool.true_or, Bool.true_or]
        · have : (∃ t, t ∈ M.drop j ∧ 0 < cmF c sky lw r (I + 1) t ∧ t.1 = b) = (∃ t, t ∈ M.drop (j + 1) ∧ 0 < cmF c sky lw r (I + 1) t ∧ t.1 = b) := by
            rw [hdr]
            refine propext ⟨?_, ?_⟩
            · rintro ⟨t, t1, t2, t3⟩
              rcases List.mem_cons.mp t1 with w | w
              · rw [w] at t3; exact absurd t3.symm z
              · exact ⟨t, w, t2, t3⟩
            · rintro ⟨t, t1, t2⟩
              exact ⟨t, List.mem_cons_of_mem _ t1, t2⟩
          show (P b || prB (∃ t, t ∈ M.drop j ∧ 0 < cmF c sky lw r (I + 1) t ∧ t.1 = b)) = _
          rw [this]), ← b3 d Q]
      have hz : 1 ≤ 2 ^ x.1 ∧ 2 ^ x.1 ≤ 4 := ⟨Nat.pow_pos (by decide), by
        have : 2 ^ x.1 ≤ 2 ^ 2 := Nat.pow_le_pow_right (by decide) hb2
        omega⟩
      generalize 2 ^ x.1 = z at ba hz
      rw [e_88_37]
      simp (disch := omega) only [e_88_39, e_88_41, e_88_44, e_88_45, e_88_48, e_88_51, e_88_53, e_88_54, e_88_56, e_88_57, e_88_58, e_88_61, e_88_63, e_88_66, e_88_67, e_88_69, e_88_71, e_88_73, e_88_74, e_88_97, e_88_100, h27, h3, h4, hdl, hfx, hAc, br, ba, ej, true_and, rwO_c, rwO_g0, rwO_k0, rwO_g1, rwO_k1, rwO_s1, rwO_g2, rwO_k2, rwO_s2, rwO_g3, rwO_k3, rwO_g4, rwO_k4, rwO_s4, rwO_g5, rwO_k5, rwO_g6, rwO_k6, dkO_c, dkO_g0, dkO_k0, dkO_s0, dkO_g1, dkO_k1, dkO_s1, dkO_g2, dkO_k2, dkO_s2, hoO_c, hoO_g0, hoO_k0, hoO_s0, hoO_g1, hoO_k1, hoO_s1, hoO_g2, hoO_k2, hoO_s2, hoO_g3, hoO_k3, hoO_g4, hoO_k4, hoO_g5, hoO_k5, hoO_g6, hoO_k6, hoO_g7, hoO_k7, hoO_g8, hoO_k8, hoO_g9, hoO_k9, hoO_s9, iup_s, iup_n, hp_up1, hp_upn, ne_eq, not_false_eq_true, sh_0, sh_1, sh_2, sh_3, sh_4, sh_5, sh_8, sh_15, sh_16, sh_24, Int.reducePow, Int.cast_ofNat_Int, w_of, wl_of, ltT, ltF, leT, leF, eqT, eqF, okF_0, okF_s, gF_0, gF_s, consC_o, sF_0, sF_s, clsO_o, inA_i, ldA_i, stA_i, inJ_l, ldJ_l, stJ_l, inR_r, ldR_r, stR_r, tgR_r, lenA_i, lenA_l, lenA_r, lenA_ex, nl_i, nl_o, nl_l, nl_n, wd_n, wd_i, wd_l, wd_o, fit_i, fit_l, fit_o, K_v, K_n, true_and, and_true, Nat.reduceAdd, Nat.reduceLeDiff, Nat.reduceEqDiff, Nat.reduceMul, Nat.reduceLT, reduceIte, true_or, or_true, cmp_lt, cmp_gt, cmp_eq, wb_0, b_01, cmp_lt', cmp_gt', cmp_eq', b_0, b_1, wb_1, Int.reduceSub, Int.reduceToNat, List.getD_cons_succ, List.getD_cons_zero, Int.reduceLE, Int.reduceLT, Int.reduceEq, Int.reduceNeg, Int.reduceAdd, Int.reduceMul, and_self, em_b, ne_eq, not_false_eq_true, not_true_eq_false]
      try rfl
    · rw [if_neg hp1] at ba
      have ba' : iand (bitsF 3 P : Int) (1 * 2 ^ sh (x.1 : Int)) = 0 := ba
      obtain ⟨g, fm1, b1, b2, b3, b4⟩ := can (I + 1) h fm x hI hxo hA' hm
      have gdl : hp g dl = aI 0 nd fl := by
        rw [b1.2.2 dl (by rw [ol]; decide) lm (fun z => by
          have := tg_ah h1 (u := dl - 50) (by omega)
          rw [show 50 + (dl - 50) = dl by omega, ol] at this
          omega)]
        exact hdl
      by_cases hc : 0 < cmF c sky lw r (I + 1) x
      · obtain ⟨h', fm', c1, c2, c3⟩ := ih (j + 1) g fm1 (fun b => P b || decide (b = x.1)) (some (vi (encC c x))) (some (vi (1 * 2 ^ sh (x.1 : Int)))) (by omega) b2 b3 gdl
        refine ⟨h', fm', chy_t (chy_w b1 (by omega)) c1, c2, fun d Q => ?_⟩
        rw [bitsF_congr (n := 3) (f := fun b => P b || prB (∃ t, t ∈ M.drop j ∧ 0 < cmF c sky lw r (I + 1) t ∧ t.1 = b)) (g := fun b => (P b || decide (b = x.1)) || prB (∃ t, t ∈ M.drop (j + 1) ∧ 0 < cmF c sky lw r (I + 1) t ∧ t.1 = b)) (fun b _ => by
          by_cases z : b = x.1
          · have : ∃ t, t ∈ M.drop j ∧ 0 < cmF c sky lw r (I + 1) t ∧ t.1 = b := ⟨x, by rw [hdr]; exact List.mem_cons_self, hc, z.symm⟩
            show (P b || prB (∃ t, t ∈ M.drop j ∧ 0 < cmF c sky lw r (I + 1) t ∧ t.1 = b)) = ((P b || decide (b = x.1)) || _)
            rw [prB_T this, decide_eq_true z, Bool.or_true, Bool.true_or]
          · have : (∃ t, t ∈ M.drop j ∧ 0 < cmF c sky lw r (I + 1) t ∧ t.1 = b) = (∃ t, t ∈ M.drop (j + 1) ∧ 0 < cmF c sky lw r (I + 1) t ∧ t.1 = b) := by
              rw [hdr]
              refine propext ⟨?_, ?_⟩
              · rintro ⟨t, t1, t2, t3⟩
                rcases List.mem_cons.mp t1 with w | w
                · rw [w] at t3; exact absurd t3.symm z
                · exact ⟨t, w, t2, t3⟩
              · rintro ⟨t, t1, t2⟩
                exact ⟨t, List.mem_cons_of_mem _ t1, t2⟩
            show (P b || prB (∃ t, t ∈ M.drop j ∧ 0 < cmF c sky lw r (I + 1) t ∧ t.1 = b)) = ((P b || decide (b = x.1)) || _)
            rw [this, decide_eq_false z, Bool.or_false]), ← c3 d Q]
        have eo := bitsF_or (n := 3) (q := x.1) (f := P) (by omega) (by omega)
        have b4' := fun (Q : PQ) => b4 (d + 8 - r) Q
        rw [show d + 8 - r + 9 + r = d + 17 by omega] at b4'
        simp only [hc, if_true] at b4'
        rw [e_88_37]
        simp (disch := omega) only [e_88_39, e_88_41, e_88_44, e_88_45, e_88_48, e_88_51, e_88_53, e_88_54, e_88_56, e_88_57, e_88_58, e_88_61, e_88_63, e_88_66, e_88_67, e_88_69, e_88_71, e_88_73, e_88_74, e_88_77, e_88_78, e_88_79, e_88_81, e_88_82, e_88_83, e_88_84, e_88_87, e_88_90, e_88_92, e_88_94, e_88_95, e_88_97, e_88_100, h27, h3, h4, hdl, hfx, hAc, br, ba', eo, b4', eI, ej, true_and, rwO_c, rwO_g0, rwO_k0, rwO_g1, rwO_k1, rwO_s1, rwO_g2, rwO_k2, rwO_s2, rwO_g3, rwO_k3, rwO_g4, rwO_k4, rwO_s4, rwO_g5, rwO_k5, rwO_g6, rwO_k6, dkO_c, dkO_g0, dkO_k0, dkO_s0, dkO_g1, dkO_k1, dkO_s1, dkO_g2, dkO_k2, dkO_s2, hoO_c, hoO_g0, hoO_k0, hoO_s0, hoO_g1, hoO_k1, hoO_s1, hoO_g2, hoO_k2, hoO_s2, hoO_g3, hoO_k3, hoO_g4, hoO_k4, hoO_g5, hoO_k5, hoO_g6, hoO_k6, hoO_g7, hoO_k7, hoO_g8, hoO_k8, hoO_g9, hoO_k9, hoO_s9, iup_s, iup_n, hp_up1, hp_upn, ne_eq, not_false_eq_true, sh_0, sh_1, sh_2, sh_3, sh_4, sh_5, sh_8, sh_15, sh_16, sh_24, Int.reducePow, Int.cast_ofNat_Int, w_of, wl_of, ltT, ltF, leT, leF, eqT, eqF, okF_0, okF_s, gF_0, gF_s, consC_o, sF_0, sF_s, clsO_o, inA_i, ldA_i, stA_i, inJ_l, ldJ_l, stJ_l, inR_r, ldR_r, stR_r, tgR_r, lenA_i, lenA_l, lenA_r, lenA_ex, nl_i, nl_o, nl_l, nl_n, wd_n, wd_i, wd_l, wd_o, fit_i, fit_l, fit_o, K_v, K_n, true_and, and_true, Nat.reduceAdd, Nat.reduceLeDiff, Nat.reduceEqDiff, Nat.reduceMul, Nat.reduceLT, reduceIte, true_or, or_true, cmp_lt, cmp_gt, cmp_eq, wb_0, b_01, cmp_lt', cmp_gt', cmp_eq', b_0, b_1, wb_1, Int.reduceSub, Int.reduceToNat, List.getD_cons_succ, List.getD_cons_zero, Int.reduceLE, Int.reduceLT, Int.reduceEq, Int.reduceNeg, Int.reduceAdd, Int.reduceMul, and_self, em_b, ne_eq, not_false_eq_true, not_true_eq_false]
        try rfl
      · obtain ⟨h', fm', c1, c2, c3⟩ := ih (j + 1) g fm1 P (some (vi (encC c x))) (some (vi (1 * 2 ^ sh (x.1 : Int)))) (by omega) b2 b3 gdl
        refine ⟨h', fm', chy_t (chy_w b1 (by omega)) c1, c2, fun d Q => ?_⟩
        rw [bitsF_congr (n := 3) (f := fun b => P b || prB (∃ t, t ∈ M.drop j ∧ 0 < cmF c sky lw r (I + 1) t ∧ t.1 = b)) (g := fun b => P b || prB (∃ t, t ∈ M.drop (j + 1) ∧ 0 < cmF c sky lw r (I + 1) t ∧ t.1 = b)) (fun b _ => by
          have : (∃ t, t ∈ M.drop j ∧ 0 < cmF c sky lw r (I + 1) t ∧ t.1 = b) = (∃ t, t ∈ M.drop (j + 1) ∧ 0 < cmF c sky lw r (I + 1) t ∧ t.1 = b) := by
            rw [hdr]
            refine propext ⟨?_, ?_⟩
            · rintro ⟨t, t1, t2, t3⟩
              rcases List.mem_cons.mp t1 with w | w
              · rw [w] at t2; exact absurd t2 hc
              · exact ⟨t, w, t2, t3⟩
            · rintro ⟨t, t1, t2⟩
              exact ⟨t, List.mem_cons_of_mem _ t1, t2⟩
          show (P b || prB (∃ t, t ∈ M.drop j ∧ 0 < cmF c sky lw r (I + 1) t ∧ t.1 = b)) = _
          rw [this]), ← c3 d Q]
        have b4' := fun (Q : PQ) => b4 (d + 8 - r) Q
        rw [show d + 8 - r + 9 + r = d + 17 by omega] at b4'
        simp only [hc, if_false] at b4'
        rw [e_88_37]
        simp (disch := omega) only [e_88_39, e_88_41, e_88_44, e_88_45, e_88_48, e_88_51, e_88_53, e_88_54, e_88_56, e_88_57, e_88_58, e_88_61, e_88_63, e_88_66, e_88_67, e_88_69, e_88_71, e_88_73, e_88_74, e_88_77, e_88_78, e_88_79, e_88_81, e_88_82, e_88_83, e_88_84, e_88_87, e_88_90, e_88_92, e_88_94, e_88_95, e_88_97, e_88_100, h27, h3, h4, hdl, hfx, hAc, br, ba', b4', eI, ej, true_and, rwO_c, rwO_g0, rwO_k0, rwO_g1, rwO_k1, rwO_s1, rwO_g2, rwO_k2, rwO_s2, rwO_g3, rwO_k3, rwO_g4, rwO_k4, rwO_s4, rwO_g5, rwO_k5, rwO_g6, rwO_k6, dkO_c, dkO_g0, dkO_k0, dkO_s0, dkO_g1, dkO_k1, dkO_s1, dkO_g2, dkO_k2, dkO_s2, hoO_c, hoO_g0, hoO_k0, hoO_s0, hoO_g1, hoO_k1, hoO_s1, hoO_g2, hoO_k2, hoO_s2, hoO_g3, hoO_k3, hoO_g4, hoO_k4, hoO_g5, hoO_k5, hoO_g6, hoO_k6, hoO_g7, hoO_k7, hoO_g8, hoO_k8, hoO_g9, hoO_k9, hoO_s9, iup_s, iup_n, hp_up1, hp_upn, ne_eq, not_false_eq_true, sh_0, sh_1, sh_2, sh_3, sh_4, sh_5, sh_8, sh_15, sh_16, sh_24, Int.reducePow, Int.cast_ofNat_Int, w_of, wl_of, ltT, ltF, leT, leF, eqT, eqF, okF_0, okF_s, gF_0, gF_s, consC_o, sF_0, sF_s, clsO_o, inA_i, ldA_i, stA_i, inJ_l, ldJ_l, stJ_l, inR_r, ldR_r, stR_r, tgR_r, lenA_i, lenA_l, lenA_r, lenA_ex, nl_i, nl_o, nl_l, nl_n, wd_n, wd_i, wd_l, wd_o, fit_i, fit_l, fit_o, K_v, K_n, true_and, and_true, Nat.reduceAdd, Nat.reduceLeDiff, Nat.reduceEqDiff, Nat.reduceMul, Nat.reduceLT, reduceIte, true_or, or_true, cmp_lt, cmp_gt, cmp_eq, wb_0, b_01, cmp_lt', cmp_gt', cmp_eq', b_0, b_1, wb_1, Int.reduceSub, Int.reduceToNat, List.getD_cons_succ, List.getD_cons_zero, Int.reduceLE, Int.reduceLT, Int.reduceEq, Int.reduceNeg, Int.reduceAdd, Int.reduceMul, and_self, em_b, ne_eq, not_false_eq_true, not_true_eq_false]
        try rfl
theorem AhP_e {ow ow' : Nat → Nat} {h h' : PH} {T : List Nat} (hF : owF ow h) (hx : extO ow h ow' h' T) (h0 : ¬ 0 ∈ T) (ht : ¬ 20 ∈ T) (hP : AhP h) : AhP h' := by
  have h90 := hF.1
  have t49 : ow 49 = 0 := hF.2 49 (by omega)
  have t58 : ow 58 = 20 := hF.2 58 (by omega)
  obtain ⟨f, hf⟩ := hP.2.2
  refine ⟨by rw [hx.2.2 49 (by omega) (by rw [t49]; exact h0)]; exact hP.1, fun u hu => ?_, f, by rw [hx.2.2 58 (by omega) (by rw [t58]; exact ht)]; exact hf⟩
  obtain ⟨f, hf⟩ := hP.2.1 u hu
  exact ⟨f, by rw [hx.2.2 (50 + u) (by omega) (by rw [tg_ah hF hu]; exact ht)]; exact hf⟩
theorem Ro_bearersAt {ow : Nat → Nat} {h : PH} {ca : Nat} {c : KC} {sky e n nd I : Nat} {lw : List Int} {s : ST} (hF : owF ow h) (hH : HoP ow h ca c sky e) (hD : DesP ow h nd) (hV : RowV ow h n lw) (hP : AhP h) (hs : okS c s) (hI : I < lw.length) (hb : ∀ k, k < lw.length → -1 ≤ lw.getD k 0 ∧ lw.getD k 0 < 5) :
    ∃ (h' : PH) (ow' : Nat → Nat) (n' nd' d1 d2 : Nat), extO ow h ow' h' [1, 2, 5, 20] ∧ ((nd' = nd ∧ d1 = 0) ∨ (nd < nd' ∧ nd' = szC c ∧ d1 = 1)) ∧ ((n' = n ∧ d2 = 0) ∨ (n < n' ∧ n' = szC c ∧ d2 = 1)) ∧ h'.1 = h.1 + 3 * d1 + 2 * d2 ∧ h'.2.1 = h.2.1 + (3 * d1 + 2 * d2) * szC c ∧ HoP ow' h' ca c sky e ∧ DesP ow' h' nd' ∧ RowV ow' h' n' lw ∧ AhP h' ∧ ∀ d Q, WP (d + 18) 88 0 [some (vr 45), some (vr 27), some (vi (encC c s)), some (vi I), none, none, none, none, none] [] h Q = Q (some (vi (susV c sky lw I s))) h' := by
  obtain ⟨hO⟩ : Nonempty (okC c) := by obtain ⟨_, _, _, _, _, _, _, _, _, _, a9⟩ := hH; exact ⟨a9.2.1⟩
  have hK := hO.1
  have h24 := szC_le hK
  obtain ⟨i0, pa, pb, q45, q4, hlw⟩ : ∃ i pa pb, hp h 45 = rwO i pa pb ∧ i 4 = (lw.length : Int) ∧ lw.length ≤ 8 := by obtain ⟨i, kA, sA, f, g, fw, v1, v2, v3, v3', _⟩ := hV; exact ⟨i, _, _, v1, v3, v3'⟩
  obtain ⟨h1, ow1, n1, nd1, d1, d2, i, dl, dx, dm, kA, sA, fw, fm, M, f1, f2, f3, f4, f5, f6, f7, f8, f9, f10, f11, f12, f13, f14, f15, f16, f17, f18, f19⟩ := Ro_goOn (nn := I + 1) hF hH hD hV hs (by omega) (fun k hk => hb k (by omega)) (Or.inr (by omega))
  have hF1 := ext_F f1 hF
  have hP1 := AhP_e hF f1 (by decide) (by decide) hP
  obtain ⟨f, g, fl, fo, s1, s2, s3, s4, s5, s6, s7, s8, s9, s10⟩ := f17
  obtain ⟨w1, w2, w3, w4, w5, w6, w7, w8, w9, w10⟩ := f11
  have hl := (rc_b hK s9).1
  have lk : dl ≠ kA := fun z => by rw [z, w2] at w4; omega
  obtain ⟨f', b1, b2⟩ := Ro_forget hK f9 f10 f7 f8 w7 lk s10 s1 s2 s4 s7 s9
  have hch : chg ow1 [5] h1 (hup h1 kA (aL n1 f')) := chg_up w2 (by simp)
  have hF2 := chg_F hch hF1
  have hH2 := HoP_c hF1 hch (by decide) (by decide) f6
  have hP2 := AhP_e hF1 (ext_c hch) (by decide) (by decide) hP1
  have t45 : ow1 45 = 5 := hF1.2 45 (by omega)
  have t48 : ow1 48 = 18 := hF1.2 48 (by omega)
  have u58 : ow1 58 = 20 := hF1.2 58 (by omega)
  have k48 : kA ≠ 48 := fun z => by rw [z, t48] at w2; omega
  have xk : dx ≠ kA := fun z => by rw [z, w2] at w3; omega
  have om := f13.2.2.1
  have om2 : 34 < dm := f13.2.2.2.2.2.2.2.2.1
  have lm : dl ≠ dm := f13.2.2.2.2.1
  have xm : dx ≠ dm := f13.2.2.2.2.2.1
  have mk : dm ≠ kA := fun z => by rw [← z, om] at w2; omega
  have ms : dm ≠ sA := fun z => by rw [← z, om] at w1; omega
  have hdH : deH (hup h1 kA (aL n1 f')) dl dx dm nd1 fl fo fm := ⟨by rw [hp_upn (by omega)]; exact s1, by rw [hp_upn lk]; exact s7, by rw [hp_upn xk]; exact s8, by rw [hp_upn mk]; exact f14⟩
  have clr := D_clear hF2 hdH f13 f7
  have hA1 : AhS ow1 (hup h1 kA (aL n1 f')) ca c sky e i dl dx dm nd1 (vr kA) (vr sA) fw fm := ⟨hF2, hH2, hdH.1, by rw [hp_upn (by omega)]; exact s2, by rw [hp_upn (fun z => k48 z.symm)]; exact s3, hP2.1, hP2.2.1, hdH.2.2.2⟩
  have hA2 := AhS_d (f := fillF fm 0 (szC c : Nat) 0) om om2 hA1
  have hm := mk_0 (c := c) (sky := sky) (n := nd1) (lw := lw) (f := fm) (z := szC c) hK (Nat.le_refl _)
  obtain ⟨r, hr⟩ : ∃ r, I + 1 + r = lw.length := ⟨lw.length - (I + 1), by omega⟩
  obtain ⟨h2, fm2, c1, c2, c3⟩ := bAt_Lp (x2 := (encC c s : Int)) hO hr f15 hlw f7 f8 om om2 w4 lm f16 hb (fun x hx => (s9.1 x hx).1) hl s10 M.length 0 _ _ (fun _ => false) none none (by omega) hA2 hm (by rw [hp_upn lm]; exact hdH.2.1)
  obtain ⟨r1, r2, r3, r4, r5, r6, r7, r8⟩ := c2
  have g1 : h2.1 = h1.1 := c1.1
  have g2 : h2.2.1 = h1.2.1 := c1.2.1
  have keep : ∀ k, ow1 k ≠ 1 → ow1 k ≠ 20 → k ≠ dm → hp h2 k = hp (hup h1 kA (aL n1 f')) k := fun k k1 k2 k3 => by
    rw [c1.2.2 k k1 k3 (fun z => k2 (by
      have := tg_ah hF1 (u := k - 50) (by omega)
      rwa [show 50 + (k - 50) = k by omega] at this)), hp_upn k3]
  have hx : extO ow1 h1 ow1 h2 [1, 2, 5, 20] := ⟨by rw [g1]; exact Nat.le_refl _, fun _ _ => rfl, fun k k1 k2 => by
    rw [keep k (fun z => k2 (by rw [z]; simp)) (fun z => k2 (by rw [z]; simp)) (fun z => k2 (by rw [z, om]; simp)), hp_upn (fun z => k2 (by rw [z, w2]; simp))]⟩
  obtain ⟨f58, q58⟩ := hP2.2.2
  have m58 : 58 ≠ dm := fun z => by rw [← z, u58] at om; omega
  have e58 : hp h2 58 = aI 0 16 f58 := by rw [c1.2.2 58 (by rw [u58]; decide) m58 (by omega), hp_upn m58]; exact q58
  have hdW : deW ow1 h2 dl dx dm nd1 := by
    obtain ⟨z1, z2, z3, z4, z5, z6, z7, z8, z9, z10, z11, z12, z13⟩ := f13
    exact ⟨z1, z2, z3, z4, z5, z6, z7, z8, z9, by rw [g1]; exact z10, by rw [g1]; exact z11, by rw [g1]; exact z12, z13⟩
  refine ⟨h2, ow1, n1, nd1, d1, d2, ext_t (ext_w f1 (by decide)) hx, f2, f3, by rw [g1]; exact f4, by rw [g2]; exact f5, r2, ⟨dl, dx, dm, fl, fo, fm2, ⟨r3, by rw [keep dl (by rw [w4]; decide) (by rw [w4]; decide) lm]; exact hdH.2.1, by rw [keep dx (by rw [w3]; decide) (by rw [w3]; decide) xm]; exact hdH.2.2.1, r8⟩, hdW⟩, ⟨i, kA, sA, f', g, fw, r4, r5, f15, hlw, f16, by rw [keep kA (by rw [w2]; decide) (by rw [w2]; decide) (fun z => mk z.symm), hp_up1], by rw [keep sA (by rw [w1]; decide) (by rw [w1]; decide) (fun z => ms z.symm), hp_upn (fun z => w8 z.symm)]; exact s5, b1, s6, w2, w1, w8, w7, w5, by rw [g1]; exact f12.1, by rw [g1]; exact f12.2, f10⟩, ⟨r6, r7, f58, e58⟩, fun d Q => ?_⟩
  have es : bitsF 3 (fun b => false || prB (∃ t, t ∈ M.drop 0 ∧ 0 < cmF c sky lw r (I + 1) t ∧ t.1 = b)) = susV c sky lw I s := by
    unfold susV
    refine bitsF_congr (fun b _ => ?_)
    rw [Bool.false_or, List.drop_zero, show lw.length - (I + 1) = r by omega]
    congr 1
    refine propext ⟨?_, ?_⟩
    · rintro ⟨t, t1, t2⟩
      exact ⟨t, (s9.2.2.2.2 t).mp t1, t2⟩
    · rintro ⟨t, t1, t2⟩
      exact ⟨t, (s9.2.2.2.2 t).mpr t1, t2⟩
  have c3' := c3 d Q
  rw [es, nc0, show ((bitsF 3 (fun _ => false) : Nat) : Int) = 0 from rfl] at c3'
  rw [← c3']
  have f19' := fun (Q : PQ) => f19 (d + 7) Q
  have clr' := fun (Q : PQ) => clr (d + 15) Q
  obtain ⟨iy, h27⟩ : ∃ i, hp (hup h1 kA (aL n1 f')) 27 = hoO i (vr ca) := by obtain ⟨i, A, a1, _⟩ := hH2; exact ⟨i, a1⟩
  obtain ⟨hKC⟩ : Nonempty (KCty ow1 (hup h1 kA (aL n1 f')) ca c) := by obtain ⟨_, _, _, _, _, _, _, _, _, _, a9⟩ := hH2; exact ⟨a9⟩
  obtain ⟨y4, y5, y6, y7, y8, y9, y10, y11, y14, y15, y17, hAc⟩ := KCty_sz hKC
  have e45 := hA1.2.2.2.1
  have e34 := hdH.1
  have eI : (I : Int) + 1 = ((I + 1 : Nat) : Int) := by omega
  have fo27 : (27 : Nat) ≠ kA := by omega
  rw [hp_upn fo27] at h27
  generalize hg : hup h1 kA (aL n1 f') = hh at *
  have h27' : ∃ i, hp hh 27 = hoO i (vr ca) := by rw [← hg, hp_upn fo27]; exact ⟨iy, h27⟩
  obtain ⟨iz, h27z⟩ := h27'
  simp (disch := omega) only [e_88_0, e_88_1, e_88_2, e_88_3, e_88_4, e_88_5, e_88_6, e_88_9, e_88_11, e_88_12, e_88_14, e_88_17, e_88_18, e_88_21, e_88_22, e_88_25, e_88_28, e_88_31, e_88_32, e_88_34, e_88_35, q45, eI, f19', s2, b2, e45, e34, h27z, hAc, clr', true_and, rwO_c, rwO_g0, rwO_k0, rwO_g1, rwO_k1, rwO_s1, rwO_g2, rwO_k2, rwO_s2, rwO_g3, rwO_k3, rwO_g4, rwO_k4, rwO_s4, rwO_g5, rwO_k5, rwO_g6, rwO_k6, dkO_c, dkO_g0, dkO_k0, dkO_s0, dkO_g1, dkO_k1, dkO_s1, dkO_g2, dkO_k2, dkO_s2, hoO_c, hoO_g0, hoO_k0, hoO_s0, hoO_g1, hoO_k1, hoO_s1, hoO_g2, hoO_k2, hoO_s2, hoO_g3, hoO_k3, hoO_g4, hoO_k4, hoO_g5, hoO_k5, hoO_g6, hoO_k6, hoO_g7, hoO_k7, hoO_g8, hoO_k8, hoO_g9, hoO_k9, hoO_s9, iup_s, iup_n, hp_up1, hp_upn, ne_eq, not_false_eq_true, sh_0, sh_1, sh_2, sh_3, sh_4, sh_5, sh_8, sh_15, sh_16, sh_24, Int.reducePow, Int.cast_ofNat_Int, w_of, wl_of, ltT, ltF, leT, leF, eqT, eqF, okF_0, okF_s, gF_0, gF_s, consC_o, sF_0, sF_s, clsO_o, inA_i, ldA_i, stA_i, inJ_l, ldJ_l, stJ_l, inR_r, ldR_r, stR_r, tgR_r, lenA_i, lenA_l, lenA_r, lenA_ex, nl_i, nl_o, nl_l, nl_n, wd_n, wd_i, wd_l, wd_o, fit_i, fit_l, fit_o, K_v, K_n, true_and, and_true, Nat.reduceAdd, Nat.reduceLeDiff, Nat.reduceEqDiff, Nat.reduceMul, Nat.reduceLT, reduceIte, true_or, or_true, cmp_lt, cmp_gt, cmp_eq, wb_0, b_01, cmp_lt', cmp_gt', cmp_eq', b_0, b_1, wb_1, Int.reduceSub, Int.reduceToNat, List.getD_cons_succ, List.getD_cons_zero, Int.reduceLE, Int.reduceLT, Int.reduceEq, Int.reduceNeg, Int.reduceAdd, Int.reduceMul, and_self, em_b, ne_eq, not_false_eq_true, not_true_eq_false]
  try rfl
