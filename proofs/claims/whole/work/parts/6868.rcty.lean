/-! A COUNTY READ: the reference's call -/
theorem cpy_00 {f g : Int → Int} {n : Nat} : fset (cpy f g 0 0 n) (n : Int) (g (n : Int)) = cpy f g 0 0 (n + 1) := by
  have e := cpy_s0 (f := f) (g := g) (b := 0) (n := n)
  rw [Int.zero_add] at e
  exact e
theorem lwR_law {f : Int → Int} {CL l : Nat} {x : Option (List Int)} (hC : CL ≤ 900) (h : lwR f CL l x) : lawR2 f l x := by
  cases x with
  | none => exact h
  | some o =>
    obtain ⟨h1, h2, g, h3, h4, h5⟩ := h
    exact ⟨h1, h2, g, h3, by omega, h5⟩
theorem frD_cty {A : Nat → Int → Int} {CL : Nat} {c : KC} (hK : okK c) (h : frD A CL c) : ctyR (A 75) c ∧ stdR (A 75) (kFst c) (kSky c) 0 ∧ A 75 31 = 0 := by
  obtain ⟨h0, h1, h2, h3, h4, h5, h6, h7, h8, h9, h10, h11, h12⟩ := h
  have := hK.2.2
  exact ⟨⟨h0, h1, h2, fun k hk => (h3 k hk).1, fun k hk => (h3 k hk).2, fun p hp => (h4 p (by omega)).1, lwR_law h10 h11, lwR_law h10 h12⟩, ⟨fun p hp => (h4 p hp).2, h5, h6, h7⟩, h8⟩
theorem R_county {h : PH} {M : MS} {i : Nat → Int} {A : Nat → Int → Int} {x : Int} (hM : refM M i A) (hX : txE h) (h1 : -2147483648 ≤ x) (h2 : x < 2147483648) :
    ∃ j B, refM (ctyF M x).2 j B ∧ ∀ d Q, WP (d + 100) 195 0 [some (vr 71), some (vi x), none] [] (mdH h i A) Q = Q (some (vi (ctyF M x).1)) (mdH h j B) := by
  have hM' := hM
  obtain ⟨hq, hP, hpo, hI, hT, hB, hF, hG⟩ := hM
  obtain ⟨t1, t2, t3⟩ := hB
  unfold ctyF
  by_cases q : 0 ≤ x ∧ x ≤ ((mB M).length : Int)
  · rw [if_pos q]
    obtain ⟨n, rfl⟩ : ∃ n : Nat, x = n := ⟨x.toNat, by omega⟩
    rw [Int.toNat_natCast]
    have hnb : n ≤ (mB M).length := by omega
    have hsp := cyX_s hnb t2
    generalize cyX (mB M) n = X at hsp ⊢
    obtain ⟨s', c', C'⟩ := X
    obtain ⟨hp1, -, hf1⟩ := hsp
    obtain ⟨i', A', w1, w2, w5, w3, w4, w6⟩ := hf1 h i A hX ⟨t2, t3⟩ t1
    have eA : ∀ k, k ≠ 75 → A' k = A k := fun k hk => w4 k (by simpa using hk)
    have w6' := fun (d : Nat) (Q : PQ) => w6 (d + 100) Q (by omega)
    match s', hp1, w1, w2 with
    | .inr (f, a), hp1, w1, w2 =>
      obtain ⟨-, y1, y2, y3, y4⟩ := w1
      refine ⟨iup (iup i' 13 f) 14 a, A', ⟨refQ_x hq (eA 72 (by omega)), by rw [eA 72 (by omega)]; exact hP, hpo, imgR_fr (eA 73 (by omega)) (fun k _ => by rw [eA 72 (by omega)]) hI, traR_x hT (eA 87 (by omega)) (eA 88 (by omega)) (eA 89 (by omega)), ⟨by rw [iup_n (by omega), iup_n (by omega)]; exact w5, Nat.zero_le _, fun k x hx => by simp [mB, cyM] at hx⟩, by rw [iup_n (by omega), iup_s]; rfl, by rw [iup_s]; rfl⟩, fun d Q => ?_⟩
      rw [w6' d Q]
      show _ = Q (some (vi (-30 - f))) _
      simp (disch := omega) only [e_195_117, e_195_118, e_195_119, e_195_122, e_195_125, e_195_126, e_195_127, e_195_130, e_195_133, e_195_134, e_195_137, e_195_138, e_195_141, e_195_144, e_195_145, e_195_148, e_195_151, e_195_153, e_195_154, e_195_157, e_195_158, y1, y2, true_and, mdO_c, mdO_g0, mdO_k0, mdO_g1, mdO_k1, mdO_g2, mdO_k2, mdO_g3, mdO_k3, mdO_g4, mdO_k4, mdO_g5, mdO_k5, mdO_g6, mdO_k6, mdO_g7, mdO_k7, mdO_g8, mdO_k8, mdO_g9, mdO_k9, mdO_g10, mdO_k10, mdO_g11, mdO_k11, mdO_g12, mdO_k12, mdO_g13, mdO_k13, mdO_g14, mdO_k14, mdO_g15, mdO_k15, mdO_g16, mdO_k16, mdO_g17, mdO_k17, mdO_g18, mdO_k18, mdO_g19, mdO_k19, mdO_g20, mdO_k20, mdO_g21, mdO_k21, mdO_g22, mdO_k22, mdO_g23, mdO_k23, mdO_g24, mdO_k24, mdO_g25, mdO_k25, mdO_g26, mdO_k26, mdO_g27, mdO_k27, mdO_g28, mdO_k28, mdO_g29, mdO_k29, mdO_g30, mdO_k30, mdO_g31, mdO_k31, mdO_g32, mdO_k32, mdO_g33, mdO_k33, mdO_g34, mdO_k34, mdO_g35, mdO_k35, mdO_s0, mdO_s5, mdO_s6, mdO_s7, mdO_s8, mdO_s9, mdO_s10, mdO_s11, mdO_s12, mdO_s13, mdO_s14, mdO_s15, mdO_s19, mdO_s20, mdO_s25, mdO_s26, mdO_s31, mdO_s32, md_1, md_2, md_g71, md_g72, md_g73, md_g74, md_g75, md_g76, md_g77, md_g78, md_g79, md_g80, md_g81, md_g82, md_g83, md_g84, md_g85, md_g86, md_g87, md_g88, md_g89, md_out, md_u71, md_u72, md_u73, md_u74, md_u75, md_u76, md_u77, md_u78, md_u79, md_u80, md_u81, md_u82, md_u83, md_u84, md_u85, md_u86, md_u87, md_u88, md_u89, md_uo, iup_s, iup_n, aup_s, aup_n, ne_eq, not_false_eq_true, sh_0, sh_1, sh_2, sh_3, sh_4, sh_5, sh_8, sh_15, sh_16, sh_24, Int.reducePow, Int.cast_ofNat_Int, w_of, wl_of, ltT, ltF, leT, leF, eqT, eqF, okF_0, okF_s, gF_0, gF_s, consC_o, sF_0, sF_s, clsO_o, inA_i, ldA_i, stA_i, inJ_l, ldJ_l, stJ_l, inR_r, ldR_r, stR_r, tgR_r, lenA_i, lenA_l, lenA_r, lenA_ex, nl_i, nl_o, nl_l, nl_n, wd_n, wd_i, wd_l, wd_o, fit_i, fit_l, fit_o, K_v, K_n, true_and, and_true, Nat.reduceAdd, Nat.reduceLeDiff, Nat.reduceEqDiff, Nat.reduceMul, Nat.reduceLT, reduceIte, true_or, or_true, cmp_lt, cmp_gt, cmp_eq, wb_0, b_01, cmp_lt', cmp_gt', cmp_eq', b_0, b_1, wb_1, Int.reduceSub, Int.reduceToNat, List.getD_cons_succ, List.getD_cons_zero, Int.reduceLE, Int.reduceLT, Int.reduceEq, Int.reduceNeg, Int.reduceAdd, Int.reduceMul, and_self, em_b, ne_eq, not_false_eq_true, not_true_eq_false]
      try rfl
    | .inl q', hp1, w1, w2 =>
      obtain ⟨g1, g2, hD, g4, g5⟩ := hp1 q' rfl
      dsimp only at g1 g2 hD g4 g5
      have hCC : okC c' := okD_C hD (by omega)
      obtain ⟨-, -, y1, -⟩ := w1
      have hfr := w2 ⟨q', rfl⟩
      obtain ⟨z1, z2, z3⟩ := frD_cty hD.1 hfr
      have ek : ∀ k : Int, 0 ≤ k → k < 1023 → aup A' 72 (cpy (A' 72) (A' 75) 0 0 1023) 72 k = A' 75 k := fun k k1 k2 => by
        rw [aup_s, cpy_in (by omega) (by omega)]; congr 1; omega
      have hl : A' 75 0 = (kLines c' : Int) := hfr.1
      refine ⟨iup (iup i' 13 0) 14 (-1), aup A' 72 (cpy (A' 72) (A' 75) 0 0 1023), ⟨⟨hCC, ctyR_fr hCC.1 (fun k hk => ek k (by omega) (by omega)) z1, stdR_fr (fun k k1 k2 => ek k (by omega) (by omega)) z2, hD.2.2.2.2.2.1, by have := hD.2.2.2.2.1; show kSky c' < 10; omega⟩, ⟨by rw [ek 31 (by omega) (by omega), z3]; rfl, Nat.zero_le _, fun j z hz => by simp [mP, cyM] at hz⟩, (fun y hy => by cases hy), imgR_fr (by rw [aup_n (by omega)]; exact eA 73 (by omega)) (fun k hk => by rw [aup_s, cpy_out (by omega), eA 72 (by omega)]) hI, traR_x hT (by rw [aup_n (by omega)]; exact eA 87 (by omega)) (by rw [aup_n (by omega)]; exact eA 88 (by omega)) (by rw [aup_n (by omega)]; exact eA 89 (by omega)), ⟨by rw [iup_n (by omega), iup_n (by omega)]; exact w5, Nat.zero_le _, fun k x hx => by simp [mB, cyM] at hx⟩, by rw [iup_n (by omega), iup_s]; rfl, by rw [iup_s]; rfl⟩, fun d Q => ?_⟩
      rw [w6' d Q]
      show _ = Q (some (vi (kLines c' : Int))) _
      have lp : ∀ r k : Nat, k + r = 1023 → WP (d + 100) 195 161 [some (vr 71), some (vi (n : Nat)), some (vi k)] [] (mdH h (iup (iup i' 13 0) 14 (-1)) (aup A' 72 (cpy (A' 72) (A' 75) 0 0 k))) Q = Q (some (vi (kLines c' : Int))) (mdH h (iup (iup i' 13 0) 14 (-1)) (aup A' 72 (cpy (A' 72) (A' 75) 0 0 1023))) := by
        intro r
        induction r with
        | zero =>
          intro k hk
          have : k = 1023 := by omega
          subst this
          have e0 : cpy (A' 72) (A' 75) 0 0 1023 0 = (kLines c' : Int) := by rw [cpy_in (by omega) (by omega), ← hl]; rfl
          rw [e_195_161]
          simp (disch := omega) only [e_195_162, e_195_165, e_195_186, e_195_187, e_195_190, e_195_191, e_195_192, e0, aup_aup, mdO_c, mdO_g0, mdO_k0, mdO_g1, mdO_k1, mdO_g2, mdO_k2, mdO_g3, mdO_k3, mdO_g4, mdO_k4, mdO_g5, mdO_k5, mdO_g6, mdO_k6, mdO_g7, mdO_k7, mdO_g8, mdO_k8, mdO_g9, mdO_k9, mdO_g10, mdO_k10, mdO_g11, mdO_k11, mdO_g12, mdO_k12, mdO_g13, mdO_k13, mdO_g14, mdO_k14, mdO_g15, mdO_k15, mdO_g16, mdO_k16, mdO_g17, mdO_k17, mdO_g18, mdO_k18, mdO_g19, mdO_k19, mdO_g20, mdO_k20, mdO_g21, mdO_k21, mdO_g22, mdO_k22, mdO_g23, mdO_k23, mdO_g24, mdO_k24, mdO_g25, mdO_k25, mdO_g26, mdO_k26, mdO_g27, mdO_k27, mdO_g28, mdO_k28, mdO_g29, mdO_k29, mdO_g30, mdO_k30, mdO_g31, mdO_k31, mdO_g32, mdO_k32, mdO_g33, mdO_k33, mdO_g34, mdO_k34, mdO_g35, mdO_k35, mdO_s0, mdO_s5, mdO_s6, mdO_s7, mdO_s8, mdO_s9, mdO_s10, mdO_s11, mdO_s12, mdO_s13, mdO_s14, mdO_s15, mdO_s19, mdO_s20, mdO_s25, mdO_s26, mdO_s31, mdO_s32, md_1, md_2, md_g71, md_g72, md_g73, md_g74, md_g75, md_g76, md_g77, md_g78, md_g79, md_g80, md_g81, md_g82, md_g83, md_g84, md_g85, md_g86, md_g87, md_g88, md_g89, md_out, md_u71, md_u72, md_u73, md_u74, md_u75, md_u76, md_u77, md_u78, md_u79, md_u80, md_u81, md_u82, md_u83, md_u84, md_u85, md_u86, md_u87, md_u88, md_u89, md_uo, iup_s, iup_n, aup_s, aup_n, ne_eq, not_false_eq_true, sh_0, sh_1, sh_2, sh_3, sh_4, sh_5, sh_8, sh_15, sh_16, sh_24, Int.reducePow, Int.cast_ofNat_Int, w_of, wl_of, ltT, ltF, leT, leF, eqT, eqF, okF_0, okF_s, gF_0, gF_s, consC_o, sF_0, sF_s, clsO_o, inA_i, ldA_i, stA_i, inJ_l, ldJ_l, stJ_l, inR_r, ldR_r, stR_r, tgR_r, lenA_i, lenA_l, lenA_r, lenA_ex, nl_i, nl_o, nl_l, nl_n, wd_n, wd_i, wd_l, wd_o, fit_i, fit_l, fit_o, K_v, K_n, true_and, and_true, Nat.reduceAdd, Nat.reduceLeDiff, Nat.reduceEqDiff, Nat.reduceMul, Nat.reduceLT, reduceIte, true_or, or_true, cmp_lt, cmp_gt, cmp_eq, wb_0, b_01, cmp_lt', cmp_gt', cmp_eq', b_0, b_1, wb_1, Int.reduceSub, Int.reduceToNat, List.getD_cons_succ, List.getD_cons_zero, Int.reduceLE, Int.reduceLT, Int.reduceEq, Int.reduceNeg, Int.reduceAdd, Int.reduceMul, and_self, em_b, ne_eq, not_false_eq_true, not_true_eq_false]
        | succ r ih =>
          intro k hk
          have e := cpy_00 (f := A' 72) (g := A' 75) (n := k)
          rw [← ih (k + 1) (by omega), ← e]
          rw [e_195_161]
          simp (disch := omega) only [e_195_162, e_195_165, e_195_168, e_195_169, e_195_172, e_195_173, e_195_174, e_195_177, e_195_178, e_195_179, e_195_180, e_195_183, aup_aup, mdO_c, mdO_g0, mdO_k0, mdO_g1, mdO_k1, mdO_g2, mdO_k2, mdO_g3, mdO_k3, mdO_g4, mdO_k4, mdO_g5, mdO_k5, mdO_g6, mdO_k6, mdO_g7, mdO_k7, mdO_g8, mdO_k8, mdO_g9, mdO_k9, mdO_g10, mdO_k10, mdO_g11, mdO_k11, mdO_g12, mdO_k12, mdO_g13, mdO_k13, mdO_g14, mdO_k14, mdO_g15, mdO_k15, mdO_g16, mdO_k16, mdO_g17, mdO_k17, mdO_g18, mdO_k18, mdO_g19, mdO_k19, mdO_g20, mdO_k20, mdO_g21, mdO_k21, mdO_g22, mdO_k22, mdO_g23, mdO_k23, mdO_g24, mdO_k24, mdO_g25, mdO_k25, mdO_g26, mdO_k26, mdO_g27, mdO_k27, mdO_g28, mdO_k28, mdO_g29, mdO_k29, mdO_g30, mdO_k30, mdO_g31, mdO_k31, mdO_g32, mdO_k32, mdO_g33, mdO_k33, mdO_g34, mdO_k34, mdO_g35, mdO_k35, mdO_s0, mdO_s5, mdO_s6, mdO_s7, mdO_s8, mdO_s9, mdO_s10, mdO_s11, mdO_s12, mdO_s13, mdO_s14, mdO_s15, mdO_s19, mdO_s20, mdO_s25, mdO_s26, mdO_s31, mdO_s32, md_1, md_2, md_g71, md_g72, md_g73, md_g74, md_g75, md_g76, md_g77, md_g78, md_g79, md_g80, md_g81, md_g82, md_g83, md_g84, md_g85, md_g86, md_g87, md_g88, md_g89, md_out, md_u71, md_u72, md_u73, md_u74, md_u75, md_u76, md_u77, md_u78, md_u79, md_u80, md_u81, md_u82, md_u83, md_u84, md_u85, md_u86, md_u87, md_u88, md_u89, md_uo, iup_s, iup_n, aup_s, aup_n, ne_eq, not_false_eq_true, sh_0, sh_1, sh_2, sh_3, sh_4, sh_5, sh_8, sh_15, sh_16, sh_24, Int.reducePow, Int.cast_ofNat_Int, w_of, wl_of, ltT, ltF, leT, leF, eqT, eqF, okF_0, okF_s, gF_0, gF_s, consC_o, sF_0, sF_s, clsO_o, inA_i, ldA_i, stA_i, inJ_l, ldJ_l, stJ_l, inR_r, ldR_r, stR_r, tgR_r, lenA_i, lenA_l, lenA_r, lenA_ex, nl_i, nl_o, nl_l, nl_n, wd_n, wd_i, wd_l, wd_o, fit_i, fit_l, fit_o, K_v, K_n, true_and, and_true, Nat.reduceAdd, Nat.reduceLeDiff, Nat.reduceEqDiff, Nat.reduceMul, Nat.reduceLT, reduceIte, true_or, or_true, cmp_lt, cmp_gt, cmp_eq, wb_0, b_01, cmp_lt', cmp_gt', cmp_eq', b_0, b_1, wb_1, Int.reduceSub, Int.reduceToNat, List.getD_cons_succ, List.getD_cons_zero, Int.reduceLE, Int.reduceLT, Int.reduceEq, Int.reduceNeg, Int.reduceAdd, Int.reduceMul, and_self, em_b, ne_eq, not_false_eq_true, not_true_eq_false]
          try rfl
      have l0 := lp 1023 0 (by omega)
      rw [cpy_0, aup_id, nc0] at l0
      rw [← l0]
      simp (disch := omega) only [e_195_117, e_195_118, e_195_119, e_195_122, e_195_125, e_195_126, e_195_127, e_195_130, e_195_133, e_195_134, e_195_141, e_195_144, e_195_145, e_195_148, e_195_159, e_195_160, y1, true_and, mdO_c, mdO_g0, mdO_k0, mdO_g1, mdO_k1, mdO_g2, mdO_k2, mdO_g3, mdO_k3, mdO_g4, mdO_k4, mdO_g5, mdO_k5, mdO_g6, mdO_k6, mdO_g7, mdO_k7, mdO_g8, mdO_k8, mdO_g9, mdO_k9, mdO_g10, mdO_k10, mdO_g11, mdO_k11, mdO_g12, mdO_k12, mdO_g13, mdO_k13, mdO_g14, mdO_k14, mdO_g15, mdO_k15, mdO_g16, mdO_k16, mdO_g17, mdO_k17, mdO_g18, mdO_k18, mdO_g19, mdO_k19, mdO_g20, mdO_k20, mdO_g21, mdO_k21, mdO_g22, mdO_k22, mdO_g23, mdO_k23, mdO_g24, mdO_k24, mdO_g25, mdO_k25, mdO_g26, mdO_k26, mdO_g27, mdO_k27, mdO_g28, mdO_k28, mdO_g29, mdO_k29, mdO_g30, mdO_k30, mdO_g31, mdO_k31, mdO_g32, mdO_k32, mdO_g33, mdO_k33, mdO_g34, mdO_k34, mdO_g35, mdO_k35, mdO_s0, mdO_s5, mdO_s6, mdO_s7, mdO_s8, mdO_s9, mdO_s10, mdO_s11, mdO_s12, mdO_s13, mdO_s14, mdO_s15, mdO_s19, mdO_s20, mdO_s25, mdO_s26, mdO_s31, mdO_s32, md_1, md_2, md_g71, md_g72, md_g73, md_g74, md_g75, md_g76, md_g77, md_g78, md_g79, md_g80, md_g81, md_g82, md_g83, md_g84, md_g85, md_g86, md_g87, md_g88, md_g89, md_out, md_u71, md_u72, md_u73, md_u74, md_u75, md_u76, md_u77, md_u78, md_u79, md_u80, md_u81, md_u82, md_u83, md_u84, md_u85, md_u86, md_u87, md_u88, md_u89, md_uo, iup_s, iup_n, aup_s, aup_n, ne_eq, not_false_eq_true, sh_0, sh_1, sh_2, sh_3, sh_4, sh_5, sh_8, sh_15, sh_16, sh_24, Int.reducePow, Int.cast_ofNat_Int, w_of, wl_of, ltT, ltF, leT, leF, eqT, eqF, okF_0, okF_s, gF_0, gF_s, consC_o, sF_0, sF_s, clsO_o, inA_i, ldA_i, stA_i, inJ_l, ldJ_l, stJ_l, inR_r, ldR_r, stR_r, tgR_r, lenA_i, lenA_l, lenA_r, lenA_ex, nl_i, nl_o, nl_l, nl_n, wd_n, wd_i, wd_l, wd_o, fit_i, fit_l, fit_o, K_v, K_n, true_and, and_true, Nat.reduceAdd, Nat.reduceLeDiff, Nat.reduceEqDiff, Nat.reduceMul, Nat.reduceLT, reduceIte, true_or, or_true, cmp_lt, cmp_gt, cmp_eq, wb_0, b_01, cmp_lt', cmp_gt', cmp_eq', b_0, b_1, wb_1, Int.reduceSub, Int.reduceToNat, List.getD_cons_succ, List.getD_cons_zero, Int.reduceLE, Int.reduceLT, Int.reduceEq, Int.reduceNeg, Int.reduceAdd, Int.reduceMul, and_self, em_b, ne_eq, not_false_eq_true, not_true_eq_false]
      try rfl
  · rw [if_neg q]
    refine ⟨iup i 0 0, A, q0 hM', fun d Q => ?_⟩
    have wi := fun (d : Nat) (h : PH) (Q : PQ) => r_within (d := d) (h := h) (Q := Q) (v := x) (lo := 0) (hi := ((mB M).length : Int)) (by omega) (by omega) (by omega) (by omega) (by omega) (by omega)
    have t := eq_false q
    simp only [t, if_false] at wi
    simp (disch := omega) only [e_195_0, e_195_1, e_195_2, e_195_5, e_195_6, e_195_7, e_195_8, e_195_9, e_195_12, e_195_13, e_195_16, e_195_19, e_195_21, t1, wi, true_and, mdO_c, mdO_g0, mdO_k0, mdO_g1, mdO_k1, mdO_g2, mdO_k2, mdO_g3, mdO_k3, mdO_g4, mdO_k4, mdO_g5, mdO_k5, mdO_g6, mdO_k6, mdO_g7, mdO_k7, mdO_g8, mdO_k8, mdO_g9, mdO_k9, mdO_g10, mdO_k10, mdO_g11, mdO_k11, mdO_g12, mdO_k12, mdO_g13, mdO_k13, mdO_g14, mdO_k14, mdO_g15, mdO_k15, mdO_g16, mdO_k16, mdO_g17, mdO_k17, mdO_g18, mdO_k18, mdO_g19, mdO_k19, mdO_g20, mdO_k20, mdO_g21, mdO_k21, mdO_g22, mdO_k22, mdO_g23, mdO_k23, mdO_g24, mdO_k24, mdO_g25, mdO_k25, mdO_g26, mdO_k26, mdO_g27, mdO_k27, mdO_g28, mdO_k28, mdO_g29, mdO_k29, mdO_g30, mdO_k30, mdO_g31, mdO_k31, mdO_g32, mdO_k32, mdO_g33, mdO_k33, mdO_g34, mdO_k34, mdO_g35, mdO_k35, mdO_s0, mdO_s5, mdO_s6, mdO_s7, mdO_s8, mdO_s9, mdO_s10, mdO_s11, mdO_s12, mdO_s13, mdO_s14, mdO_s15, mdO_s19, mdO_s20, mdO_s25, mdO_s26, mdO_s31, mdO_s32, md_1, md_2, md_g71, md_g72, md_g73, md_g74, md_g75, md_g76, md_g77, md_g78, md_g79, md_g80, md_g81, md_g82, md_g83, md_g84, md_g85, md_g86, md_g87, md_g88, md_g89, md_out, md_u71, md_u72, md_u73, md_u74, md_u75, md_u76, md_u77, md_u78, md_u79, md_u80, md_u81, md_u82, md_u83, md_u84, md_u85, md_u86, md_u87, md_u88, md_u89, md_uo, iup_s, iup_n, aup_s, aup_n, ne_eq, not_false_eq_true, sh_0, sh_1, sh_2, sh_3, sh_4, sh_5, sh_8, sh_15, sh_16, sh_24, Int.reducePow, Int.cast_ofNat_Int, w_of, wl_of, ltT, ltF, leT, leF, eqT, eqF, okF_0, okF_s, gF_0, gF_s, consC_o, sF_0, sF_s, clsO_o, inA_i, ldA_i, stA_i, inJ_l, ldJ_l, stJ_l, inR_r, ldR_r, stR_r, tgR_r, lenA_i, lenA_l, lenA_r, lenA_ex, nl_i, nl_o, nl_l, nl_n, wd_n, wd_i, wd_l, wd_o, fit_i, fit_l, fit_o, K_v, K_n, true_and, and_true, Nat.reduceAdd, Nat.reduceLeDiff, Nat.reduceEqDiff, Nat.reduceMul, Nat.reduceLT, reduceIte, true_or, or_true, cmp_lt, cmp_gt, cmp_eq, wb_0, b_01, cmp_lt', cmp_gt', cmp_eq', b_0, b_1, wb_1, Int.reduceSub, Int.reduceToNat, List.getD_cons_succ, List.getD_cons_zero, Int.reduceLE, Int.reduceLT, Int.reduceEq, Int.reduceNeg, Int.reduceAdd, Int.reduceMul, and_self, em_b, ne_eq, not_false_eq_true, not_true_eq_false]
    try rfl
