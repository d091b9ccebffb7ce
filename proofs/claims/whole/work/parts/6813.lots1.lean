/-! THE CLASS: lots -/
theorem To_settle {h : PH} {ca : Nat} {c : KC} {i : Nat → Int} {s : ST} {W : Nat} (hK : okK c) (hC : CtyAt h ca c) (hs : okS c s) (v1 : hp h 61 = toO i) (hW : W ≤ 1000000) : ∃ j : Nat → Int, j 2 = i 2 + W * upF c s ∧ j 3 = i 3 + W * stF c s ∧ (∀ k, k ≠ 2 → k ≠ 3 → j k = i k) ∧ ∀ d Q, WP (d + 2) 110 0 [some (vr 61), some (vr ca), some (vi (encC c s)), some (vi W)] [] h Q = Q none (hup h 61 (toO j)) := by
  have dn := fun (d : Nat) (h : PH) (hC : CtyAt h ca c) (Q : PQ) => c_isDown (d := d) (Q := Q) hK hC hs
  have tg := fun (d : Nat) (h : PH) (hC : CtyAt h ca c) (Q : PQ) => c_together (d := d) (Q := Q) hK hC hs
  have hC' := hC
  have hN := hK.2.2
  have hsum : sumF (kN c) s.2.2 ≤ 9 := by
    have hb : ∀ n, n ≤ kN c → sumF n s.2.2 ≤ 3 * n := by
      intro n
      induction n with
      | zero => intro _; exact Nat.le_refl _
      | succ n ih =>
        intro hn
        have := ih (by omega)
        have := (hs.1 n (by omega)).2
        rw [sumF_s]; omega
    have := hb (kN c) (Nat.le_refl _)
    omega
  obtain ⟨tf, tt, mf, mt, nn, fh, fw', fa, fc, fg, fp, hA, h1, h2, h3, h4, h5, h6, -⟩ := hC
  have hne : ∀ j, j ≤ 6 → ca + j ≠ 61 := fun j hj z => by
    have z' : 61 = ca + j := z.symm
    match j, hj with
    | 0, _ => rw [show 61 = ca from z', hA] at v1; cases v1
    | 1, _ => rw [z', h1] at v1; cases v1
    | 2, _ => rw [z', h2] at v1; cases v1
    | 3, _ => rw [z', h3] at v1; cases v1
    | 4, _ => rw [z', h4] at v1; cases v1
    | 5, _ => rw [z', h5] at v1; cases v1
    | 6, _ => rw [z', h6] at v1; cases v1
  have fr : ∀ x, CtyAt (hup h 61 x) ca c := fun x => CtyAt_frame (fun k k1 k2 => hp_upn (by
    have := hne (k - ca) (by omega)
    rw [show ca + (k - ca) = k by omega] at this
    exact this)) hC'
  have hca : ca ≠ 61 := hne 0 (by omega)
  unfold upF stF
  by_cases hd : downB c s = true
  · refine ⟨iup i 3 (i 3 + W * (sumF (kN c) s.2.2 : Nat)), by rw [if_pos hd, iup_n (by omega), Int.mul_zero, Int.add_zero], iup_s, fun k h1 h2 => iup_n h2, fun d Q => ?_⟩
    have dn' := fun (d : Nat) (Q : PQ) => dn d h hC' Q
    have tg' := fun (d : Nat) (Q : PQ) => tg d h hC' Q
    simp only [hd, if_true] at dn'
    simp (disch := omega) only [e_110_0, e_110_1, e_110_2, e_110_5, e_110_8, e_110_9i, e_110_9a, e_110_10, e_110_13, e_110_14, e_110_15, e_110_16, e_110_19, e_110_20i, e_110_20a, e_110_21, e_110_24, e_110_25, e_110_26, e_110_27, e_110_28, e_110_31, e_110_32, e_110_33, e_110_34, e_110_37, v1, hA, dn', tg', true_and, toO_c, toO_g0, toO_k0, toO_g1, toO_k1, toO_s1, toO_g2, toO_k2, toO_s2, toO_g3, toO_k3, toO_s3, toO_g4, toO_k4, toO_s4, toO_g5, toO_k5, toO_g6, toO_k6, toO_s6, hoO_c, hoO_g0, hoO_k0, hoO_s0, hoO_g1, hoO_k1, hoO_s1, hoO_g2, hoO_k2, hoO_s2, hoO_g3, hoO_k3, hoO_g4, hoO_k4, hoO_g5, hoO_k5, hoO_g6, hoO_k6, hoO_g7, hoO_k7, hoO_g8, hoO_k8, hoO_g9, hoO_k9, hoO_s9, iup_s, iup_n, hp_up1, hp_upn, ne_eq, not_false_eq_true, sh_0, sh_1, sh_2, sh_3, sh_4, sh_5, sh_8, sh_15, sh_16, sh_24, Int.reducePow, Int.cast_ofNat_Int, w_of, wl_of, ltT, ltF, leT, leF, eqT, eqF, okF_0, okF_s, gF_0, gF_s, consC_o, sF_0, sF_s, clsO_o, inA_i, ldA_i, stA_i, inJ_l, ldJ_l, stJ_l, inR_r, ldR_r, stR_r, tgR_r, lenA_i, lenA_l, lenA_r, lenA_ex, nl_i, nl_o, nl_l, nl_n, wd_n, wd_i, wd_l, wd_o, fit_i, fit_l, fit_o, K_v, K_n, true_and, and_true, Nat.reduceAdd, Nat.reduceLeDiff, Nat.reduceEqDiff, Nat.reduceMul, Nat.reduceLT, reduceIte, true_or, or_true, cmp_lt, cmp_gt, cmp_eq, wb_0, b_01, cmp_lt', cmp_gt', cmp_eq', b_0, b_1, wb_1, Int.reduceSub, Int.reduceToNat, List.getD_cons_succ, List.getD_cons_zero, Int.reduceLE, Int.reduceLT, Int.reduceEq, Int.reduceNeg, Int.reduceAdd, Int.reduceMul, and_self, em_b, ne_eq, not_false_eq_true, not_true_eq_false]
    try rfl
  · refine ⟨iup (iup i 2 (i 2 + W)) 3 (i 3 + W * (sumF (kN c) s.2.2 : Nat)), by rw [if_neg hd, iup_n (by omega), iup_s, Int.mul_one], iup_s, fun k h1 h2 => by rw [iup_n h2, iup_n h1], fun d Q => ?_⟩
    have dn' := fun (d : Nat) (Q : PQ) => dn d h hC' Q
    have tg' := fun (d : Nat) (Q : PQ) => tg d (hup h 61 (toO (iup i 2 (i 2 + W)))) (fr _) Q
    simp only [hd, if_false, Bool.false_eq_true] at dn'
    simp (disch := omega) only [e_110_0, e_110_1, e_110_2, e_110_5, e_110_8, e_110_9i, e_110_9a, e_110_10, e_110_13, e_110_14, e_110_15, e_110_16, e_110_19, e_110_20i, e_110_20a, e_110_21, e_110_24, e_110_25, e_110_26, e_110_27, e_110_28, e_110_31, e_110_32, e_110_33, e_110_34, e_110_37, v1, hA, hca, dn', tg', hup_tt, true_and, toO_c, toO_g0, toO_k0, toO_g1, toO_k1, toO_s1, toO_g2, toO_k2, toO_s2, toO_g3, toO_k3, toO_s3, toO_g4, toO_k4, toO_s4, toO_g5, toO_k5, toO_g6, toO_k6, toO_s6, hoO_c, hoO_g0, hoO_k0, hoO_s0, hoO_g1, hoO_k1, hoO_s1, hoO_g2, hoO_k2, hoO_s2, hoO_g3, hoO_k3, hoO_g4, hoO_k4, hoO_g5, hoO_k5, hoO_g6, hoO_k6, hoO_g7, hoO_k7, hoO_g8, hoO_k8, hoO_g9, hoO_k9, hoO_s9, iup_s, iup_n, hp_up1, hp_upn, ne_eq, not_false_eq_true, sh_0, sh_1, sh_2, sh_3, sh_4, sh_5, sh_8, sh_15, sh_16, sh_24, Int.reducePow, Int.cast_ofNat_Int, w_of, wl_of, ltT, ltF, leT, leF, eqT, eqF, okF_0, okF_s, gF_0, gF_s, consC_o, sF_0, sF_s, clsO_o, inA_i, ldA_i, stA_i, inJ_l, ldJ_l, stJ_l, inR_r, ldR_r, stR_r, tgR_r, lenA_i, lenA_l, lenA_r, lenA_ex, nl_i, nl_o, nl_l, nl_n, wd_n, wd_i, wd_l, wd_o, fit_i, fit_l, fit_o, K_v, K_n, true_and, and_true, Nat.reduceAdd, Nat.reduceLeDiff, Nat.reduceEqDiff, Nat.reduceMul, Nat.reduceLT, reduceIte, true_or, or_true, cmp_lt, cmp_gt, cmp_eq, wb_0, b_01, cmp_lt', cmp_gt', cmp_eq', b_0, b_1, wb_1, Int.reduceSub, Int.reduceToNat, List.getD_cons_succ, List.getD_cons_zero, Int.reduceLE, Int.reduceLT, Int.reduceEq, Int.reduceNeg, Int.reduceAdd, Int.reduceMul, and_self, em_b, ne_eq, not_false_eq_true, not_true_eq_false]
    try rfl
/-- the contract of weigh with r hours ahead -/
def wgC (ow : Nat → Nat) (ca : Nat) (c : KC) (sky e : Nat) (l : List Int) (f g : Int → Int) (r : Nat) : Prop := ∀ (lev : Nat) (h : PH) (i : Nat → Int) (s : ST) (a : Nat), lev + r = l.length → okS c s → owF ow h → HoP ow h ca c sky e → hp h 61 = toO i → hp h 62 = aI 0 8 f → hp h 63 = aI 0 10 g → i 1 = (l.length : Int) → a * 10 ^ r ≤ 1000000 →
    ∃ (h' : PH) (j : Nat → Int), chg ow [1, 7] h h' ∧ HoP ow h' ca c sky e ∧ hp h' 61 = toO j ∧ hp h' 62 = aI 0 8 f ∧ hp h' 63 = aI 0 10 g ∧ j 2 = i 2 + a * lotF c sky (upF c) (mvs c (l.drop lev)) s ∧ j 3 = i 3 + a * lotF c sky (stF c) (mvs c (l.drop lev)) s ∧ (∀ k, k ≠ 2 → k ≠ 3 → j k = i k) ∧ ∀ d Q, WP (d + 10 + r) 109 0 [some (vr 61), some (vr 27), some (vi (encC c s)), some (vi lev), some (vi ((a * 10 ^ r : Nat) : Int)), none, none, none] [] h Q = Q none h'
theorem settle_H {ow : Nat → Nat} {h : PH} {ca : Nat} {c : KC} {sky e : Nat} {f g : Int → Int} {j : Nat → Int} (hF : owF ow h) (hH : HoP ow h ca c sky e) (v2 : hp h 62 = aI 0 8 f) (v3 : hp h 63 = aI 0 10 g) : chg ow [1, 7] h (hup h 61 (toO j)) ∧ HoP ow (hup h 61 (toO j)) ca c sky e ∧ hp (hup h 61 (toO j)) 61 = toO j ∧ hp (hup h 61 (toO j)) 62 = aI 0 8 f ∧ hp (hup h 61 (toO j)) 63 = aI 0 10 g := by
  obtain ⟨t1, t2, t3⟩ := tg_to hF
  have hch : chg ow [7] h (hup h 61 (toO j)) := chg_up t1 (by decide)
  exact ⟨chg_w hch (by decide), HoP_c hF hch (by decide) (by decide) hH, hp_up1, by rw [hp_upn (by omega)]; exact v2, by rw [hp_upn (by omega)]; exact v3⟩
theorem wg_0 {ow : Nat → Nat} {ca : Nat} {c : KC} {sky e : Nat} {l : List Int} {f g : Int → Int} (hl : l.length ≤ 8) : wgC ow ca c sky e l f g 0 := by
  intro lev h i s a hlev hs hF hH v1 v2 v3 v4 ha
  have el : lev = l.length := by omega
  subst el
  obtain ⟨hKC⟩ : Nonempty (KCty ow h ca c) := by obtain ⟨_, _, _, _, _, _, _, _, _, _, a9⟩ := hH; exact ⟨a9⟩
  obtain ⟨y4, y5, y6, y7, y8, y9, y10, y11, y14, y15, y17, hA⟩ := KCty_sz hKC
  obtain ⟨iy, h27⟩ : ∃ i, hp h 27 = hoO i (vr ca) := by obtain ⟨i, A, a1, _⟩ := hH; exact ⟨i, a1⟩
  rw [Nat.pow_zero, Nat.mul_one] at ha
  obtain ⟨j, j1, j2, j3, j4⟩ := To_settle (W := a) hKC.2.1.1 hKC.1 hs v1 ha
  obtain ⟨s1, s2, s3, s4, s5⟩ := settle_H (j := j) hF hH v2 v3
  rw [List.drop_eq_nil_of_le (Nat.le_refl _)]
  refine ⟨_, j, s1, s2, s3, s4, s5, j1, j2, j3, fun d Q => ?_⟩
  rw [Nat.pow_zero, Nat.mul_one]
  have j4' := fun (d : Nat) (Q : PQ) => j4 d Q
  simp (disch := omega) only [e_109_0, e_109_1, e_109_2, e_109_5, e_109_19, e_109_20, e_109_21, e_109_24, e_109_25, e_109_27, e_109_30, v1, v4, h27, j4', true_and, toO_c, toO_g0, toO_k0, toO_g1, toO_k1, toO_s1, toO_g2, toO_k2, toO_s2, toO_g3, toO_k3, toO_s3, toO_g4, toO_k4, toO_s4, toO_g5, toO_k5, toO_g6, toO_k6, toO_s6, hoO_c, hoO_g0, hoO_k0, hoO_s0, hoO_g1, hoO_k1, hoO_s1, hoO_g2, hoO_k2, hoO_s2, hoO_g3, hoO_k3, hoO_g4, hoO_k4, hoO_g5, hoO_k5, hoO_g6, hoO_k6, hoO_g7, hoO_k7, hoO_g8, hoO_k8, hoO_g9, hoO_k9, hoO_s9, iup_s, iup_n, hp_up1, hp_upn, ne_eq, not_false_eq_true, sh_0, sh_1, sh_2, sh_3, sh_4, sh_5, sh_8, sh_15, sh_16, sh_24, Int.reducePow, Int.cast_ofNat_Int, w_of, wl_of, ltT, ltF, leT, leF, eqT, eqF, okF_0, okF_s, gF_0, gF_s, consC_o, sF_0, sF_s, clsO_o, inA_i, ldA_i, stA_i, inJ_l, ldJ_l, stJ_l, inR_r, ldR_r, stR_r, tgR_r, lenA_i, lenA_l, lenA_r, lenA_ex, nl_i, nl_o, nl_l, nl_n, wd_n, wd_i, wd_l, wd_o, fit_i, fit_l, fit_o, K_v, K_n, true_and, and_true, Nat.reduceAdd, Nat.reduceLeDiff, Nat.reduceEqDiff, Nat.reduceMul, Nat.reduceLT, reduceIte, true_or, or_true, cmp_lt, cmp_gt, cmp_eq, wb_0, b_01, cmp_lt', cmp_gt', cmp_eq', b_0, b_1, wb_1, Int.reduceSub, Int.reduceToNat, List.getD_cons_succ, List.getD_cons_zero, Int.reduceLE, Int.reduceLT, Int.reduceEq, Int.reduceNeg, Int.reduceAdd, Int.reduceMul, and_self, em_b, ne_eq, not_false_eq_true, not_true_eq_false]
  try rfl
theorem wg_pLp {ow : Nat → Nat} {ca : Nat} {c : KC} {sky e : Nat} {l : List Int} {f g : Int → Int} {r lev a : Nat} {y : ST} {x2 x4 : Int} (hO : okC c) (ih : wgC ow ca c sky e l f g r) (hlev : lev + (r + 1) = l.length) (hl : l.length ≤ 8) (hy : okS c y) (ha : a * 10 ^ r ≤ 1000000) :
    ∀ (q p : Nat) (h : PH) (i : Nat → Int), p + q = kN c → owF ow h → HoP ow h ca c sky e → hp h 61 = toO i → hp h 62 = aI 0 8 f → hp h 63 = aI 0 10 g → i 1 = (l.length : Int) →
    ∃ (h' : PH) (j : Nat → Int), chg ow [1, 7] h h' ∧ HoP ow h' ca c sky e ∧ hp h' 61 = toO j ∧ hp h' 62 = aI 0 8 f ∧ hp h' 63 = aI 0 10 g ∧ j 2 = i 2 + a * (sumP (fun p => lotF c sky (upF c) (mvs c (l.drop (lev + 1))) (weakS y p)) (kN c) - sumP (fun p => lotF c sky (upF c) (mvs c (l.drop (lev + 1))) (weakS y p)) p) ∧ j 3 = i 3 + a * (sumP (fun p => lotF c sky (stF c) (mvs c (l.drop (lev + 1))) (weakS y p)) (kN c) - sumP (fun p => lotF c sky (stF c) (mvs c (l.drop (lev + 1))) (weakS y p)) p) ∧ (∀ k, k ≠ 2 → k ≠ 3 → j k = i k) ∧ ∀ d Q, WP (d + 10 + r + 1) 109 110 [some (vr 61), some (vr 27), some (vi x2), some (vi lev), some (vi x4), some (vi (encC c y)), some (vi ((a * 10 ^ r : Nat) : Int)), some (vi p)] [] h Q = WP (d + 10 + r + 1) 109 149 [some (vr 61), some (vr 27), some (vi x2), some (vi lev), some (vi x4), some (vi (encC c y)), some (vi ((a * 10 ^ r : Nat) : Int)), some (vi (kN c))] [] h' Q := by
  have hK := hO.1
  have hN := hK.2.2
  intro q
  induction q with
  | zero =>
    intro p h i hp' hF hH v1 v2 v3 v4
    have ep : p = kN c := by omega
    subst ep
    obtain ⟨hKC⟩ : Nonempty (KCty ow h ca c) := by obtain ⟨_, _, _, _, _, _, _, _, _, _, a9⟩ := hH; exact ⟨a9⟩
    obtain ⟨y4, y5, y6, y7, y8, y9, y10, y11, y14, y15, y17, hA⟩ := KCty_sz hKC
    obtain ⟨iy, h27⟩ : ∃ i, hp h 27 = hoO i (vr ca) := by obtain ⟨i, A, a1, _⟩ := hH; exact ⟨i, a1⟩
    refine ⟨h, i, chg_r, hH, v1, v2, v3, by rw [Int.sub_self, Int.mul_zero, Int.add_zero], by rw [Int.sub_self, Int.mul_zero, Int.add_zero], fun _ _ _ => rfl, fun d Q => ?_⟩
    rw [e_109_110]
    simp (disch := omega) only [e_109_112, e_109_113, e_109_116, e_109_119, h27, hA, true_and, toO_c, toO_g0, toO_k0, toO_g1, toO_k1, toO_s1, toO_g2, toO_k2, toO_s2, toO_g3, toO_k3, toO_s3, toO_g4, toO_k4, toO_s4, toO_g5, toO_k5, toO_g6, toO_k6, toO_s6, hoO_c, hoO_g0, hoO_k0, hoO_s0, hoO_g1, hoO_k1, hoO_s1, hoO_g2, hoO_k2, hoO_s2, hoO_g3, hoO_k3, hoO_g4, hoO_k4, hoO_g5, hoO_k5, hoO_g6, hoO_k6, hoO_g7, hoO_k7, hoO_g8, hoO_k8, hoO_g9, hoO_k9, hoO_s9, iup_s, iup_n, hp_up1, hp_upn, ne_eq, not_false_eq_true, sh_0, sh_1, sh_2, sh_3, sh_4, sh_5, sh_8, sh_15, sh_16, sh_24, Int.reducePow, Int.cast_ofNat_Int, w_of, wl_of, ltT, ltF, leT, leF, eqT, eqF, okF_0, okF_s, gF_0, gF_s, consC_o, sF_0, sF_s, clsO_o, inA_i, ldA_i, stA_i, inJ_l, ldJ_l, stJ_l, inR_r, ldR_r, stR_r, tgR_r, lenA_i, lenA_l, lenA_r, lenA_ex, nl_i, nl_o, nl_l, nl_n, wd_n, wd_i, wd_l, wd_o, fit_i, fit_l, fit_o, K_v, K_n, true_and, and_true, Nat.reduceAdd, Nat.reduceLeDiff, Nat.reduceEqDiff, Nat.reduceMul, Nat.reduceLT, reduceIte, true_or, or_true, cmp_lt, cmp_gt, cmp_eq, wb_0, b_01, cmp_lt', cmp_gt', cmp_eq', b_0, b_1, wb_1, Int.reduceSub, Int.reduceToNat, List.getD_cons_succ, List.getD_cons_zero, Int.reduceLE, Int.reduceLT, Int.reduceEq, Int.reduceNeg, Int.reduceAdd, Int.reduceMul, and_self, em_b, ne_eq, not_false_eq_true, not_true_eq_false]
    try rfl
  | succ q ihq =>
    intro p h i hp' hF hH v1 v2 v3 v4
    obtain ⟨hKC⟩ : Nonempty (KCty ow h ca c) := by obtain ⟨_, _, _, _, _, _, _, _, _, _, a9⟩ := hH; exact ⟨a9⟩
    obtain ⟨y4, y5, y6, y7, y8, y9, y10, y11, y14, y15, y17, hA⟩ := KCty_sz hKC
    obtain ⟨iy, h27⟩ : ∃ i, hp h 27 = hoO i (vr ca) := by obtain ⟨i, A, a1, _⟩ := hH; exact ⟨i, a1⟩
    have hwo := weakS_ok (p := p) hy (by omega)
    have wk := fun (d : Nat) (Q : PQ) => c_weakened (d := d) (Q := Q) (p := p) hK hKC.1 hy (by omega)
    obtain ⟨h1, i1, b1, b2, b3, b4, b5, b6, b7, b8, b9⟩ := ih (lev + 1) h i (weakS y p) a (by omega) hwo hF hH v1 v2 v3 v4 ha
    obtain ⟨h', j, c1, c2, c3, c4, c5, c6, c7, c8, c9⟩ := ihq (p + 1) h1 i1 (by omega) (chg_F b1 hF) b2 b3 b4 b5 (by rw [b8 1 (by omega) (by omega)]; exact v4)
    refine ⟨h', j, chg_t b1 c1, c2, c3, c4, c5, ?_, ?_, fun k h1 h2 => by rw [c8 k h1 h2, b8 k h1 h2], fun d Q => ?_⟩
    · rw [c6, b6]
      have e : sumP (fun p => lotF c sky (upF c) (mvs c (l.drop (lev + 1))) (weakS y p)) (p + 1) = sumP (fun p => lotF c sky (upF c) (mvs c (l.drop (lev + 1))) (weakS y p)) p + lotF c sky (upF c) (mvs c (l.drop (lev + 1))) (weakS y p) := rfl
      rw [e, Int.mul_sub, Int.mul_sub, Int.mul_add]
      omega
    · rw [c7, b7]
      have e : sumP (fun p => lotF c sky (stF c) (mvs c (l.drop (lev + 1))) (weakS y p)) (p + 1) = sumP (fun p => lotF c sky (stF c) (mvs c (l.drop (lev + 1))) (weakS y p)) p + lotF c sky (stF c) (mvs c (l.drop (lev + 1))) (weakS y p) := rfl
      rw [e, Int.mul_sub, Int.mul_sub, Int.mul_add]
      omega
    · rw [← c9 d Q]
      have b9' := fun (Q : PQ) => b9 d Q
      have ep : (p : Int) + 1 = ((p + 1 : Nat) : Int) := by omega
      have el : (lev : Int) + 1 = ((lev + 1 : Nat) : Int) := by omega
      have wk' := fun (Q : PQ) => wk (d + 8 + r) Q
      rw [show d + 10 + r + 1 = d + 8 + r + 1 + 1 + 1 by omega]
      rw [show d + 10 + r = d + 8 + r + 1 + 1 by omega] at b9'
      have wk2 := fun (Q : PQ) => wk (d + 8 + r + 1) Q
      rw [e_109_110]
      simp (disch := omega) only [e_109_112, e_109_113, e_109_116, e_109_119, e_109_122, e_109_123, e_109_124, e_109_125, e_109_128, e_109_130, e_109_132, e_109_135, e_109_136, e_109_137, e_109_138, e_109_140, e_109_143, e_109_146, h27, hA, v1, wk2, b9', ep, el, true_and, toO_c, toO_g0, toO_k0, toO_g1, toO_k1, toO_s1, toO_g2, toO_k2, toO_s2, toO_g3, toO_k3, toO_s3, toO_g4, toO_k4, toO_s4, toO_g5, toO_k5, toO_g6, toO_k6, toO_s6, hoO_c, hoO_g0, hoO_k0, hoO_s0, hoO_g1, hoO_k1, hoO_s1, hoO_g2, hoO_k2, hoO_s2, hoO_g3, hoO_k3, hoO_g4, hoO_k4, hoO_g5, hoO_k5, hoO_g6, hoO_k6, hoO_g7, hoO_k7, hoO_g8, hoO_k8, hoO_g9, hoO_k9, hoO_s9, iup_s, iup_n, hp_up1, hp_upn, ne_eq, not_false_eq_true, sh_0, sh_1, sh_2, sh_3, sh_4, sh_5, sh_8, sh_15, sh_16, sh_24, Int.reducePow, Int.cast_ofNat_Int, w_of, wl_of, ltT, ltF, leT, leF, eqT, eqF, okF_0, okF_s, gF_0, gF_s, consC_o, sF_0, sF_s, clsO_o, inA_i, ldA_i, stA_i, inJ_l, ldJ_l, stJ_l, inR_r, ldR_r, stR_r, tgR_r, lenA_i, lenA_l, lenA_r, lenA_ex, nl_i, nl_o, nl_l, nl_n, wd_n, wd_i, wd_l, wd_o, fit_i, fit_l, fit_o, K_v, K_n, true_and, and_true, Nat.reduceAdd, Nat.reduceLeDiff, Nat.reduceEqDiff, Nat.reduceMul, Nat.reduceLT, reduceIte, true_or, or_true, cmp_lt, cmp_gt, cmp_eq, wb_0, b_01, cmp_lt', cmp_gt', cmp_eq', b_0, b_1, wb_1, Int.reduceSub, Int.reduceToNat, List.getD_cons_succ, List.getD_cons_zero, Int.reduceLE, Int.reduceLT, Int.reduceEq, Int.reduceNeg, Int.reduceAdd, Int.reduceMul, and_self, em_b, ne_eq, not_false_eq_true, not_true_eq_false]
      try rfl
theorem lot_cons {c : KC} {sky : Nat} {F : ST → Int} {m : Nat} {r : List Nat} {s : ST} : lotF c sky F (m :: r) s = if downB c s then F s * 10 ^ (r.length + 1) else if downB c (hrT c sky s m) then F (hrT c sky s m) * 10 ^ (r.length + 1) else sumP (fun p => lotF c sky F r (weakS (hrT c sky s m) p)) (kN c) + (10 - (kN c : Int)) * lotF c sky F r (hrT c sky s m) := rfl
