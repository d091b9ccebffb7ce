/-! THE CLASS: lots, weigh and its answers -/
theorem mvs_drop {c : KC} {l : List Int} {lev : Nat} {x : Int} (h : l[lev]? = some x) : mvs c (l.drop lev) = (moveD c x).getD 0 :: mvs c (l.drop (lev + 1)) := by
  rw [drop_at h]; rfl
theorem mvs_len {c : KC} {l : List Int} : (mvs c l).length = l.length := by unfold mvs; rw [List.length_map]
theorem wg_s {ow : Nat → Nat} {ca : Nat} {c : KC} {sky e : Nat} {l : List Int} {f g : Int → Int} {r : Nat} (hO : okC c) (hl : l.length ≤ 8) (hf : ∀ k, k < l.length → f k = l.getD k 0) (hlo : ∀ x, x ∈ l → lotOK c x = true) (ih : wgC ow ca c sky e l f g r) : wgC ow ca c sky e l f g (r + 1) := by
  have hK := hO.1
  have hN := hK.2.2
  have h24 := szC_le hK
  intro lev h i s a hlev hs hF hH v1 v2 v3 v4 ha
  obtain ⟨hKC⟩ : Nonempty (KCty ow h ca c) := by obtain ⟨_, _, _, _, _, _, _, _, _, _, a9⟩ := hH; exact ⟨a9⟩
  obtain ⟨y4, y5, y6, y7, y8, y9, y10, y11, y14, y15, y17, hA⟩ := KCty_sz hKC
  obtain ⟨iy, h27⟩ : ∃ i, hp h 27 = hoO i (vr ca) := by obtain ⟨i, A, a1, _⟩ := hH; exact ⟨i, a1⟩
  have dn := fun (d : Nat) (Q : PQ) => c_isDown (d := d) (Q := Q) hK hKC.1 hs
  have hx : l[lev]? = some l[lev] := List.getElem?_eq_getElem (by omega)
  have hgd := getD_some (d := (0 : Int)) hx
  have hfx := hf lev (by omega)
  have hxo := hlo l[lev] (List.getElem_mem (by omega))
  rw [hgd] at hfx
  generalize l[lev] = x at hx hfx hxo
  obtain ⟨m, hm⟩ : ∃ m, moveD c x = some m := Option.isSome_iff_exists.mp hxo
  obtain ⟨m1, m2, m3⟩ := moveD_some hK hm
  have hdl := (deedM_lt hK m1).2
  have hx64 : i64 x := ⟨by omega, by omega⟩
  have hmv := mvs_drop (c := c) hx
  rw [hm, show ((some m : Option Nat).getD 0) = m from rfl] at hmv
  have hml : (mvs c (l.drop (lev + 1))).length = r := by rw [mvs_len, List.length_drop]; omega
  have eW : a * 10 ^ (r + 1) = 10 * (a * 10 ^ r) := by rw [Nat.pow_succ, ← Nat.mul_assoc, Nat.mul_comm]
  have eWi : ∀ z : Int, (a : Int) * (z * 10 ^ (r + 1)) = ((a * 10 ^ (r + 1) : Nat) : Int) * z := fun z => by
    rw [Int.natCast_mul, Int.natCast_pow, Int.mul_comm z, ← Int.mul_assoc]; rfl
  by_cases hd : downB c s = true
  · simp only [hd, if_true] at dn
    obtain ⟨j, j1, j2, j3, j4⟩ := To_settle (W := a * 10 ^ (r + 1)) hK hKC.1 hs v1 ha
    obtain ⟨s1, s2, s3, s4, s5⟩ := settle_H (j := j) hF hH v2 v3
    refine ⟨_, j, s1, s2, s3, s4, s5, ?_, ?_, j3, fun d Q => ?_⟩
    · rw [j1, hmv, lot_cons, if_pos hd, hml, eWi]
    · rw [j2, hmv, lot_cons, if_pos hd, hml, eWi]
    · have j4' := fun (d : Nat) (Q : PQ) => j4 d Q
      rw [show d + 10 + (r + 1) = d + 8 + r + 1 + 1 + 1 by omega]
      have dn' := fun (Q : PQ) => dn (d + 8 + r + 1) Q
      have j5 := fun (Q : PQ) => j4 (d + 8 + r) Q
      simp (disch := omega) only [e_109_0, e_109_1, e_109_2, e_109_5, e_109_8, e_109_9, e_109_12, e_109_13, e_109_16, e_109_19, e_109_20, e_109_21, e_109_24, e_109_25, e_109_27, e_109_30, v1, v4, h27, hA, dn', j5, true_and, toO_c, toO_g0, toO_k0, toO_g1, toO_k1, toO_s1, toO_g2, toO_k2, toO_s2, toO_g3, toO_k3, toO_s3, toO_g4, toO_k4, toO_s4, toO_g5, toO_k5, toO_g6, toO_k6, toO_s6, hoO_c, hoO_g0, hoO_k0, hoO_s0, hoO_g1, hoO_k1, hoO_s1, hoO_g2, hoO_k2, hoO_s2, hoO_g3, hoO_k3, hoO_g4, hoO_k4, hoO_g5, hoO_k5, hoO_g6, hoO_k6, hoO_g7, hoO_k7, hoO_g8, hoO_k8, hoO_g9, hoO_k9, hoO_s9, iup_s, iup_n, hp_up1, hp_upn, ne_eq, not_false_eq_true, sh_0, sh_1, sh_2, sh_3, sh_4, sh_5, sh_8, sh_15, sh_16, sh_24, Int.reducePow, Int.cast_ofNat_Int, w_of, wl_of, ltT, ltF, leT, leF, eqT, eqF, okF_0, okF_s, gF_0, gF_s, consC_o, sF_0, sF_s, clsO_o, inA_i, ldA_i, stA_i, inJ_l, ldJ_l, stJ_l, inR_r, ldR_r, stR_r, tgR_r, lenA_i, lenA_l, lenA_r, lenA_ex, nl_i, nl_o, nl_l, nl_n, wd_n, wd_i, wd_l, wd_o, fit_i, fit_l, fit_o, K_v, K_n, true_and, and_true, Nat.reduceAdd, Nat.reduceLeDiff, Nat.reduceEqDiff, Nat.reduceMul, Nat.reduceLT, reduceIte, true_or, or_true, cmp_lt, cmp_gt, cmp_eq, wb_0, b_01, cmp_lt', cmp_gt', cmp_eq', b_0, b_1, wb_1, Int.reduceSub, Int.reduceToNat, List.getD_cons_succ, List.getD_cons_zero, Int.reduceLE, Int.reduceLT, Int.reduceEq, Int.reduceNeg, Int.reduceAdd, Int.reduceMul, and_self, em_b, ne_eq, not_false_eq_true, not_true_eq_false]
      try rfl
  · have hd' : downB c s = false := by simpa using hd
    simp only [hd', if_false, Bool.false_eq_true] at dn
    have hbo := hrT_ok (sky := sky) (m := m) hs m1
    have hbl := encC_lt hK hbo
    -- the stand behind the hour
    obtain ⟨h1, b1, b2, b3⟩ : ∃ h1, chg ow [1] h h1 ∧ HoP ow h1 ca c sky e ∧ ∀ d Q, WP (d + 10 + (r + 1)) 109 0 [some (vr 61), some (vr 27), some (vi (encC c s)), some (vi lev), some (vi ((a * 10 ^ (r + 1) : Nat) : Int)), none, none, none] [] h Q = WP (d + 10 + (r + 1)) 109 59 [some (vr 61), some (vr 27), some (vi (encC c s)), some (vi lev), some (vi ((a * 10 ^ (r + 1) : Nat) : Int)), some (vi (encC c (hrT c sky s m))), none, none] [] h1 Q := by
      obtain ⟨g1, a1, a2, a3⟩ := H_after (x := x) hF hH hs hx64
      have ea : afterO c sky s x = if canM c sky s m then some (toM c sky s m) else none := by unfold afterO; rw [hm]
      rw [ea] at a3
      by_cases hc : canM c sky s m = true
      · have hw0 : whyM c sky s m = 0 := by
          unfold canM at hc
          rw [m1, Bool.true_and] at hc
          exact of_decide_eq_true hc
        have eh : hrT c sky s m = toM c sky s m := by unfold hrT; rw [if_pos hw0]
        rw [eh] at hbl ⊢
        simp only [hc, if_true, encO] at a3
        refine ⟨g1, a1, a2, fun d Q => ?_⟩
        rw [show d + 10 + (r + 1) = d + r + 1 + 9 + 1 by omega]
        have a3' := fun (Q : PQ) => a3 (d + r + 1) Q
        have dn' := fun (Q : PQ) => dn (d + r + 1 + 8) Q
        simp (disch := omega) only [e_109_0, e_109_1, e_109_2, e_109_5, e_109_8, e_109_9, e_109_12, e_109_13, e_109_16, e_109_31, e_109_32, e_109_33, e_109_34, e_109_37, e_109_38, e_109_39, e_109_40, e_109_43, e_109_45, e_109_47, e_109_48, v1, v2, v4, h27, hA, hfx, dn', a3', true_and, toO_c, toO_g0, toO_k0, toO_g1, toO_k1, toO_s1, toO_g2, toO_k2, toO_s2, toO_g3, toO_k3, toO_s3, toO_g4, toO_k4, toO_s4, toO_g5, toO_k5, toO_g6, toO_k6, toO_s6, hoO_c, hoO_g0, hoO_k0, hoO_s0, hoO_g1, hoO_k1, hoO_s1, hoO_g2, hoO_k2, hoO_s2, hoO_g3, hoO_k3, hoO_g4, hoO_k4, hoO_g5, hoO_k5, hoO_g6, hoO_k6, hoO_g7, hoO_k7, hoO_g8, hoO_k8, hoO_g9, hoO_k9, hoO_s9, iup_s, iup_n, hp_up1, hp_upn, ne_eq, not_false_eq_true, sh_0, sh_1, sh_2, sh_3, sh_4, sh_5, sh_8, sh_15, sh_16, sh_24, Int.reducePow, Int.cast_ofNat_Int, w_of, wl_of, ltT, ltF, leT, leF, eqT, eqF, okF_0, okF_s, gF_0, gF_s, consC_o, sF_0, sF_s, clsO_o, inA_i, ldA_i, stA_i, inJ_l, ldJ_l, stJ_l, inR_r, ldR_r, stR_r, tgR_r, lenA_i, lenA_l, lenA_r, lenA_ex, nl_i, nl_o, nl_l, nl_n, wd_n, wd_i, wd_l, wd_o, fit_i, fit_l, fit_o, K_v, K_n, true_and, and_true, Nat.reduceAdd, Nat.reduceLeDiff, Nat.reduceEqDiff, Nat.reduceMul, Nat.reduceLT, reduceIte, true_or, or_true, cmp_lt, cmp_gt, cmp_eq, wb_0, b_01, cmp_lt', cmp_gt', cmp_eq', b_0, b_1, wb_1, Int.reduceSub, Int.reduceToNat, List.getD_cons_succ, List.getD_cons_zero, Int.reduceLE, Int.reduceLT, Int.reduceEq, Int.reduceNeg, Int.reduceAdd, Int.reduceMul, and_self, em_b, ne_eq, not_false_eq_true, not_true_eq_false]
        try rfl
      · have hw0 : ¬ whyM c sky s m = 0 := fun z => hc (by unfold canM; rw [m1, z]; rfl)
        have eh : hrT c sky s m = toM c sky s 0 := by unfold hrT; rw [if_neg hw0]
        rw [eh] at hbl ⊢
        simp only [hc, if_false, encO, Bool.false_eq_true] at a3
        obtain ⟨g2, q1, q2, q3⟩ := H_after (x := 0) (chg_F a1 hF) a2 hs ⟨by omega, by omega⟩
        rw [after_0, if_neg hd] at q3
        simp only [encO] at q3
        refine ⟨g2, chg_t a1 q1, q2, fun d Q => ?_⟩
        rw [show d + 10 + (r + 1) = d + r + 1 + 9 + 1 by omega]
        have a3' := fun (Q : PQ) => a3 (d + r + 1) Q
        have q3' := fun (Q : PQ) => q3 (d + r + 1) Q
        have dn' := fun (Q : PQ) => dn (d + r + 1 + 8) Q
        obtain ⟨iz, g27⟩ : ∃ i, hp g1 27 = hoO i (vr ca) := by obtain ⟨i, A, a1, _⟩ := a2; exact ⟨i, a1⟩
        simp (disch := omega) only [e_109_0, e_109_1, e_109_2, e_109_5, e_109_8, e_109_9, e_109_12, e_109_13, e_109_16, e_109_31, e_109_32, e_109_33, e_109_34, e_109_37, e_109_38, e_109_39, e_109_40, e_109_43, e_109_45, e_109_47, e_109_48, e_109_51, e_109_52, e_109_53, e_109_54, e_109_57, v1, v2, v4, h27, g27, hA, hfx, dn', a3', q3', true_and, toO_c, toO_g0, toO_k0, toO_g1, toO_k1, toO_s1, toO_g2, toO_k2, toO_s2, toO_g3, toO_k3, toO_s3, toO_g4, toO_k4, toO_s4, toO_g5, toO_k5, toO_g6, toO_k6, toO_s6, hoO_c, hoO_g0, hoO_k0, hoO_s0, hoO_g1, hoO_k1, hoO_s1, hoO_g2, hoO_k2, hoO_s2, hoO_g3, hoO_k3, hoO_g4, hoO_k4, hoO_g5, hoO_k5, hoO_g6, hoO_k6, hoO_g7, hoO_k7, hoO_g8, hoO_k8, hoO_g9, hoO_k9, hoO_s9, iup_s, iup_n, hp_up1, hp_upn, ne_eq, not_false_eq_true, sh_0, sh_1, sh_2, sh_3, sh_4, sh_5, sh_8, sh_15, sh_16, sh_24, Int.reducePow, Int.cast_ofNat_Int, w_of, wl_of, ltT, ltF, leT, leF, eqT, eqF, okF_0, okF_s, gF_0, gF_s, consC_o, sF_0, sF_s, clsO_o, inA_i, ldA_i, stA_i, inJ_l, ldJ_l, stJ_l, inR_r, ldR_r, stR_r, tgR_r, lenA_i, lenA_l, lenA_r, lenA_ex, nl_i, nl_o, nl_l, nl_n, wd_n, wd_i, wd_l, wd_o, fit_i, fit_l, fit_o, K_v, K_n, true_and, and_true, Nat.reduceAdd, Nat.reduceLeDiff, Nat.reduceEqDiff, Nat.reduceMul, Nat.reduceLT, reduceIte, true_or, or_true, cmp_lt, cmp_gt, cmp_eq, wb_0, b_01, cmp_lt', cmp_gt', cmp_eq', b_0, b_1, wb_1, Int.reduceSub, Int.reduceToNat, List.getD_cons_succ, List.getD_cons_zero, Int.reduceLE, Int.reduceLT, Int.reduceEq, Int.reduceNeg, Int.reduceAdd, Int.reduceMul, and_self, em_b, ne_eq, not_false_eq_true, not_true_eq_false]
        try rfl
    have hF1 := chg_F b1 hF
    obtain ⟨t1, t2, t3⟩ := tg_to hF
    have e61 : hp h1 61 = toO i := by rw [chg_at b1 t1 (by decide)]; exact v1
    have e62 : hp h1 62 = aI 0 8 f := by rw [chg_at b1 t2 (by decide)]; exact v2
    have e63 : hp h1 63 = aI 0 10 g := by rw [chg_at b1 t3 (by decide)]; exact v3
    obtain ⟨hKC1⟩ : Nonempty (KCty ow h1 ca c) := by obtain ⟨_, _, _, _, _, _, _, _, _, _, a9⟩ := b2; exact ⟨a9⟩
    obtain ⟨z4, z5, z6, z7, z8, z9, z10, z11, z14, z15, z17, hA1⟩ := KCty_sz hKC1
    obtain ⟨iz, g27⟩ : ∃ i, hp h1 27 = hoO i (vr ca) := by obtain ⟨i, A, a1, _⟩ := b2; exact ⟨i, a1⟩
    have dn1 := fun (d : Nat) (Q : PQ) => c_isDown (d := d) (Q := Q) hK hKC1.1 hbo
    generalize hyy : hrT c sky s m = y at *
    rw [hmv]
    by_cases hdy : downB c y = true
    · simp only [hdy, if_true] at dn1
      obtain ⟨j, j1, j2, j3, j4⟩ := To_settle (W := a * 10 ^ (r + 1)) hK hKC1.1 hbo e61 ha
      obtain ⟨s1, s2, s3, s4, s5⟩ := settle_H (j := j) hF1 b2 e62 e63
      refine ⟨_, j, chg_t (chg_w b1 (by decide)) s1, s2, s3, s4, s5, ?_, ?_, j3, fun d Q => ?_⟩
      · rw [j1, lot_cons, if_neg hd, hyy, if_pos hdy, hml, eWi]
      · rw [j2, lot_cons, if_neg hd, hyy, if_pos hdy, hml, eWi]
      · rw [b3 d Q]
        rw [show d + 10 + (r + 1) = d + 8 + r + 1 + 1 + 1 by omega]
        have dn' := fun (Q : PQ) => dn1 (d + 8 + r + 1) Q
        have j5 := fun (Q : PQ) => j4 (d + 8 + r) Q
        simp (disch := omega) only [e_109_59, e_109_61, e_109_62, e_109_65, e_109_66, e_109_69, e_109_71, e_109_74, e_109_77, e_109_78, e_109_79, e_109_82, e_109_84, e_109_85, e_109_88, e_109_89, e_109_92, e_109_94, e_109_96, e_109_99, e61, g27, hA1, dn', j5, true_and, toO_c, toO_g0, toO_k0, toO_g1, toO_k1, toO_s1, toO_g2, toO_k2, toO_s2, toO_g3, toO_k3, toO_s3, toO_g4, toO_k4, toO_s4, toO_g5, toO_k5, toO_g6, toO_k6, toO_s6, hoO_c, hoO_g0, hoO_k0, hoO_s0, hoO_g1, hoO_k1, hoO_s1, hoO_g2, hoO_k2, hoO_s2, hoO_g3, hoO_k3, hoO_g4, hoO_k4, hoO_g5, hoO_k5, hoO_g6, hoO_k6, hoO_g7, hoO_k7, hoO_g8, hoO_k8, hoO_g9, hoO_k9, hoO_s9, iup_s, iup_n, hp_up1, hp_upn, ne_eq, not_false_eq_true, sh_0, sh_1, sh_2, sh_3, sh_4, sh_5, sh_8, sh_15, sh_16, sh_24, Int.reducePow, Int.cast_ofNat_Int, w_of, wl_of, ltT, ltF, leT, leF, eqT, eqF, okF_0, okF_s, gF_0, gF_s, consC_o, sF_0, sF_s, clsO_o, inA_i, ldA_i, stA_i, inJ_l, ldJ_l, stJ_l, inR_r, ldR_r, stR_r, tgR_r, lenA_i, lenA_l, lenA_r, lenA_ex, nl_i, nl_o, nl_l, nl_n, wd_n, wd_i, wd_l, wd_o, fit_i, fit_l, fit_o, K_v, K_n, true_and, and_true, Nat.reduceAdd, Nat.reduceLeDiff, Nat.reduceEqDiff, Nat.reduceMul, Nat.reduceLT, reduceIte, true_or, or_true, cmp_lt, cmp_gt, cmp_eq, wb_0, b_01, cmp_lt', cmp_gt', cmp_eq', b_0, b_1, wb_1, Int.reduceSub, Int.reduceToNat, List.getD_cons_succ, List.getD_cons_zero, Int.reduceLE, Int.reduceLT, Int.reduceEq, Int.reduceNeg, Int.reduceAdd, Int.reduceMul, and_self, em_b, ne_eq, not_false_eq_true, not_true_eq_false]
        try rfl
    · simp only [hdy, if_false, Bool.false_eq_true] at dn1
      have halo : a * 10 ^ r ≤ 1000000 := by omega
      obtain ⟨h2, i2, p1, p2, p3, p4, p5, p6, p7, p8, p9⟩ := wg_pLp (x2 := (encC c s : Int)) (x4 := ((a * 10 ^ (r + 1) : Nat) : Int)) hO ih hlev hl hbo halo (kN c) 0 h1 i (by omega) hF1 b2 e61 e62 e63 v4
      have hF2 := chg_F p1 hF1
      have ha2 : (10 - kN c) * a * 10 ^ r ≤ 1000000 := by
        have : (10 - kN c) * (a * 10 ^ r) ≤ 10 * (a * 10 ^ r) := Nat.mul_le_mul_right _ (by omega)
        rw [Nat.mul_assoc]; omega
      obtain ⟨h3, j, c1, c2, c3, c4, c5, c6, c7, c8, c9⟩ := ih (lev + 1) h2 i2 y ((10 - kN c) * a) (by omega) hbo hF2 p2 p3 p4 p5 (by rw [p8 1 (by omega) (by omega)]; exact v4) ha2
      have ecast : (((10 - kN c) * a : Nat) : Int) = (10 - (kN c : Int)) * (a : Int) := by
        rw [Int.natCast_mul]
        congr 1
        omega
      have fin : ∀ (F : ST → Int), a * (sumP (fun p => lotF c sky F (mvs c (l.drop (lev + 1))) (weakS y p)) (kN c) - sumP (fun p => lotF c sky F (mvs c (l.drop (lev + 1))) (weakS y p)) 0) + (((10 - kN c) * a : Nat) : Int) * lotF c sky F (mvs c (l.drop (lev + 1))) y = a * lotF c sky F (m :: mvs c (l.drop (lev + 1))) s := fun F => by
        rw [lot_cons, if_neg hd, hyy, if_neg hdy, ecast, show sumP (fun p => lotF c sky F (mvs c (l.drop (lev + 1))) (weakS y p)) 0 = 0 from rfl, Int.sub_zero, Int.mul_add, Int.mul_comm (10 - (kN c : Int)) (a : Int), Int.mul_assoc]
      refine ⟨h3, j, chg_t (chg_w b1 (by decide)) (chg_t p1 c1), c2, c3, c4, c5, ?_, ?_, fun k h1 h2 => by rw [c8 k h1 h2, p8 k h1 h2], fun d Q => ?_⟩
      · rw [c6, p6, Int.add_assoc, fin]
      · rw [c7, p7, Int.add_assoc, fin]
      · rw [b3 d Q]
        have p9' := p9 d Q
        rw [nc0] at p9'
        have c9' := fun (Q : PQ) => c9 d Q
        have el : (lev : Int) + 1 = ((lev + 1 : Nat) : Int) := by omega
        have elot : ((a * 10 ^ (r + 1) : Nat) : Int).tdiv 10 = ((a * 10 ^ r : Nat) : Int) := by
          rw [Int.tdiv_eq_ediv_of_nonneg (by omega)]; omega
        have erest : ((a * 10 ^ (r + 1) : Nat) : Int) - ((a * 10 ^ r : Nat) : Int) * (kN c : Int) = (((10 - kN c) * a * 10 ^ r : Nat) : Int) := by
          have e1 : (10 - kN c) * a * 10 ^ r = 10 * (a * 10 ^ r) - kN c * (a * 10 ^ r) := by rw [Nat.mul_assoc, Nat.mul_sub_right_distrib]
          have e2 : kN c * (a * 10 ^ r) ≤ 10 * (a * 10 ^ r) := Nat.mul_le_mul_right _ (by omega)
          rw [e1, eW, Int.ofNat_sub e2, Int.natCast_mul (kN c), Int.mul_comm]
        have hKC2 : KCty ow h2 ca c := KCty_c p1 (by decide) hKC1
        obtain ⟨w4, w5, w6, w7, w8, w9, w10, w11, w14, w15, w17, hA2⟩ := KCty_sz hKC2
        obtain ⟨iw, k27⟩ : ∃ i, hp h2 27 = hoO i (vr ca) := by obtain ⟨i, A, a1, _⟩ := p2; exact ⟨i, a1⟩
        rw [show d + 10 + (r + 1) = d + 8 + r + 1 + 1 + 1 by omega]
        rw [show d + 10 + r + 1 = d + 8 + r + 1 + 1 + 1 by omega] at p9'
        rw [show d + 10 + r = d + 8 + r + 1 + 1 by omega] at c9'
        have dn' := fun (Q : PQ) => dn1 (d + 8 + r + 1) Q
        generalize hWW : a * 10 ^ (r + 1) = WW at *
        generalize hlot : a * 10 ^ r = lot at *
        generalize hrst : (10 - kN c) * a * 10 ^ r = rst at *
        simp (disch := omega) only [e_109_59, e_109_61, e_109_62, e_109_65, e_109_66, e_109_69, e_109_71, e_109_74, e_109_100, e_109_102, e_109_104, e_109_105, e_109_107, e_109_108, e_109_149, e_109_150, e_109_151, e_109_153, e_109_154, e_109_155, e_109_156, e_109_158, e_109_160, e_109_161, e_109_164, e_109_167, e_109_168, e_109_169, e_109_172, e61, g27, hA1, hA2, k27, p3, dn', elot, p9', el, erest, c9', true_and, toO_c, toO_g0, toO_k0, toO_g1, toO_k1, toO_s1, toO_g2, toO_k2, toO_s2, toO_g3, toO_k3, toO_s3, toO_g4, toO_k4, toO_s4, toO_g5, toO_k5, toO_g6, toO_k6, toO_s6, hoO_c, hoO_g0, hoO_k0, hoO_s0, hoO_g1, hoO_k1, hoO_s1, hoO_g2, hoO_k2, hoO_s2, hoO_g3, hoO_k3, hoO_g4, hoO_k4, hoO_g5, hoO_k5, hoO_g6, hoO_k6, hoO_g7, hoO_k7, hoO_g8, hoO_k8, hoO_g9, hoO_k9, hoO_s9, iup_s, iup_n, hp_up1, hp_upn, ne_eq, not_false_eq_true, sh_0, sh_1, sh_2, sh_3, sh_4, sh_5, sh_8, sh_15, sh_16, sh_24, Int.reducePow, Int.cast_ofNat_Int, w_of, wl_of, ltT, ltF, leT, leF, eqT, eqF, okF_0, okF_s, gF_0, gF_s, consC_o, sF_0, sF_s, clsO_o, inA_i, ldA_i, stA_i, inJ_l, ldJ_l, stJ_l, inR_r, ldR_r, stR_r, tgR_r, lenA_i, lenA_l, lenA_r, lenA_ex, nl_i, nl_o, nl_l, nl_n, wd_n, wd_i, wd_l, wd_o, fit_i, fit_l, fit_o, K_v, K_n, true_and, and_true, Nat.reduceAdd, Nat.reduceLeDiff, Nat.reduceEqDiff, Nat.reduceMul, Nat.reduceLT, reduceIte, true_or, or_true, cmp_lt, cmp_gt, cmp_eq, wb_0, b_01, cmp_lt', cmp_gt', cmp_eq', b_0, b_1, wb_1, Int.reduceSub, Int.reduceToNat, List.getD_cons_succ, List.getD_cons_zero, Int.reduceLE, Int.reduceLT, Int.reduceEq, Int.reduceNeg, Int.reduceAdd, Int.reduceMul, and_self, em_b, ne_eq, not_false_eq_true, not_true_eq_false]
        try rfl
theorem wg_all {ow : Nat → Nat} {ca : Nat} {c : KC} {sky e : Nat} {l : List Int} {f g : Int → Int} (hO : okC c) (hl : l.length ≤ 8) (hf : ∀ k, k < l.length → f k = l.getD k 0) (hlo : ∀ x, x ∈ l → lotOK c x = true) : ∀ r, wgC ow ca c sky e l f g r
  | 0 => wg_0 hl
  | r + 1 => wg_s hO hl hf hlo (wg_all hO hl hf hlo r)
theorem p10 {n : Nat} (h : n ≤ 6) : 10 ^ n ≤ 1000000 := by
  have : 10 ^ n ≤ 10 ^ 6 := Nat.pow_le_pow_right (by decide) h
  exact this
theorem To_drawAll {ow : Nat → Nat} {h : PH} {ca : Nat} {c : KC} {sky e : Nat} {l : List Int} {s : ST} (hl : l.length ≤ 6) (hlo : ∀ x, x ∈ l → lotOK c x = true) (hs : okS c s) (hF : owF ow h) (hH : HoP ow h ca c sky e) (hV : ToV h l l.length) : ∃ (h' : PH) (j : Nat → Int), chg ow [1, 7] h h' ∧ HoP ow h' ca c sky e ∧ ToP h' ∧ hp h' 61 = toO j ∧ j 2 = lotF c sky (upF c) (mvs c l) s ∧ j 3 = lotF c sky (stF c) (mvs c l) s ∧ j 4 = ((10 ^ l.length : Nat) : Int) ∧ ∀ d Q, WP (d + 17) 108 0 [some (vr 61), some (vr 27), some (vi (encC c s)), none] [] h Q = Q none h' := by
  obtain ⟨hO⟩ : Nonempty (okC c) := by obtain ⟨_, _, _, _, _, _, _, _, _, _, a9⟩ := hH; exact ⟨a9.2.1⟩
  obtain ⟨i, f, g, v1, v2, v3, v4, v5, v6⟩ := hV
  obtain ⟨t1, t2, t3⟩ := tg_to hF
  have lp : ∀ (r k : Nat) (i' : Nat → Int), k + r = l.length → i' 1 = (l.length : Int) → i' 4 = ((10 ^ k : Nat) : Int) → ∃ i2 : Nat → Int, i2 1 = (l.length : Int) ∧ i2 4 = ((10 ^ l.length : Nat) : Int) ∧ ∀ d Q, WP d 108 7 [some (vr 61), some (vr 27), some (vi (encC c s)), some (vi k)] [] (hup h 61 (toO i')) Q = WP d 108 32 [some (vr 61), some (vr 27), some (vi (encC c s)), some (vi l.length)] [] (hup h 61 (toO i2)) Q := by
    intro r
    induction r with
    | zero =>
      intro k i' hk h1 h4
      have ek : k = l.length := by omega
      subst ek
      refine ⟨i', h1, h4, fun d Q => ?_⟩
      rw [e_108_7]
      simp (disch := omega) only [e_108_8, e_108_9, e_108_12, h1, true_and, toO_c, toO_g0, toO_k0, toO_g1, toO_k1, toO_s1, toO_g2, toO_k2, toO_s2, toO_g3, toO_k3, toO_s3, toO_g4, toO_k4, toO_s4, toO_g5, toO_k5, toO_g6, toO_k6, toO_s6, hoO_c, hoO_g0, hoO_k0, hoO_s0, hoO_g1, hoO_k1, hoO_s1, hoO_g2, hoO_k2, hoO_s2, hoO_g3, hoO_k3, hoO_g4, hoO_k4, hoO_g5, hoO_k5, hoO_g6, hoO_k6, hoO_g7, hoO_k7, hoO_g8, hoO_k8, hoO_g9, hoO_k9, hoO_s9, iup_s, iup_n, hp_up1, hp_upn, ne_eq, not_false_eq_true, sh_0, sh_1, sh_2, sh_3, sh_4, sh_5, sh_8, sh_15, sh_16, sh_24, Int.reducePow, Int.cast_ofNat_Int, w_of, wl_of, ltT, ltF, leT, leF, eqT, eqF, okF_0, okF_s, gF_0, gF_s, consC_o, sF_0, sF_s, clsO_o, inA_i, ldA_i, stA_i, inJ_l, ldJ_l, stJ_l, inR_r, ldR_r, stR_r, tgR_r, lenA_i, lenA_l, lenA_r, lenA_ex, nl_i, nl_o, nl_l, nl_n, wd_n, wd_i, wd_l, wd_o, fit_i, fit_l, fit_o, K_v, K_n, true_and, and_true, Nat.reduceAdd, Nat.reduceLeDiff, Nat.reduceEqDiff, Nat.reduceMul, Nat.reduceLT, reduceIte, true_or, or_true, cmp_lt, cmp_gt, cmp_eq, wb_0, b_01, cmp_lt', cmp_gt', cmp_eq', b_0, b_1, wb_1, Int.reduceSub, Int.reduceToNat, List.getD_cons_succ, List.getD_cons_zero, Int.reduceLE, Int.reduceLT, Int.reduceEq, Int.reduceNeg, Int.reduceAdd, Int.reduceMul, and_self, em_b, ne_eq, not_false_eq_true, not_true_eq_false]
      try rfl
    | succ r ih =>
      intro k i' hk h1 h4
      have ek : (k : Int) + 1 = ((k + 1 : Nat) : Int) := by omega
      obtain ⟨i2, a1, a2, a3⟩ := ih (k + 1) (iup i' 4 (((10 ^ (k + 1) : Nat) : Int))) (by omega) (by rw [iup_n (by omega)]; exact h1) iup_s
      refine ⟨i2, a1, a2, fun d Q => ?_⟩
      rw [← a3 d Q]
      have hp10 := p10 (n := k) (by omega)
      have e10 : ((10 ^ k : Nat) : Int) * 10 = ((10 ^ (k + 1) : Nat) : Int) := by rw [Nat.pow_succ, Int.natCast_mul]; rfl
      rw [e_108_7]
      simp (disch := omega) only [e_108_8, e_108_9, e_108_12, e_108_15, e_108_16i, e_108_16a, e_108_17, e_108_20, e_108_22, e_108_23, e_108_26, e_108_29, h1, h4, ek, e10, hup_tt, true_and, toO_c, toO_g0, toO_k0, toO_g1, toO_k1, toO_s1, toO_g2, toO_k2, toO_s2, toO_g3, toO_k3, toO_s3, toO_g4, toO_k4, toO_s4, toO_g5, toO_k5, toO_g6, toO_k6, toO_s6, hoO_c, hoO_g0, hoO_k0, hoO_s0, hoO_g1, hoO_k1, hoO_s1, hoO_g2, hoO_k2, hoO_s2, hoO_g3, hoO_k3, hoO_g4, hoO_k4, hoO_g5, hoO_k5, hoO_g6, hoO_k6, hoO_g7, hoO_k7, hoO_g8, hoO_k8, hoO_g9, hoO_k9, hoO_s9, iup_s, iup_n, hp_up1, hp_upn, ne_eq, not_false_eq_true, sh_0, sh_1, sh_2, sh_3, sh_4, sh_5, sh_8, sh_15, sh_16, sh_24, Int.reducePow, Int.cast_ofNat_Int, w_of, wl_of, ltT, ltF, leT, leF, eqT, eqF, okF_0, okF_s, gF_0, gF_s, consC_o, sF_0, sF_s, clsO_o, inA_i, ldA_i, stA_i, inJ_l, ldJ_l, stJ_l, inR_r, ldR_r, stR_r, tgR_r, lenA_i, lenA_l, lenA_r, lenA_ex, nl_i, nl_o, nl_l, nl_n, wd_n, wd_i, wd_l, wd_o, fit_i, fit_l, fit_o, K_v, K_n, true_and, and_true, Nat.reduceAdd, Nat.reduceLeDiff, Nat.reduceEqDiff, Nat.reduceMul, Nat.reduceLT, reduceIte, true_or, or_true, cmp_lt, cmp_gt, cmp_eq, wb_0, b_01, cmp_lt', cmp_gt', cmp_eq', b_0, b_1, wb_1, Int.reduceSub, Int.reduceToNat, List.getD_cons_succ, List.getD_cons_zero, Int.reduceLE, Int.reduceLT, Int.reduceEq, Int.reduceNeg, Int.reduceAdd, Int.reduceMul, and_self, em_b, ne_eq, not_false_eq_true, not_true_eq_false]
      try rfl
  obtain ⟨i2, a1, a2, a3⟩ := lp l.length 0 (iup i 4 1) (by omega) (by rw [iup_n (by omega)]; exact v4) (by rw [iup_s]; rfl)
  have c0 : chg ow [7] h (hup h 61 (toO (iup (iup i2 2 0) 3 0))) := chg_up t1 (by decide)
  have hp10 := p10 hl
  obtain ⟨h', j, b1, b2, b3, b4, b5, b6, b7, b8, b9⟩ := wg_all (ow := ow) (ca := ca) (sky := sky) (e := e) (g := g) hO (by omega) v6 hlo l.length 0 (hup h 61 (toO (iup (iup i2 2 0) 3 0))) (iup (iup i2 2 0) 3 0) s 1 (by omega) hs (chg_F c0 hF) (HoP_c hF c0 (by decide) (by decide) hH) hp_up1 (by rw [hp_upn (by omega)]; exact v2) (by rw [hp_upn (by omega)]; exact v3) (by rw [iup_n (by omega), iup_n (by omega)]; exact a1) (by omega)
  rw [List.drop_zero] at b6 b7
  refine ⟨h', j, chg_t (chg_w c0 (by decide)) b1, b2, ⟨j, f, g, b3, b4, b5⟩, b3, ?_, ?_, ?_, fun d Q => ?_⟩
  · rw [b6, iup_n (by omega), iup_s]; omega
  · rw [b7, iup_s]; omega
  · rw [b8 4 (by omega) (by omega), iup_n (by omega), iup_n (by omega)]; exact a2
  · have a3' := a3 (d + 17) Q
    rw [nc0] at a3'
    have b9' := fun (Q : PQ) => b9 (d + 6 - l.length) Q
    rw [show d + 6 - l.length + 10 + l.length = d + 16 by omega, nc0, Nat.one_mul] at b9'
    simp (disch := omega) only [e_108_0, e_108_1, e_108_2, e_108_5, e_108_6, e_108_32, e_108_33, e_108_34, e_108_37, e_108_38, e_108_39, e_108_42, e_108_43, e_108_44, e_108_45, e_108_46, e_108_47, e_108_50, e_108_53, v1, a3', a2, b9', hup_tt, true_and, toO_c, toO_g0, toO_k0, toO_g1, toO_k1, toO_s1, toO_g2, toO_k2, toO_s2, toO_g3, toO_k3, toO_s3, toO_g4, toO_k4, toO_s4, toO_g5, toO_k5, toO_g6, toO_k6, toO_s6, hoO_c, hoO_g0, hoO_k0, hoO_s0, hoO_g1, hoO_k1, hoO_s1, hoO_g2, hoO_k2, hoO_s2, hoO_g3, hoO_k3, hoO_g4, hoO_k4, hoO_g5, hoO_k5, hoO_g6, hoO_k6, hoO_g7, hoO_k7, hoO_g8, hoO_k8, hoO_g9, hoO_k9, hoO_s9, iup_s, iup_n, hp_up1, hp_upn, ne_eq, not_false_eq_true, sh_0, sh_1, sh_2, sh_3, sh_4, sh_5, sh_8, sh_15, sh_16, sh_24, Int.reducePow, Int.cast_ofNat_Int, w_of, wl_of, ltT, ltF, leT, leF, eqT, eqF, okF_0, okF_s, gF_0, gF_s, consC_o, sF_0, sF_s, clsO_o, inA_i, ldA_i, stA_i, inJ_l, ldJ_l, stJ_l, inR_r, ldR_r, stR_r, tgR_r, lenA_i, lenA_l, lenA_r, lenA_ex, nl_i, nl_o, nl_l, nl_n, wd_n, wd_i, wd_l, wd_o, fit_i, fit_l, fit_o, K_v, K_n, true_and, and_true, Nat.reduceAdd, Nat.reduceLeDiff, Nat.reduceEqDiff, Nat.reduceMul, Nat.reduceLT, reduceIte, true_or, or_true, cmp_lt, cmp_gt, cmp_eq, wb_0, b_01, cmp_lt', cmp_gt', cmp_eq', b_0, b_1, wb_1, Int.reduceSub, Int.reduceToNat, List.getD_cons_succ, List.getD_cons_zero, Int.reduceLE, Int.reduceLT, Int.reduceEq, Int.reduceNeg, Int.reduceAdd, Int.reduceMul, and_self, em_b, ne_eq, not_false_eq_true, not_true_eq_false]
    try rfl
theorem To_gLp {h : PH} {x1 : Int} {l3 : Int} : ∀ (k i a b : Nat) (o9 : Option PV), b < 2 ^ k → i + 2 * k ≤ 99 → a < 4611686018427387904 → b < 4611686018427387904 → ∃ (i' : Nat) (p9 : Option PV), ∀ d Q, WP d 111 13 [some (vr 61), some (vl x1), none, some (vi l3), some (vl a), none, some (vl b), none, some (vi i), o9, none] [] h Q = WP d 111 48 [some (vr 61), some (vl x1), none, some (vi l3), some (vl (Nat.gcd a b)), none, some (vl 0), none, some (vi i'), p9, none] [] h Q := by
  intro k
  induction k with
  | zero =>
    intro i a b o9 hb hi ha hb2
    have hb0 : b = 0 := by simp at hb; omega
    subst hb0
    rw [Nat.gcd_zero_right]
    refine ⟨i, o9, fun d Q => ?_⟩
    simp (disch := omega) only [e_111_13, e_111_15, e_111_17, e_111_20, e_111_22, e_111_23, e_111_24, nc0, toO_c, toO_g0, toO_k0, toO_g1, toO_k1, toO_s1, toO_g2, toO_k2, toO_s2, toO_g3, toO_k3, toO_s3, toO_g4, toO_k4, toO_s4, toO_g5, toO_k5, toO_g6, toO_k6, toO_s6, hoO_c, hoO_g0, hoO_k0, hoO_s0, hoO_g1, hoO_k1, hoO_s1, hoO_g2, hoO_k2, hoO_s2, hoO_g3, hoO_k3, hoO_g4, hoO_k4, hoO_g5, hoO_k5, hoO_g6, hoO_k6, hoO_g7, hoO_k7, hoO_g8, hoO_k8, hoO_g9, hoO_k9, hoO_s9, iup_s, iup_n, hp_up1, hp_upn, ne_eq, not_false_eq_true, sh_0, sh_1, sh_2, sh_3, sh_4, sh_5, sh_8, sh_15, sh_16, sh_24, Int.reducePow, Int.cast_ofNat_Int, w_of, wl_of, ltT, ltF, leT, leF, eqT, eqF, okF_0, okF_s, gF_0, gF_s, consC_o, sF_0, sF_s, clsO_o, inA_i, ldA_i, stA_i, inJ_l, ldJ_l, stJ_l, inR_r, ldR_r, stR_r, tgR_r, lenA_i, lenA_l, lenA_r, lenA_ex, nl_i, nl_o, nl_l, nl_n, wd_n, wd_i, wd_l, wd_o, fit_i, fit_l, fit_o, K_v, K_n, true_and, and_true, Nat.reduceAdd, Nat.reduceLeDiff, Nat.reduceEqDiff, Nat.reduceMul, Nat.reduceLT, reduceIte, true_or, or_true, cmp_lt, cmp_gt, cmp_eq, wb_0, b_01, cmp_lt', cmp_gt', cmp_eq', b_0, b_1, wb_1, Int.reduceSub, Int.reduceToNat, List.getD_cons_succ, List.getD_cons_zero, Int.reduceLE, Int.reduceLT, Int.reduceEq, Int.reduceNeg, Int.reduceAdd, Int.reduceMul, and_self, em_b, ne_eq, not_false_eq_true, not_true_eq_false]
    try rfl
  | succ k ih =>
    intro i a b o9 hb hi ha hb2
    by_cases q : b = 0
    · subst q
      rw [Nat.gcd_zero_right]
      refine ⟨i, o9, fun d Q => ?_⟩
      simp (disch := omega) only [e_111_13, e_111_15, e_111_17, e_111_20, e_111_22, e_111_23, e_111_24, nc0, toO_c, toO_g0, toO_k0, toO_g1, toO_k1, toO_s1, toO_g2, toO_k2, toO_s2, toO_g3, toO_k3, toO_s3, toO_g4, toO_k4, toO_s4, toO_g5, toO_k5, toO_g6, toO_k6, toO_s6, hoO_c, hoO_g0, hoO_k0, hoO_s0, hoO_g1, hoO_k1, hoO_s1, hoO_g2, hoO_k2, hoO_s2, hoO_g3, hoO_k3, hoO_g4, hoO_k4, hoO_g5, hoO_k5, hoO_g6, hoO_k6, hoO_g7, hoO_k7, hoO_g8, hoO_k8, hoO_g9, hoO_k9, hoO_s9, iup_s, iup_n, hp_up1, hp_upn, ne_eq, not_false_eq_true, sh_0, sh_1, sh_2, sh_3, sh_4, sh_5, sh_8, sh_15, sh_16, sh_24, Int.reducePow, Int.cast_ofNat_Int, w_of, wl_of, ltT, ltF, leT, leF, eqT, eqF, okF_0, okF_s, gF_0, gF_s, consC_o, sF_0, sF_s, clsO_o, inA_i, ldA_i, stA_i, inJ_l, ldJ_l, stJ_l, inR_r, ldR_r, stR_r, tgR_r, lenA_i, lenA_l, lenA_r, lenA_ex, nl_i, nl_o, nl_l, nl_n, wd_n, wd_i, wd_l, wd_o, fit_i, fit_l, fit_o, K_v, K_n, true_and, and_true, Nat.reduceAdd, Nat.reduceLeDiff, Nat.reduceEqDiff, Nat.reduceMul, Nat.reduceLT, reduceIte, true_or, or_true, cmp_lt, cmp_gt, cmp_eq, wb_0, b_01, cmp_lt', cmp_gt', cmp_eq', b_0, b_1, wb_1, Int.reduceSub, Int.reduceToNat, List.getD_cons_succ, List.getD_cons_zero, Int.reduceLE, Int.reduceLT, Int.reduceEq, Int.reduceNeg, Int.reduceAdd, Int.reduceMul, and_self, em_b, ne_eq, not_false_eq_true, not_true_eq_false]
      try rfl
    · have hr := Nat.mod_lt a (show 0 < b by omega)
      have e1 : (a : Int).tmod (b : Int) = ((a % b : Nat) : Int) := rfl
      have ei : (i : Int) + 1 = ((i + 1 : Nat) : Int) := by omega
      have ei2 : ((i + 1 : Nat) : Int) + 1 = ((i + 1 + 1 : Nat) : Int) := by omega
      by_cases q2 : a % b = 0
      · refine ⟨i + 1, some (vl 0), fun d Q => ?_⟩
        rw [gcd_st a b, q2, Nat.gcd_zero_right]
        rw [q2] at e1
        have e1' : (a : Int).tmod (b : Int) = 0 := e1
        clear hr q2 e1
        rw [e_111_13]
        simp (disch := omega) only [e_111_15, e_111_17, e_111_20, e_111_22, e_111_23, e_111_24, e_111_27, e_111_29, e_111_31, e_111_32, e_111_34, e_111_36, e_111_38, e_111_40, e_111_42, e_111_45, e1', ei, toO_c, toO_g0, toO_k0, toO_g1, toO_k1, toO_s1, toO_g2, toO_k2, toO_s2, toO_g3, toO_k3, toO_s3, toO_g4, toO_k4, toO_s4, toO_g5, toO_k5, toO_g6, toO_k6, toO_s6, hoO_c, hoO_g0, hoO_k0, hoO_s0, hoO_g1, hoO_k1, hoO_s1, hoO_g2, hoO_k2, hoO_s2, hoO_g3, hoO_k3, hoO_g4, hoO_k4, hoO_g5, hoO_k5, hoO_g6, hoO_k6, hoO_g7, hoO_k7, hoO_g8, hoO_k8, hoO_g9, hoO_k9, hoO_s9, iup_s, iup_n, hp_up1, hp_upn, ne_eq, not_false_eq_true, sh_0, sh_1, sh_2, sh_3, sh_4, sh_5, sh_8, sh_15, sh_16, sh_24, Int.reducePow, Int.cast_ofNat_Int, w_of, wl_of, ltT, ltF, leT, leF, eqT, eqF, okF_0, okF_s, gF_0, gF_s, consC_o, sF_0, sF_s, clsO_o, inA_i, ldA_i, stA_i, inJ_l, ldJ_l, stJ_l, inR_r, ldR_r, stR_r, tgR_r, lenA_i, lenA_l, lenA_r, lenA_ex, nl_i, nl_o, nl_l, nl_n, wd_n, wd_i, wd_l, wd_o, fit_i, fit_l, fit_o, K_v, K_n, true_and, and_true, Nat.reduceAdd, Nat.reduceLeDiff, Nat.reduceEqDiff, Nat.reduceMul, Nat.reduceLT, reduceIte, true_or, or_true, cmp_lt, cmp_gt, cmp_eq, wb_0, b_01, cmp_lt', cmp_gt', cmp_eq', b_0, b_1, wb_1, Int.reduceSub, Int.reduceToNat, List.getD_cons_succ, List.getD_cons_zero, Int.reduceLE, Int.reduceLT, Int.reduceEq, Int.reduceNeg, Int.reduceAdd, Int.reduceMul, and_self, em_b, ne_eq, not_false_eq_true, not_true_eq_false]
        rw [e_111_13]
        simp (disch := omega) only [e_111_15, e_111_17, e_111_20, e_111_22, e_111_23, e_111_24, toO_c, toO_g0, toO_k0, toO_g1, toO_k1, toO_s1, toO_g2, toO_k2, toO_s2, toO_g3, toO_k3, toO_s3, toO_g4, toO_k4, toO_s4, toO_g5, toO_k5, toO_g6, toO_k6, toO_s6, hoO_c, hoO_g0, hoO_k0, hoO_s0, hoO_g1, hoO_k1, hoO_s1, hoO_g2, hoO_k2, hoO_s2, hoO_g3, hoO_k3, hoO_g4, hoO_k4, hoO_g5, hoO_k5, hoO_g6, hoO_k6, hoO_g7, hoO_k7, hoO_g8, hoO_k8, hoO_g9, hoO_k9, hoO_s9, iup_s, iup_n, hp_up1, hp_upn, ne_eq, not_false_eq_true, sh_0, sh_1, sh_2, sh_3, sh_4, sh_5, sh_8, sh_15, sh_16, sh_24, Int.reducePow, Int.cast_ofNat_Int, w_of, wl_of, ltT, ltF, leT, leF, eqT, eqF, okF_0, okF_s, gF_0, gF_s, consC_o, sF_0, sF_s, clsO_o, inA_i, ldA_i, stA_i, inJ_l, ldJ_l, stJ_l, inR_r, ldR_r, stR_r, tgR_r, lenA_i, lenA_l, lenA_r, lenA_ex, nl_i, nl_o, nl_l, nl_n, wd_n, wd_i, wd_l, wd_o, fit_i, fit_l, fit_o, K_v, K_n, true_and, and_true, Nat.reduceAdd, Nat.reduceLeDiff, Nat.reduceEqDiff, Nat.reduceMul, Nat.reduceLT, reduceIte, true_or, or_true, cmp_lt, cmp_gt, cmp_eq, wb_0, b_01, cmp_lt', cmp_gt', cmp_eq', b_0, b_1, wb_1, Int.reduceSub, Int.reduceToNat, List.getD_cons_succ, List.getD_cons_zero, Int.reduceLE, Int.reduceLT, Int.reduceEq, Int.reduceNeg, Int.reduceAdd, Int.reduceMul, and_self, em_b, ne_eq, not_false_eq_true, not_true_eq_false]
        try rfl
      · have hs := gcd_small (b := b) (r := a % b) (by omega) hr
        have hlt : b % (a % b) < a % b := Nat.mod_lt _ (by omega)
        obtain ⟨i', p9, ihh⟩ := ih (i + 1 + 1) (a % b) (b % (a % b)) (some (vl ((b % (a % b) : Nat) : Int))) (by rw [Nat.pow_succ] at hb; omega) (by omega) (by omega) (by omega)
        refine ⟨i', p9, fun d Q => ?_⟩
        rw [gcd_st a b, gcd_st b (a % b), ← ihh d Q]
        have e2 : (b : Int).tmod ((a % b : Nat) : Int) = ((b % (a % b) : Nat) : Int) := rfl
        generalize a % b = r at *
        rw [e_111_13]
        simp (disch := omega) only [e_111_15, e_111_17, e_111_20, e_111_22, e_111_23, e_111_24, e_111_27, e_111_29, e_111_31, e_111_32, e_111_34, e_111_36, e_111_38, e_111_40, e_111_42, e_111_45, e1, ei, toO_c, toO_g0, toO_k0, toO_g1, toO_k1, toO_s1, toO_g2, toO_k2, toO_s2, toO_g3, toO_k3, toO_s3, toO_g4, toO_k4, toO_s4, toO_g5, toO_k5, toO_g6, toO_k6, toO_s6, hoO_c, hoO_g0, hoO_k0, hoO_s0, hoO_g1, hoO_k1, hoO_s1, hoO_g2, hoO_k2, hoO_s2, hoO_g3, hoO_k3, hoO_g4, hoO_k4, hoO_g5, hoO_k5, hoO_g6, hoO_k6, hoO_g7, hoO_k7, hoO_g8, hoO_k8, hoO_g9, hoO_k9, hoO_s9, iup_s, iup_n, hp_up1, hp_upn, ne_eq, not_false_eq_true, sh_0, sh_1, sh_2, sh_3, sh_4, sh_5, sh_8, sh_15, sh_16, sh_24, Int.reducePow, Int.cast_ofNat_Int, w_of, wl_of, ltT, ltF, leT, leF, eqT, eqF, okF_0, okF_s, gF_0, gF_s, consC_o, sF_0, sF_s, clsO_o, inA_i, ldA_i, stA_i, inJ_l, ldJ_l, stJ_l, inR_r, ldR_r, stR_r, tgR_r, lenA_i, lenA_l, lenA_r, lenA_ex, nl_i, nl_o, nl_l, nl_n, wd_n, wd_i, wd_l, wd_o, fit_i, fit_l, fit_o, K_v, K_n, true_and, and_true, Nat.reduceAdd, Nat.reduceLeDiff, Nat.reduceEqDiff, Nat.reduceMul, Nat.reduceLT, reduceIte, true_or, or_true, cmp_lt, cmp_gt, cmp_eq, wb_0, b_01, cmp_lt', cmp_gt', cmp_eq', b_0, b_1, wb_1, Int.reduceSub, Int.reduceToNat, List.getD_cons_succ, List.getD_cons_zero, Int.reduceLE, Int.reduceLT, Int.reduceEq, Int.reduceNeg, Int.reduceAdd, Int.reduceMul, and_self, em_b, ne_eq, not_false_eq_true, not_true_eq_false]
        rw [e_111_13]
        simp (disch := omega) only [e_111_15, e_111_17, e_111_20, e_111_22, e_111_23, e_111_24, e_111_27, e_111_29, e_111_31, e_111_32, e_111_34, e_111_36, e_111_38, e_111_40, e_111_42, e_111_45, e2, ei2, toO_c, toO_g0, toO_k0, toO_g1, toO_k1, toO_s1, toO_g2, toO_k2, toO_s2, toO_g3, toO_k3, toO_s3, toO_g4, toO_k4, toO_s4, toO_g5, toO_k5, toO_g6, toO_k6, toO_s6, hoO_c, hoO_g0, hoO_k0, hoO_s0, hoO_g1, hoO_k1, hoO_s1, hoO_g2, hoO_k2, hoO_s2, hoO_g3, hoO_k3, hoO_g4, hoO_k4, hoO_g5, hoO_k5, hoO_g6, hoO_k6, hoO_g7, hoO_k7, hoO_g8, hoO_k8, hoO_g9, hoO_k9, hoO_s9, iup_s, iup_n, hp_up1, hp_upn, ne_eq, not_false_eq_true, sh_0, sh_1, sh_2, sh_3, sh_4, sh_5, sh_8, sh_15, sh_16, sh_24, Int.reducePow, Int.cast_ofNat_Int, w_of, wl_of, ltT, ltF, leT, leF, eqT, eqF, okF_0, okF_s, gF_0, gF_s, consC_o, sF_0, sF_s, clsO_o, inA_i, ldA_i, stA_i, inJ_l, ldJ_l, stJ_l, inR_r, ldR_r, stR_r, tgR_r, lenA_i, lenA_l, lenA_r, lenA_ex, nl_i, nl_o, nl_l, nl_n, wd_n, wd_i, wd_l, wd_o, fit_i, fit_l, fit_o, K_v, K_n, true_and, and_true, Nat.reduceAdd, Nat.reduceLeDiff, Nat.reduceEqDiff, Nat.reduceMul, Nat.reduceLT, reduceIte, true_or, or_true, cmp_lt, cmp_gt, cmp_eq, wb_0, b_01, cmp_lt', cmp_gt', cmp_eq', b_0, b_1, wb_1, Int.reduceSub, Int.reduceToNat, List.getD_cons_succ, List.getD_cons_zero, Int.reduceLE, Int.reduceLT, Int.reduceEq, Int.reduceNeg, Int.reduceAdd, Int.reduceMul, and_self, em_b, ne_eq, not_false_eq_true, not_true_eq_false]
        try rfl
theorem To_terms {h : PH} {j : Nat → Int} {a b : Nat} {what : Int} (v1 : hp h 61 = toO j) (hb : j 4 = (b : Int)) (ha : a < 16777216) (hb2 : b ≤ 1000000) (hb0 : 0 < b) (hw : what = 0 ∨ what = 1) : ∀ d Q, WP d 111 0 [some (vr 61), some (vl a), none, some (vi what), none, none, none, none, none, none, none] [] h Q = Q (some (vi (frV a b what))) h := by
  intro d Q
  obtain ⟨i', p9, lp⟩ := To_gLp (h := h) (x1 := (a : Int)) (l3 := what) 20 0 a b none (by omega) (by omega) (by omega) (by omega)
  have lp' := lp d Q
  rw [nc0] at lp'
  have hg : 0 < Nat.gcd a b := Nat.gcd_pos_of_pos_right a hb0
  have hg2 : Nat.gcd a b ≤ b := Nat.le_of_dvd hb0 (Nat.gcd_dvd_right a b)
  unfold frV
  generalize Nat.gcd a b = g at *
  rcases hw with rfl | rfl
  · rw [if_pos rfl]
    have e : (a : Int).tdiv (g : Int) = (a : Int) / (g : Int) := Int.tdiv_eq_ediv_of_nonneg (by omega)
    have e0 : ¬ (g : Int) = 0 := by omega
    simp (disch := omega) only [e_111_0, e_111_1, e_111_3, e_111_4, e_111_7, e_111_8, e_111_10, e_111_11, e_111_48, e_111_50, e_111_51, e_111_52, e_111_55, e_111_56, e_111_57, e_111_58, e_111_61, e_111_62, e_111_65, e_111_66, e_111_69, e_111_70, e_111_72, e_111_73, e_111_74, v1, hb, lp', e, e0, true_and, toO_c, toO_g0, toO_k0, toO_g1, toO_k1, toO_s1, toO_g2, toO_k2, toO_s2, toO_g3, toO_k3, toO_s3, toO_g4, toO_k4, toO_s4, toO_g5, toO_k5, toO_g6, toO_k6, toO_s6, hoO_c, hoO_g0, hoO_k0, hoO_s0, hoO_g1, hoO_k1, hoO_s1, hoO_g2, hoO_k2, hoO_s2, hoO_g3, hoO_k3, hoO_g4, hoO_k4, hoO_g5, hoO_k5, hoO_g6, hoO_k6, hoO_g7, hoO_k7, hoO_g8, hoO_k8, hoO_g9, hoO_k9, hoO_s9, iup_s, iup_n, hp_up1, hp_upn, ne_eq, not_false_eq_true, sh_0, sh_1, sh_2, sh_3, sh_4, sh_5, sh_8, sh_15, sh_16, sh_24, Int.reducePow, Int.cast_ofNat_Int, w_of, wl_of, ltT, ltF, leT, leF, eqT, eqF, okF_0, okF_s, gF_0, gF_s, consC_o, sF_0, sF_s, clsO_o, inA_i, ldA_i, stA_i, inJ_l, ldJ_l, stJ_l, inR_r, ldR_r, stR_r, tgR_r, lenA_i, lenA_l, lenA_r, lenA_ex, nl_i, nl_o, nl_l, nl_n, wd_n, wd_i, wd_l, wd_o, fit_i, fit_l, fit_o, K_v, K_n, true_and, and_true, Nat.reduceAdd, Nat.reduceLeDiff, Nat.reduceEqDiff, Nat.reduceMul, Nat.reduceLT, reduceIte, true_or, or_true, cmp_lt, cmp_gt, cmp_eq, wb_0, b_01, cmp_lt', cmp_gt', cmp_eq', b_0, b_1, wb_1, Int.reduceSub, Int.reduceToNat, List.getD_cons_succ, List.getD_cons_zero, Int.reduceLE, Int.reduceLT, Int.reduceEq, Int.reduceNeg, Int.reduceAdd, Int.reduceMul, and_self, em_b, ne_eq, not_false_eq_true, not_true_eq_false]
    try rfl
  · rw [if_neg (by omega)]
    have e : (b : Int).tdiv (g : Int) = (b : Int) / (g : Int) := Int.tdiv_eq_ediv_of_nonneg (by omega)
    have e0 : ¬ (g : Int) = 0 := by omega
    simp (disch := omega) only [e_111_0, e_111_1, e_111_3, e_111_4, e_111_7, e_111_8, e_111_10, e_111_11, e_111_48, e_111_50, e_111_51, e_111_52, e_111_55, e_111_56, e_111_57, e_111_58, e_111_61, e_111_62, e_111_65, e_111_66, e_111_69, e_111_70, e_111_72, e_111_73, e_111_74, v1, hb, lp', e, e0, true_and, toO_c, toO_g0, toO_k0, toO_g1, toO_k1, toO_s1, toO_g2, toO_k2, toO_s2, toO_g3, toO_k3, toO_s3, toO_g4, toO_k4, toO_s4, toO_g5, toO_k5, toO_g6, toO_k6, toO_s6, hoO_c, hoO_g0, hoO_k0, hoO_s0, hoO_g1, hoO_k1, hoO_s1, hoO_g2, hoO_k2, hoO_s2, hoO_g3, hoO_k3, hoO_g4, hoO_k4, hoO_g5, hoO_k5, hoO_g6, hoO_k6, hoO_g7, hoO_k7, hoO_g8, hoO_k8, hoO_g9, hoO_k9, hoO_s9, iup_s, iup_n, hp_up1, hp_upn, ne_eq, not_false_eq_true, sh_0, sh_1, sh_2, sh_3, sh_4, sh_5, sh_8, sh_15, sh_16, sh_24, Int.reducePow, Int.cast_ofNat_Int, w_of, wl_of, ltT, ltF, leT, leF, eqT, eqF, okF_0, okF_s, gF_0, gF_s, consC_o, sF_0, sF_s, clsO_o, inA_i, ldA_i, stA_i, inJ_l, ldJ_l, stJ_l, inR_r, ldR_r, stR_r, tgR_r, lenA_i, lenA_l, lenA_r, lenA_ex, nl_i, nl_o, nl_l, nl_n, wd_n, wd_i, wd_l, wd_o, fit_i, fit_l, fit_o, K_v, K_n, true_and, and_true, Nat.reduceAdd, Nat.reduceLeDiff, Nat.reduceEqDiff, Nat.reduceMul, Nat.reduceLT, reduceIte, true_or, or_true, cmp_lt, cmp_gt, cmp_eq, wb_0, b_01, cmp_lt', cmp_gt', cmp_eq', b_0, b_1, wb_1, Int.reduceSub, Int.reduceToNat, List.getD_cons_succ, List.getD_cons_zero, Int.reduceLE, Int.reduceLT, Int.reduceEq, Int.reduceNeg, Int.reduceAdd, Int.reduceMul, and_self, em_b, ne_eq, not_false_eq_true, not_true_eq_false]
    try rfl
