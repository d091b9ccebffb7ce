/-! THE CLASS: told deeds: actAll, perform, judge -/
section parts
variable {kc : Nat → KC} {ow : Nat → Nat} {M : MS} {S0 e k : Nat}
theorem C_num {h : PH} {i : Nat → Int} {fn : Int → Int} {t q : Nat} {x : Int} (b1 : hp h 10 = bkO i) (p1 : hp h 68 = aL 160 fn) (ht : t < 4) (hq : q < 40) (hx : fn ((40 * t + q : Nat) : Int) = x) : ∀ d Q, WP d 156 0 [some (vr 10), some (vi t), some (vi q)] [] h Q = Q (some (vl x)) h := by
  intro d Q
  have e : (t : Int) * 40 + (q : Int) = ((40 * t + q : Nat) : Int) := by omega
  simp (disch := omega) only [e_156_0, e_156_1, e_156_4, e_156_5, e_156_7, e_156_8, e_156_9, e_156_10, e_156_11, b1, p1, e, hx, true_and, bkO_c, bkO_g0, bkO_k0, bkO_g1, bkO_k1, bkO_g2, bkO_k2, bkO_g3, bkO_k3, bkO_g4, bkO_k4, bkO_g5, bkO_k5, bkO_g6, bkO_k6, bkO_g7, bkO_k7, bkO_g8, bkO_k8, bkO_g9, bkO_k9, bkO_g10, bkO_k10, bkO_g11, bkO_k11, bkO_g12, bkO_k12, bkO_g13, bkO_k13, bkO_g14, bkO_k14, bkO_g15, bkO_k15, bkO_g16, bkO_k16, bkO_g17, bkO_k17, bkO_s12, bkO_s16, bkO_s17, moO_c, moO_g0, moO_k0, moO_g1, moO_k1, moO_g2, moO_k2, moO_g3, moO_k3, moO_s0, moO_s1, moO_s2, moO_s3, hoO_c, hoO_g0, hoO_k0, hoO_g1, hoO_k1, hoO_g2, hoO_k2, hoO_g3, hoO_k3, hoO_g4, hoO_k4, hoO_g5, hoO_k5, hoO_g6, hoO_k6, hoO_g7, hoO_k7, hoO_g8, hoO_k8, hoO_g9, hoO_k9, hoO_s0, hoO_s1, hoO_s2, hoO_s9, iup_s, iup_n, hp_up1, hp_upn, ne_eq, not_false_eq_true, sh_0, sh_1, sh_2, sh_3, sh_4, sh_5, sh_8, sh_15, sh_16, sh_24, Int.reducePow, Int.cast_ofNat_Int, w_of, wl_of, ltT, ltF, leT, leF, eqT, eqF, okF_0, okF_s, gF_0, gF_s, consC_o, sF_0, sF_s, clsO_o, inA_i, ldA_i, stA_i, inJ_l, ldJ_l, stJ_l, inR_r, ldR_r, stR_r, tgR_r, lenA_i, lenA_l, lenA_r, lenA_ex, nl_i, nl_o, nl_l, nl_n, wd_n, wd_i, wd_l, wd_o, fit_i, fit_l, fit_o, K_v, K_n, true_and, and_true, Nat.reduceAdd, Nat.reduceLeDiff, Nat.reduceEqDiff, Nat.reduceMul, Nat.reduceLT, reduceIte, true_or, or_true, cmp_lt, cmp_gt, cmp_eq, wb_0, b_01, cmp_lt', cmp_gt', cmp_eq', b_0, b_1, wb_1, Int.reduceSub, Int.reduceToNat, List.getD_cons_succ, List.getD_cons_zero, Int.reduceLE, Int.reduceLT, Int.reduceEq, Int.reduceNeg, Int.reduceAdd, Int.reduceMul, and_self, em_b, ne_eq, not_false_eq_true, not_true_eq_false]
  try rfl
theorem act_Lp {a ca t : Nat} {c : KC} {i : Nat → Int} {fn fs : Int → Int} {l : List Int} (hkc : kc ca = c) (ha : 10 ≤ a) (ht0 : ow a ≠ 0) (ht1 : ow a ≠ 1) (ht2 : ow a ≠ 11) (ht3 : ow a ≠ 12) (ht : t < 4) (hl : l.length ≤ 40) (hs : fs t = (l.length : Int)) (hn : ∀ (q : Nat) x, l[q]? = some x → fn ((40 * t + q : Nat) : Int) = x ∧ i64 x) :
    ∀ (r q : Nat) (h : PH) (z : ZT) (e ca0 sky0 : Nat), q + r = l.length → e + r < 1000000 → owF ow h → HoP ow h ca0 (kc ca0) sky0 e → MoP ow h a ca c z → hp h 10 = bkO i → hp h 68 = aL 160 fn → hp h 69 = aI 0 4 fs →
    ∃ (h' : PH) (ca1 sky1 e' : Nat), e' ≤ e + r ∧ chg ow [1, ow a] h h' ∧ HoP ow h' ca1 (kc ca1) sky1 e' ∧ MoP ow h' a ca c (doAll c (l.drop q) z).2.1 ∧ ∀ d Q, WP (d + 11) 158 2 [some (vr 10), some (vr a), some (vi t), some (vi q)] [] h Q = Q (some (vi ((q + (doAll c (l.drop q) z).1 : Nat) : Int))) h' := by
  intro r
  induction r with
  | zero =>
    intro q h z e ca0 sky0 hq he hF hH hM b1 p1 p2
    have eq : q = l.length := by omega
    subst eq
    rw [List.drop_eq_nil_of_le (Nat.le_refl _)]
    refine ⟨h, ca0, sky0, e, by omega, chg_r, hH, hM, fun d Q => ?_⟩
    rw [show l.length + (doAll c [] z).1 = l.length from rfl]
    rw [e_158_2]
    simp (disch := omega) only [e_158_3, e_158_4, e_158_7, e_158_8, e_158_9, e_158_37, e_158_38, e_158_41, e_158_42, e_158_43, b1, p2, hs, true_and, bkO_c, bkO_g0, bkO_k0, bkO_g1, bkO_k1, bkO_g2, bkO_k2, bkO_g3, bkO_k3, bkO_g4, bkO_k4, bkO_g5, bkO_k5, bkO_g6, bkO_k6, bkO_g7, bkO_k7, bkO_g8, bkO_k8, bkO_g9, bkO_k9, bkO_g10, bkO_k10, bkO_g11, bkO_k11, bkO_g12, bkO_k12, bkO_g13, bkO_k13, bkO_g14, bkO_k14, bkO_g15, bkO_k15, bkO_g16, bkO_k16, bkO_g17, bkO_k17, bkO_s12, bkO_s16, bkO_s17, moO_c, moO_g0, moO_k0, moO_g1, moO_k1, moO_g2, moO_k2, moO_g3, moO_k3, moO_s0, moO_s1, moO_s2, moO_s3, hoO_c, hoO_g0, hoO_k0, hoO_g1, hoO_k1, hoO_g2, hoO_k2, hoO_g3, hoO_k3, hoO_g4, hoO_k4, hoO_g5, hoO_k5, hoO_g6, hoO_k6, hoO_g7, hoO_k7, hoO_g8, hoO_k8, hoO_g9, hoO_k9, hoO_s0, hoO_s1, hoO_s2, hoO_s9, iup_s, iup_n, hp_up1, hp_upn, ne_eq, not_false_eq_true, sh_0, sh_1, sh_2, sh_3, sh_4, sh_5, sh_8, sh_15, sh_16, sh_24, Int.reducePow, Int.cast_ofNat_Int, w_of, wl_of, ltT, ltF, leT, leF, eqT, eqF, okF_0, okF_s, gF_0, gF_s, consC_o, sF_0, sF_s, clsO_o, inA_i, ldA_i, stA_i, inJ_l, ldJ_l, stJ_l, inR_r, ldR_r, stR_r, tgR_r, lenA_i, lenA_l, lenA_r, lenA_ex, nl_i, nl_o, nl_l, nl_n, wd_n, wd_i, wd_l, wd_o, fit_i, fit_l, fit_o, K_v, K_n, true_and, and_true, Nat.reduceAdd, Nat.reduceLeDiff, Nat.reduceEqDiff, Nat.reduceMul, Nat.reduceLT, reduceIte, true_or, or_true, cmp_lt, cmp_gt, cmp_eq, wb_0, b_01, cmp_lt', cmp_gt', cmp_eq', b_0, b_1, wb_1, Int.reduceSub, Int.reduceToNat, List.getD_cons_succ, List.getD_cons_zero, Int.reduceLE, Int.reduceLT, Int.reduceEq, Int.reduceNeg, Int.reduceAdd, Int.reduceMul, and_self, em_b, ne_eq, not_false_eq_true, not_true_eq_false]
    try rfl
  | succ r ih =>
    intro q h z e ca0 sky0 hq he hF hH hM b1 p1 p2
    have hx : l[q]? = some l[q] := List.getElem?_eq_getElem (by omega)
    generalize l[q] = x at hx
    obtain ⟨n1, n2⟩ := hn q x hx
    have nu := C_num b1 p1 ht (show q < 40 by omega) n1
    obtain ⟨h1, ca1, sky1, e1, a1, a2, a3, a4, a5⟩ := Mo_act (kc := kc) (x := x) hF hH hM hkc ha ht0 ht1 n2 (by omega)
    obtain ⟨iy, h27⟩ : ∃ i, hp h 27 = hoO i (vr ca0) := by obtain ⟨i, A, a1, _⟩ := hH; exact ⟨i, a1⟩
    have hwl : actW c z x ≤ 4 := by
      unfold actW
      split
      · split <;> omega
      · split
        · omega
        · unfold whyD
          split
          · omega
          · unfold whyM
            repeat' split
            all_goals omega
    have hF1 := chg_F a2 hF
    obtain ⟨j, m1, -⟩ := hM
    obtain ⟨t64, -, -, -, t68, t69, -, t10, -⟩ := tg_64 hF
    have nn : ∀ t, t ≠ 1 → t ≠ ow a → ¬ t ∈ [1, ow a] := fun t z1 z2 w => by simp at w; omega
    rw [drop_at hx]
    by_cases hw : actW c z x = 0
    · have ed : doAll c (x :: l.drop (q + 1)) z = ((doAll c (l.drop (q + 1)) (actN c z x)).1 + 1, (doAll c (l.drop (q + 1)) (actN c z x)).2) := by
        show (if actW c z x = 0 then _ else _) = _
        rw [if_pos hw]
      rw [if_pos hw] at a4
      rw [hw] at a5
      obtain ⟨h', ca2, sky2, e2, c1, c2, c3, c4, c5⟩ := ih (q + 1) h1 (actN c z x) e1 ca1 sky1 (by omega) (by omega) hF1 a3 a4 (by rw [chg_at a2 t10 (nn 11 (by omega) (fun w => ht2 w.symm))]; exact b1) (by rw [chg_at a2 t68 (nn 12 (by omega) (fun w => ht3 w.symm))]; exact p1) (by rw [chg_at a2 t69 (nn 12 (by omega) (fun w => ht3 w.symm))]; exact p2)
      rw [ed]
      refine ⟨h', ca2, sky2, e2, by omega, chg_t a2 c2, c3, c4, fun d Q => ?_⟩
      have ev : ((q + ((doAll c (l.drop (q + 1)) (actN c z x)).1 + 1) : Nat) : Int) = ((q + 1 + (doAll c (l.drop (q + 1)) (actN c z x)).1 : Nat) : Int) := by omega
      rw [show (((doAll c (l.drop (q + 1)) (actN c z x)).1 + 1, (doAll c (l.drop (q + 1)) (actN c z x)).2) : Nat × ZT × Nat).1 = (doAll c (l.drop (q + 1)) (actN c z x)).1 + 1 from rfl, ev, ← c5 d Q]
      have a5' := fun (Q : PQ) => a5 d Q
      have eq1 : (q : Int) + 1 = ((q + 1 : Nat) : Int) := by omega
      rw [e_158_2]
      simp (disch := omega) only [e_158_3, e_158_4, e_158_7, e_158_8, e_158_9, e_158_12, e_158_13, e_158_14, e_158_17, e_158_18, e_158_19, e_158_20, e_158_23, e_158_26, e_158_29, e_158_30, e_158_31, e_158_34, b1, p2, hs, nu, m1, h27, a5', eq1, nc0, true_and, bkO_c, bkO_g0, bkO_k0, bkO_g1, bkO_k1, bkO_g2, bkO_k2, bkO_g3, bkO_k3, bkO_g4, bkO_k4, bkO_g5, bkO_k5, bkO_g6, bkO_k6, bkO_g7, bkO_k7, bkO_g8, bkO_k8, bkO_g9, bkO_k9, bkO_g10, bkO_k10, bkO_g11, bkO_k11, bkO_g12, bkO_k12, bkO_g13, bkO_k13, bkO_g14, bkO_k14, bkO_g15, bkO_k15, bkO_g16, bkO_k16, bkO_g17, bkO_k17, bkO_s12, bkO_s16, bkO_s17, moO_c, moO_g0, moO_k0, moO_g1, moO_k1, moO_g2, moO_k2, moO_g3, moO_k3, moO_s0, moO_s1, moO_s2, moO_s3, hoO_c, hoO_g0, hoO_k0, hoO_g1, hoO_k1, hoO_g2, hoO_k2, hoO_g3, hoO_k3, hoO_g4, hoO_k4, hoO_g5, hoO_k5, hoO_g6, hoO_k6, hoO_g7, hoO_k7, hoO_g8, hoO_k8, hoO_g9, hoO_k9, hoO_s0, hoO_s1, hoO_s2, hoO_s9, iup_s, iup_n, hp_up1, hp_upn, ne_eq, not_false_eq_true, sh_0, sh_1, sh_2, sh_3, sh_4, sh_5, sh_8, sh_15, sh_16, sh_24, Int.reducePow, Int.cast_ofNat_Int, w_of, wl_of, ltT, ltF, leT, leF, eqT, eqF, okF_0, okF_s, gF_0, gF_s, consC_o, sF_0, sF_s, clsO_o, inA_i, ldA_i, stA_i, inJ_l, ldJ_l, stJ_l, inR_r, ldR_r, stR_r, tgR_r, lenA_i, lenA_l, lenA_r, lenA_ex, nl_i, nl_o, nl_l, nl_n, wd_n, wd_i, wd_l, wd_o, fit_i, fit_l, fit_o, K_v, K_n, true_and, and_true, Nat.reduceAdd, Nat.reduceLeDiff, Nat.reduceEqDiff, Nat.reduceMul, Nat.reduceLT, reduceIte, true_or, or_true, cmp_lt, cmp_gt, cmp_eq, wb_0, b_01, cmp_lt', cmp_gt', cmp_eq', b_0, b_1, wb_1, Int.reduceSub, Int.reduceToNat, List.getD_cons_succ, List.getD_cons_zero, Int.reduceLE, Int.reduceLT, Int.reduceEq, Int.reduceNeg, Int.reduceAdd, Int.reduceMul, and_self, em_b, ne_eq, not_false_eq_true, not_true_eq_false]
      try rfl
    · have ed : doAll c (x :: l.drop (q + 1)) z = (0, z, actW c z x) := by
        show (if actW c z x = 0 then _ else _) = _
        rw [if_neg hw]
      rw [if_neg hw] at a4
      rw [ed]
      refine ⟨h1, ca1, sky1, e1, by omega, a2, a3, a4, fun d Q => ?_⟩
      have a5' := fun (Q : PQ) => a5 d Q
      rw [show q + ((0, z, actW c z x) : Nat × ZT × Nat).1 = q from rfl]
      rw [e_158_2]
      simp (disch := omega) only [e_158_3, e_158_4, e_158_7, e_158_8, e_158_9, e_158_12, e_158_13, e_158_14, e_158_17, e_158_18, e_158_19, e_158_20, e_158_23, e_158_26, e_158_29, e_158_30, b1, p2, hs, nu, m1, h27, a5', true_and, bkO_c, bkO_g0, bkO_k0, bkO_g1, bkO_k1, bkO_g2, bkO_k2, bkO_g3, bkO_k3, bkO_g4, bkO_k4, bkO_g5, bkO_k5, bkO_g6, bkO_k6, bkO_g7, bkO_k7, bkO_g8, bkO_k8, bkO_g9, bkO_k9, bkO_g10, bkO_k10, bkO_g11, bkO_k11, bkO_g12, bkO_k12, bkO_g13, bkO_k13, bkO_g14, bkO_k14, bkO_g15, bkO_k15, bkO_g16, bkO_k16, bkO_g17, bkO_k17, bkO_s12, bkO_s16, bkO_s17, moO_c, moO_g0, moO_k0, moO_g1, moO_k1, moO_g2, moO_k2, moO_g3, moO_k3, moO_s0, moO_s1, moO_s2, moO_s3, hoO_c, hoO_g0, hoO_k0, hoO_g1, hoO_k1, hoO_g2, hoO_k2, hoO_g3, hoO_k3, hoO_g4, hoO_k4, hoO_g5, hoO_k5, hoO_g6, hoO_k6, hoO_g7, hoO_k7, hoO_g8, hoO_k8, hoO_g9, hoO_k9, hoO_s0, hoO_s1, hoO_s2, hoO_s9, iup_s, iup_n, hp_up1, hp_upn, ne_eq, not_false_eq_true, sh_0, sh_1, sh_2, sh_3, sh_4, sh_5, sh_8, sh_15, sh_16, sh_24, Int.reducePow, Int.cast_ofNat_Int, w_of, wl_of, ltT, ltF, leT, leF, eqT, eqF, okF_0, okF_s, gF_0, gF_s, consC_o, sF_0, sF_s, clsO_o, inA_i, ldA_i, stA_i, inJ_l, ldJ_l, stJ_l, inR_r, ldR_r, stR_r, tgR_r, lenA_i, lenA_l, lenA_r, lenA_ex, nl_i, nl_o, nl_l, nl_n, wd_n, wd_i, wd_l, wd_o, fit_i, fit_l, fit_o, K_v, K_n, true_and, and_true, Nat.reduceAdd, Nat.reduceLeDiff, Nat.reduceEqDiff, Nat.reduceMul, Nat.reduceLT, reduceIte, true_or, or_true, cmp_lt, cmp_gt, cmp_eq, wb_0, b_01, cmp_lt', cmp_gt', cmp_eq', b_0, b_1, wb_1, Int.reduceSub, Int.reduceToNat, List.getD_cons_succ, List.getD_cons_zero, Int.reduceLE, Int.reduceLT, Int.reduceEq, Int.reduceNeg, Int.reduceAdd, Int.reduceMul, and_self, em_b, ne_eq, not_false_eq_true, not_true_eq_false]
      try rfl
theorem tr_none {T : TT} {fn fs fo : Int → Int} {t : Nat} (h : tyO T fn fs fo) (ht : t < 4) (e : T t = none) : fs t = -1 := by
  have := h t ht
  rw [e] at this
  exact this
theorem tr_some {T : TT} {fn fs fo : Int → Int} {t so : Nat} {l : List Int} (h : tyO T fn fs fo) (ht : t < 4) (e : T t = some (so, l)) : fs t = (l.length : Int) ∧ fo t = (so : Int) ∧ so < 4 ∧ l.length ≤ 40 ∧ ∀ (i : Nat) x, l[i]? = some x → fn ((40 * t + i : Nat) : Int) = x ∧ i64 x := by
  have := h t ht
  rw [e] at this
  exact this
theorem C_perform {h : PH} {x : Int} (hB : bkI kc ow h M S0 e k) (hk : k < 600) (h1 : -2147483648 ≤ x) (h2 : x < 2147483648) : cRes ow h S0 k 125 [some (vr 10), some (vi x), none] vi (fun v M' => (v, M') = perfF M x) := by
  have hB' := hB
  obtain ⟨hF, ⟨⟨i, b1, b2, b3, b4⟩, ⟨ca, kc1, hM⟩, ⟨i65, q65, p65⟩, -, hPa, ⟨fn, fs, fo, r1, r2, r3, r4⟩, -⟩, ⟨ca0, sky0, hH⟩, he, nd, nc, nk, nr, nb, hE, hR⟩ := hB
  have hM' := hM
  obtain ⟨j, m1, m2, m3, m4, m5, m6⟩ := hM
  have it := C_isTray (h := h) h1 h2
  obtain ⟨t64, t65, -, t67, t68, t69, -, t10, -⟩ := tg_64 hF
  unfold perfF
  by_cases q : 0 ≤ x ∧ x ≤ 3
  · rw [if_pos q]
    simp only [q, and_self, if_true] at it
    obtain ⟨t, rfl⟩ : ∃ t : Nat, x = (t : Int) := ⟨x.toNat, by omega⟩
    rw [Int.toNat_natCast]
    have ht : t < 4 := by omega
    cases hT : mT M t with
    | none =>
      have f1 := tr_none r4 ht hT
      refine cRes_r (v := -6) hB' rfl (fun d Q => ?_)
      simp (disch := omega) only [e_125_0, e_125_1, e_125_2, e_125_5, e_125_8, e_125_10, e_125_11, e_125_12, e_125_15, e_125_16, e_125_17, e_125_18, e_125_21, e_125_23, b1, r2, it, f1, true_and, bkO_c, bkO_g0, bkO_k0, bkO_g1, bkO_k1, bkO_g2, bkO_k2, bkO_g3, bkO_k3, bkO_g4, bkO_k4, bkO_g5, bkO_k5, bkO_g6, bkO_k6, bkO_g7, bkO_k7, bkO_g8, bkO_k8, bkO_g9, bkO_k9, bkO_g10, bkO_k10, bkO_g11, bkO_k11, bkO_g12, bkO_k12, bkO_g13, bkO_k13, bkO_g14, bkO_k14, bkO_g15, bkO_k15, bkO_g16, bkO_k16, bkO_g17, bkO_k17, bkO_s12, bkO_s16, bkO_s17, moO_c, moO_g0, moO_k0, moO_g1, moO_k1, moO_g2, moO_k2, moO_g3, moO_k3, moO_s0, moO_s1, moO_s2, moO_s3, hoO_c, hoO_g0, hoO_k0, hoO_g1, hoO_k1, hoO_g2, hoO_k2, hoO_g3, hoO_k3, hoO_g4, hoO_k4, hoO_g5, hoO_k5, hoO_g6, hoO_k6, hoO_g7, hoO_k7, hoO_g8, hoO_k8, hoO_g9, hoO_k9, hoO_s0, hoO_s1, hoO_s2, hoO_s9, iup_s, iup_n, hp_up1, hp_upn, ne_eq, not_false_eq_true, sh_0, sh_1, sh_2, sh_3, sh_4, sh_5, sh_8, sh_15, sh_16, sh_24, Int.reducePow, Int.cast_ofNat_Int, w_of, wl_of, ltT, ltF, leT, leF, eqT, eqF, okF_0, okF_s, gF_0, gF_s, consC_o, sF_0, sF_s, clsO_o, inA_i, ldA_i, stA_i, inJ_l, ldJ_l, stJ_l, inR_r, ldR_r, stR_r, tgR_r, lenA_i, lenA_l, lenA_r, lenA_ex, nl_i, nl_o, nl_l, nl_n, wd_n, wd_i, wd_l, wd_o, fit_i, fit_l, fit_o, K_v, K_n, true_and, and_true, Nat.reduceAdd, Nat.reduceLeDiff, Nat.reduceEqDiff, Nat.reduceMul, Nat.reduceLT, reduceIte, true_or, or_true, cmp_lt, cmp_gt, cmp_eq, wb_0, b_01, cmp_lt', cmp_gt', cmp_eq', b_0, b_1, wb_1, Int.reduceSub, Int.reduceToNat, List.getD_cons_succ, List.getD_cons_zero, Int.reduceLE, Int.reduceLT, Int.reduceEq, Int.reduceNeg, Int.reduceAdd, Int.reduceMul, and_self, em_b, ne_eq, not_false_eq_true, not_true_eq_false]
      try rfl
    | some sl =>
      obtain ⟨so, l⟩ := sl
      obtain ⟨f1, f2, f3, f4, f5⟩ := tr_some r4 ht hT
      dsimp only
      obtain ⟨k65, n1, n2, n3, n4⟩ := Mo_take (by omega) p65 m1 ⟨ca, rfl⟩
      have c1 : chg ow [9] h (hup h 65 (moO k65 (vr ca))) := chg_up t65 (by decide)
      have hF1 := chg_F c1 hF
      have hH1 := HoP_c hF c1 (by decide) (by decide) hH
      have hM1 : MoP ow (hup h 65 (moO k65 (vr ca))) 64 ca (mC M) (mZ M) := ⟨j, by rw [hp_upn (by omega)]; exact m1, m2, m3, m4, m5, KCty_c c1 (by decide) m6⟩
      obtain ⟨g, ca1, sky1, e1, a1, a2, a3, a4, a5⟩ := act_Lp (i := i) (fn := fn) (fs := fs) (l := l) kc1 (by omega) (by rw [t64]; decide) (by rw [t64]; decide) (by rw [t64]; decide) (by rw [t64]; decide) ht f4 f1 f5 l.length 0 _ (mZ M) e ca0 sky0 (by omega) (by omega) hF1 hH1 hM1 (by rw [hp_upn (by omega)]; exact b1) (by rw [hp_upn (by omega)]; exact r1) (by rw [hp_upn (by omega)]; exact r2)
      rw [List.drop_zero] at a4 a5
      rw [t64] at a2
      have aA : ∀ d Q, WP (d + 11) 158 0 [some (vr 10), some (vr 64), some (vi t), none] [] (hup h 65 (moO k65 (vr ca))) Q = Q (some (vi ((doAll (mC M) l (mZ M)).1 : Int))) g := fun d Q => by
        have := a5 d Q
        rw [nc0, Nat.zero_add] at this
        rw [← this]
        simp (disch := omega) only [e_158_0, e_158_1, bkO_c, bkO_g0, bkO_k0, bkO_g1, bkO_k1, bkO_g2, bkO_k2, bkO_g3, bkO_k3, bkO_g4, bkO_k4, bkO_g5, bkO_k5, bkO_g6, bkO_k6, bkO_g7, bkO_k7, bkO_g8, bkO_k8, bkO_g9, bkO_k9, bkO_g10, bkO_k10, bkO_g11, bkO_k11, bkO_g12, bkO_k12, bkO_g13, bkO_k13, bkO_g14, bkO_k14, bkO_g15, bkO_k15, bkO_g16, bkO_k16, bkO_g17, bkO_k17, bkO_s12, bkO_s16, bkO_s17, moO_c, moO_g0, moO_k0, moO_g1, moO_k1, moO_g2, moO_k2, moO_g3, moO_k3, moO_s0, moO_s1, moO_s2, moO_s3, hoO_c, hoO_g0, hoO_k0, hoO_g1, hoO_k1, hoO_g2, hoO_k2, hoO_g3, hoO_k3, hoO_g4, hoO_k4, hoO_g5, hoO_k5, hoO_g6, hoO_k6, hoO_g7, hoO_k7, hoO_g8, hoO_k8, hoO_g9, hoO_k9, hoO_s0, hoO_s1, hoO_s2, hoO_s9, iup_s, iup_n, hp_up1, hp_upn, ne_eq, not_false_eq_true, sh_0, sh_1, sh_2, sh_3, sh_4, sh_5, sh_8, sh_15, sh_16, sh_24, Int.reducePow, Int.cast_ofNat_Int, w_of, wl_of, ltT, ltF, leT, leF, eqT, eqF, okF_0, okF_s, gF_0, gF_s, consC_o, sF_0, sF_s, clsO_o, inA_i, ldA_i, stA_i, inJ_l, ldJ_l, stJ_l, inR_r, ldR_r, stR_r, tgR_r, lenA_i, lenA_l, lenA_r, lenA_ex, nl_i, nl_o, nl_l, nl_n, wd_n, wd_i, wd_l, wd_o, fit_i, fit_l, fit_o, K_v, K_n, true_and, and_true, Nat.reduceAdd, Nat.reduceLeDiff, Nat.reduceEqDiff, Nat.reduceMul, Nat.reduceLT, reduceIte, true_or, or_true, cmp_lt, cmp_gt, cmp_eq, wb_0, b_01, cmp_lt', cmp_gt', cmp_eq', b_0, b_1, wb_1, Int.reduceSub, Int.reduceToNat, List.getD_cons_succ, List.getD_cons_zero, Int.reduceLE, Int.reduceLT, Int.reduceEq, Int.reduceNeg, Int.reduceAdd, Int.reduceMul, and_self, em_b, ne_eq, not_false_eq_true, not_true_eq_false]
        try rfl
      have hF2 := chg_F a2 hF1
      have v10 : hp g 10 = bkO i := by rw [chg_at a2 t10 (by decide), hp_upn (by omega)]; exact b1
      have v65 : hp g 65 = moO k65 (vr ca) := by rw [chg_at a2 t65 (by decide), hp_up1]
      have cB : chg ow [1, 8, 9] h g := chg_t (chg_w c1 (by decide)) (chg_w a2 (by decide))
      have hdl := (doAll_le (c := mC M) (l := l) (z := mZ M)).1
      have u10 : hp (hup h 65 (moO k65 (vr ca))) 10 = bkO i := by rw [hp_upn (by omega)]; exact b1
      have u64 : hp (hup h 65 (moO k65 (vr ca))) 64 = moO j (vr ca) := by rw [hp_upn (by omega)]; exact m1
      by_cases hd0 : (doAll (mC M) l (mZ M)).1 = 0
      · rw [if_pos hd0, hd0]
        rw [doAll_0 hd0] at a4
        obtain ⟨q1, q2⟩ := bk_z (past := mP M) (z := mZ M) hB' (chg_w cB (U := [1, 8, 9, 11, 16]) (by decide)) (by decide) a3 (by omega) ⟨i, v10, b2, b3, b4⟩ ⟨ca, kc1, a4⟩ ⟨_, _, v65⟩ (PaP_e hF (ext_c cB) (by decide) hPa)
        refine ⟨kc, ow, g, e1, _, _, rfl, q1, q2, fun d Q => ?_⟩
        have aA' := fun (Q : PQ) => aA (d + 18) Q
        rw [hd0] at aA'
        simp (disch := omega) only [e_125_0, e_125_1, e_125_2, e_125_5, e_125_8, e_125_10, e_125_11, e_125_12, e_125_15, e_125_16, e_125_17, e_125_18, e_125_21, e_125_23, e_125_24, e_125_25, e_125_28, e_125_29, e_125_32, e_125_35, e_125_36, e_125_37, e_125_40, e_125_41, e_125_44, e_125_45, e_125_46, e_125_49, e_125_50, e_125_51, e_125_54, e_125_57, e_125_58, b1, m1, r2, it, f1, p65, n4, u10, u64, aA', nc0, true_and, bkO_c, bkO_g0, bkO_k0, bkO_g1, bkO_k1, bkO_g2, bkO_k2, bkO_g3, bkO_k3, bkO_g4, bkO_k4, bkO_g5, bkO_k5, bkO_g6, bkO_k6, bkO_g7, bkO_k7, bkO_g8, bkO_k8, bkO_g9, bkO_k9, bkO_g10, bkO_k10, bkO_g11, bkO_k11, bkO_g12, bkO_k12, bkO_g13, bkO_k13, bkO_g14, bkO_k14, bkO_g15, bkO_k15, bkO_g16, bkO_k16, bkO_g17, bkO_k17, bkO_s12, bkO_s16, bkO_s17, moO_c, moO_g0, moO_k0, moO_g1, moO_k1, moO_g2, moO_k2, moO_g3, moO_k3, moO_s0, moO_s1, moO_s2, moO_s3, hoO_c, hoO_g0, hoO_k0, hoO_g1, hoO_k1, hoO_g2, hoO_k2, hoO_g3, hoO_k3, hoO_g4, hoO_k4, hoO_g5, hoO_k5, hoO_g6, hoO_k6, hoO_g7, hoO_k7, hoO_g8, hoO_k8, hoO_g9, hoO_k9, hoO_s0, hoO_s1, hoO_s2, hoO_s9, iup_s, iup_n, hp_up1, hp_upn, ne_eq, not_false_eq_true, sh_0, sh_1, sh_2, sh_3, sh_4, sh_5, sh_8, sh_15, sh_16, sh_24, Int.reducePow, Int.cast_ofNat_Int, w_of, wl_of, ltT, ltF, leT, leF, eqT, eqF, okF_0, okF_s, gF_0, gF_s, consC_o, sF_0, sF_s, clsO_o, inA_i, ldA_i, stA_i, inJ_l, ldJ_l, stJ_l, inR_r, ldR_r, stR_r, tgR_r, lenA_i, lenA_l, lenA_r, lenA_ex, nl_i, nl_o, nl_l, nl_n, wd_n, wd_i, wd_l, wd_o, fit_i, fit_l, fit_o, K_v, K_n, true_and, and_true, Nat.reduceAdd, Nat.reduceLeDiff, Nat.reduceEqDiff, Nat.reduceMul, Nat.reduceLT, reduceIte, true_or, or_true, cmp_lt, cmp_gt, cmp_eq, wb_0, b_01, cmp_lt', cmp_gt', cmp_eq', b_0, b_1, wb_1, Int.reduceSub, Int.reduceToNat, List.getD_cons_succ, List.getD_cons_zero, Int.reduceLE, Int.reduceLT, Int.reduceEq, Int.reduceNeg, Int.reduceAdd, Int.reduceMul, and_self, em_b, ne_eq, not_false_eq_true, not_true_eq_false]
        try rfl
      · rw [if_neg hd0]
        obtain ⟨g3, i3, x1, x2, x3, x4, x5, x6, x7⟩ := bk_rem (z := mZ M) hF2 v10 b2 (PaP_e hF (ext_c cB) (by decide) hPa) v65 (by rw [n1]; exact m2) (by rw [n2]; exact m3) (by rw [n3]; exact m4) m5 (by omega) (by omega)
        have cA : chg ow [1, 8, 9, 11, 16] h g3 := chg_t (chg_w cB (by decide)) (chg_w x1 (by decide))
        obtain ⟨q1, q2⟩ := bk_z hB' cA (by decide) (HoP_c hF2 x1 (by decide) (by decide) a3) (by omega) ⟨i3, x2, x3, by rw [x4]; exact b3, by rw [x5]; exact b4⟩ ⟨ca, kc1, MoP_e (ext_c x1) (by have := hF2.1; omega) (by decide) (by rw [t64]; decide) a4⟩ ⟨_, _, by rw [chg_at x1 t65 (by decide)]; exact v65⟩ x6
        refine ⟨kc, ow, g3, e1, _, _, rfl, q1, q2, fun d Q => ?_⟩
        have aA' := fun (Q : PQ) => aA (d + 18) Q
        have hdp : (1 : Int) ≤ ((doAll (mC M) l (mZ M)).1 : Int) := by omega
        simp (disch := omega) only [e_125_0, e_125_1, e_125_2, e_125_5, e_125_8, e_125_10, e_125_11, e_125_12, e_125_15, e_125_16, e_125_17, e_125_18, e_125_21, e_125_23, e_125_24, e_125_25, e_125_28, e_125_29, e_125_32, e_125_35, e_125_36, e_125_37, e_125_40, e_125_41, e_125_44, e_125_45, e_125_46, e_125_49, e_125_50, e_125_51, e_125_54, e_125_57, e_125_58, b1, m1, r2, it, f1, p65, n4, u10, u64, aA', v10, v65, x7, true_and, bkO_c, bkO_g0, bkO_k0, bkO_g1, bkO_k1, bkO_g2, bkO_k2, bkO_g3, bkO_k3, bkO_g4, bkO_k4, bkO_g5, bkO_k5, bkO_g6, bkO_k6, bkO_g7, bkO_k7, bkO_g8, bkO_k8, bkO_g9, bkO_k9, bkO_g10, bkO_k10, bkO_g11, bkO_k11, bkO_g12, bkO_k12, bkO_g13, bkO_k13, bkO_g14, bkO_k14, bkO_g15, bkO_k15, bkO_g16, bkO_k16, bkO_g17, bkO_k17, bkO_s12, bkO_s16, bkO_s17, moO_c, moO_g0, moO_k0, moO_g1, moO_k1, moO_g2, moO_k2, moO_g3, moO_k3, moO_s0, moO_s1, moO_s2, moO_s3, hoO_c, hoO_g0, hoO_k0, hoO_g1, hoO_k1, hoO_g2, hoO_k2, hoO_g3, hoO_k3, hoO_g4, hoO_k4, hoO_g5, hoO_k5, hoO_g6, hoO_k6, hoO_g7, hoO_k7, hoO_g8, hoO_k8, hoO_g9, hoO_k9, hoO_s0, hoO_s1, hoO_s2, hoO_s9, iup_s, iup_n, hp_up1, hp_upn, ne_eq, not_false_eq_true, sh_0, sh_1, sh_2, sh_3, sh_4, sh_5, sh_8, sh_15, sh_16, sh_24, Int.reducePow, Int.cast_ofNat_Int, w_of, wl_of, ltT, ltF, leT, leF, eqT, eqF, okF_0, okF_s, gF_0, gF_s, consC_o, sF_0, sF_s, clsO_o, inA_i, ldA_i, stA_i, inJ_l, ldJ_l, stJ_l, inR_r, ldR_r, stR_r, tgR_r, lenA_i, lenA_l, lenA_r, lenA_ex, nl_i, nl_o, nl_l, nl_n, wd_n, wd_i, wd_l, wd_o, fit_i, fit_l, fit_o, K_v, K_n, true_and, and_true, Nat.reduceAdd, Nat.reduceLeDiff, Nat.reduceEqDiff, Nat.reduceMul, Nat.reduceLT, reduceIte, true_or, or_true, cmp_lt, cmp_gt, cmp_eq, wb_0, b_01, cmp_lt', cmp_gt', cmp_eq', b_0, b_1, wb_1, Int.reduceSub, Int.reduceToNat, List.getD_cons_succ, List.getD_cons_zero, Int.reduceLE, Int.reduceLT, Int.reduceEq, Int.reduceNeg, Int.reduceAdd, Int.reduceMul, and_self, em_b, ne_eq, not_false_eq_true, not_true_eq_false]
        try rfl
  · rw [if_neg q]
    simp only [q, if_false] at it
    refine cRes_r (v := -2) hB' rfl (fun d Q => ?_)
    simp (disch := omega) only [e_125_0, e_125_1, e_125_2, e_125_5, e_125_8, e_125_10, b1, it, true_and, bkO_c, bkO_g0, bkO_k0, bkO_g1, bkO_k1, bkO_g2, bkO_k2, bkO_g3, bkO_k3, bkO_g4, bkO_k4, bkO_g5, bkO_k5, bkO_g6, bkO_k6, bkO_g7, bkO_k7, bkO_g8, bkO_k8, bkO_g9, bkO_k9, bkO_g10, bkO_k10, bkO_g11, bkO_k11, bkO_g12, bkO_k12, bkO_g13, bkO_k13, bkO_g14, bkO_k14, bkO_g15, bkO_k15, bkO_g16, bkO_k16, bkO_g17, bkO_k17, bkO_s12, bkO_s16, bkO_s17, moO_c, moO_g0, moO_k0, moO_g1, moO_k1, moO_g2, moO_k2, moO_g3, moO_k3, moO_s0, moO_s1, moO_s2, moO_s3, hoO_c, hoO_g0, hoO_k0, hoO_g1, hoO_k1, hoO_g2, hoO_k2, hoO_g3, hoO_k3, hoO_g4, hoO_k4, hoO_g5, hoO_k5, hoO_g6, hoO_k6, hoO_g7, hoO_k7, hoO_g8, hoO_k8, hoO_g9, hoO_k9, hoO_s0, hoO_s1, hoO_s2, hoO_s9, iup_s, iup_n, hp_up1, hp_upn, ne_eq, not_false_eq_true, sh_0, sh_1, sh_2, sh_3, sh_4, sh_5, sh_8, sh_15, sh_16, sh_24, Int.reducePow, Int.cast_ofNat_Int, w_of, wl_of, ltT, ltF, leT, leF, eqT, eqF, okF_0, okF_s, gF_0, gF_s, consC_o, sF_0, sF_s, clsO_o, inA_i, ldA_i, stA_i, inJ_l, ldJ_l, stJ_l, inR_r, ldR_r, stR_r, tgR_r, lenA_i, lenA_l, lenA_r, lenA_ex, nl_i, nl_o, nl_l, nl_n, wd_n, wd_i, wd_l, wd_o, fit_i, fit_l, fit_o, K_v, K_n, true_and, and_true, Nat.reduceAdd, Nat.reduceLeDiff, Nat.reduceEqDiff, Nat.reduceMul, Nat.reduceLT, reduceIte, true_or, or_true, cmp_lt, cmp_gt, cmp_eq, wb_0, b_01, cmp_lt', cmp_gt', cmp_eq', b_0, b_1, wb_1, Int.reduceSub, Int.reduceToNat, List.getD_cons_succ, List.getD_cons_zero, Int.reduceLE, Int.reduceLT, Int.reduceEq, Int.reduceNeg, Int.reduceAdd, Int.reduceMul, and_self, em_b, ne_eq, not_false_eq_true, not_true_eq_false]
    try rfl
end parts
