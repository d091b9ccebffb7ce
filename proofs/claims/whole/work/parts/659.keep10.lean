theorem KepP_e {kc : Nat → KC} {ow ow' : Nat → Nat} {h h' : PH} {n : Nat} {T : List Nat} (hF : owF ow h) (hx : extO ow h ow' h' T) (ht : ¬ 4 ∈ T) (hP : KepP kc ow h n) : KepP kc ow' h' n := by
  obtain ⟨i, cca, wA, fw, ⟨c1, c2⟩, ⟨w1, w2, w3, w4⟩, p⟩ := hP
  have h90 := hF.1
  refine ⟨i, cca, wA, fw, ⟨by rw [hx.2.2 41 (by omega) (by rw [tg_41 hF]; exact ht)]; exact c1, by rw [hx.2.2 wA w3 (by rw [w1]; exact ht)]; exact c2⟩, ⟨by rw [hx.2.1 wA w3]; exact w1, w2, Nat.lt_of_lt_of_le w3 hx.1, w4⟩, p⟩
theorem DesP_e {ow ow' : Nat → Nat} {h h' : PH} {n : Nat} {T : List Nat} (hF : owF ow h) (hx : extO ow h ow' h' T) (ht : ¬ 2 ∈ T) (hP : DesP ow h n) : DesP ow' h' n := by
  obtain ⟨l, o, m, fl, fo, fm, ⟨c1, c2, c3, c4⟩, w1, w2, w3, w4, w5, w6, w7, w8, w9, w10, w11, w12, w13⟩ := hP
  have h90 := hF.1
  exact ⟨l, o, m, fl, fo, fm, ⟨by rw [hx.2.2 34 (by omega) (by rw [tg_34 hF]; exact ht)]; exact c1, by rw [hx.2.2 l w10 (by rw [w1]; exact ht)]; exact c2, by rw [hx.2.2 o w11 (by rw [w2]; exact ht)]; exact c3, by rw [hx.2.2 m w12 (by rw [w3]; exact ht)]; exact c4⟩, by rw [hx.2.1 l w10]; exact w1, by rw [hx.2.1 o w11]; exact w2, by rw [hx.2.1 m w12]; exact w3, w4, w5, w6, w7, w8, w9, Nat.lt_of_lt_of_le w10 hx.1, Nat.lt_of_lt_of_le w11 hx.1, Nat.lt_of_lt_of_le w12 hx.1, w13⟩
theorem K_prepare {kc : Nat → KC} {ow : Nat → Nat} {h : PH} {ca : Nat} {c : KC} {sky e n nd : Nat} (hF : owF ow h) (hH : HoP ow h ca c sky e) (hkc : kc ca = c) (hD : DesP ow h nd) (hP : KepP kc ow h n) :
    ∃ (h' : PH) (ow' : Nat → Nat) (n' nd' d1 d2 : Nat), extO ow h ow' h' [2, 4] ∧ ((nd' = nd ∧ d1 = 0) ∨ (nd < nd' ∧ nd' = szC c ∧ d1 = 1)) ∧ ((n' = n ∧ d2 = 0) ∨ (n < n' ∧ n' = szC c ∧ d2 = 1)) ∧ h'.1 = h.1 + 3 * d1 + d2 ∧ h'.2.1 = h.2.1 + (3 * d1 + d2) * szC c ∧ HoP ow' h' ca c sky e ∧ DesP ow' h' nd' ∧ szC c ≤ nd' ∧ KepV ow' h' ca c sky n' ∧ ∀ d Q, WP (d + 3) 49 0 [some (vr 41), some (vr 27)] [] h Q = Q none h' := by
  have hKC := hH
  obtain ⟨ih, A, a1, a2, a3, a4, a5, a6, a7, a8, hKC⟩ := hKC
  have h24 := szC_le hKC.2.1.1
  obtain ⟨y4, y5, y6, y7, y8, y9, y10, y11, y14, y15, y17, hA⟩ := KCty_sz hKC
  obtain ⟨h1, ow1, n1, f1, f2, f3, f4, f5, f6⟩ := D_fit (z := szC c) hF hD h24
  have hF1 := ext_F f1 hF
  have hH1 := HoP_e hF f1 (by decide) (by decide) hH
  obtain ⟨h2, ow2, n2, g1, g2, g3, g4, g5, g6, g7⟩ := k_prep hF1 hH1 hkc (KepP_e hF f1 (by decide) hP)
  obtain ⟨p1, p2, p3, d34⟩ : ∃ a b c, hp h 34 = dkO a b c := by obtain ⟨l, o, m, _, _, _, ⟨z, _⟩, _⟩ := hD; exact ⟨_, _, _, z⟩
  obtain ⟨q1, q2, q3, c41⟩ : ∃ i a b, hp h 41 = kpO i a b := by obtain ⟨i, cca, wA, fw, ⟨c1, _⟩, _⟩ := hP; exact ⟨_, _, _, c1⟩
  have run : ∀ d Q, WP (d + 3) 49 0 [some (vr 41), some (vr 27)] [] h Q = Q none h2 := by
    intro d Q
    rw [← g7 (d + 1) Q]
    simp (disch := omega) only [e_49_0, e_49_1, e_49_4, e_49_5, e_49_8, e_49_11, c41, d34, a1, hA, f6, true_and, kpO_c, kpO_g0, kpO_k0, kpO_g1, kpO_k1, kpO_s1, kpO_g2, kpO_k2, kpO_s2, kpO_g3, kpO_k3, kpO_s3, kpO_g4, kpO_k4, kpO_s4, kpO_g5, kpO_k5, kpO_g6, kpO_k6, dkO_c, dkO_g0, dkO_k0, dkO_s0, dkO_g1, dkO_k1, dkO_s1, dkO_g2, dkO_k2, dkO_s2, hoO_c, hoO_g0, hoO_k0, hoO_s0, hoO_g1, hoO_k1, hoO_s1, hoO_g2, hoO_k2, hoO_s2, hoO_g3, hoO_k3, hoO_g4, hoO_k4, hoO_g5, hoO_k5, hoO_g6, hoO_k6, hoO_g7, hoO_k7, hoO_g8, hoO_k8, hoO_g9, hoO_k9, hoO_s9, iup_s, iup_n, hp_up1, hp_upn, ne_eq, not_false_eq_true, sh_0, sh_1, sh_2, sh_3, sh_4, sh_5, sh_8, sh_15, sh_16, sh_24, Int.reducePow, Int.cast_ofNat_Int, w_of, wl_of, ltT, ltF, leT, leF, eqT, eqF, okF_0, okF_s, gF_0, gF_s, consC_o, sF_0, sF_s, clsO_o, inA_i, ldA_i, stA_i, inJ_l, ldJ_l, stJ_l, inR_r, ldR_r, stR_r, tgR_r, lenA_i, lenA_l, lenA_r, lenA_ex, nl_i, nl_o, nl_l, nl_n, wd_n, wd_i, wd_l, wd_o, fit_i, fit_l, fit_o, K_v, K_n, true_and, and_true, Nat.reduceAdd, Nat.reduceLeDiff, Nat.reduceEqDiff, Nat.reduceMul, Nat.reduceLT, reduceIte, true_or, or_true, cmp_lt, cmp_gt, cmp_eq, wb_0, b_01, cmp_lt', cmp_gt', cmp_eq', b_0, b_1, wb_1, Int.reduceSub, Int.reduceToNat, List.getD_cons_succ, List.getD_cons_zero, Int.reduceLE, Int.reduceLT, Int.reduceEq, Int.reduceNeg, Int.reduceAdd, Int.reduceMul, and_self, em_b, ne_eq, not_false_eq_true, not_true_eq_false]
    try rfl
  have hx := ext_t (ext_w (U := [2, 4]) f1 (by decide)) (ext_w (U := [2, 4]) g1 (by decide))
  have hd2 := DesP_e hF1 g1 (by decide) f4
  rcases f3 with ⟨z1, z2, z3⟩ | ⟨z1, z2, z3, z4⟩ <;> rcases g3 with ⟨x1, x2, x3⟩ | ⟨x1, x2, x3, x4⟩
  · exact ⟨h2, ow2, n2, n1, 0, 0, hx, Or.inl ⟨z1, rfl⟩, Or.inl ⟨x1, rfl⟩, by rw [x2, z2]; omega, by rw [x3, z2]; omega, g5, hd2, f5, g6, run⟩
  · exact ⟨h2, ow2, n2, n1, 0, 1, hx, Or.inl ⟨z1, rfl⟩, Or.inr ⟨x1, x2, rfl⟩, by rw [x3, z2], by rw [x4, z2]; omega, g5, hd2, f5, g6, run⟩
  · exact ⟨h2, ow2, n2, n1, 1, 0, hx, Or.inr ⟨z1, z2, rfl⟩, Or.inl ⟨x1, rfl⟩, by rw [x2, z3], by rw [x3, z4]; omega, g5, hd2, f5, g6, run⟩
  · exact ⟨h2, ow2, n2, n1, 1, 1, hx, Or.inr ⟨z1, z2, rfl⟩, Or.inr ⟨x1, x2, rfl⟩, by rw [x3, z3], by rw [x4, z4]; omega, g5, hd2, f5, g6, run⟩
