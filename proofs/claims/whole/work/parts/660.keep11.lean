theorem K_longest {kc : Nat → KC} {ow : Nat → Nat} {h : PH} {ca : Nat} {c : KC} {sky e n nd : Nat} {s : ST} (hF : owF ow h) (hH : HoP ow h ca c sky e) (hkc : kc ca = c) (hD : DesP ow h nd) (hP : KepP kc ow h n) (hs : okS c s) :
    ∃ (h' : PH) (ow' : Nat → Nat) (n' nd' d1 d2 : Nat) (v : Int), extO ow h ow' h' [1, 2, 4] ∧ ((nd' = nd ∧ d1 = 0) ∨ (nd < nd' ∧ nd' = szC c ∧ d1 = 1)) ∧ ((n' = n ∧ d2 = 0) ∨ (n < n' ∧ n' = szC c ∧ d2 = 1)) ∧ h'.1 = h.1 + 3 * d1 + d2 ∧ h'.2.1 = h.2.1 + (3 * d1 + d2) * szC c ∧ HoP ow' h' ca c sky e ∧ DesP ow' h' nd' ∧ szC c ≤ nd' ∧ KepV ow' h' ca c sky n' ∧ lonR c sky 3 s v ∧ ∀ d Q, WP (d + 11) 50 0 [some (vr 41), some (vr 27), some (vi (encC c s))] [] h Q = Q (some (vi v)) h' := by
  obtain ⟨hO⟩ : Nonempty (okC c) := by obtain ⟨_, _, _, _, _, _, _, _, _, _, a9⟩ := hH; exact ⟨a9.2.1⟩
  have hK := hO.1
  have h24 := szC_le hK
  have hsl := encC_lt hK hs
  obtain ⟨q1, q2, q3, c41⟩ : ∃ i a b, hp h 41 = kpO i a b := by obtain ⟨i, cca, wA, fw, ⟨c1, _⟩, _⟩ := hP; exact ⟨_, _, _, c1⟩
  obtain ⟨h1, ow1, n1, nd1, d1, d2, f1, f2, f3, f4, f5, f6, f7, f8, f9, f10⟩ := K_prepare hF hH hkc hD hP
  have hF1 := ext_F f1 hF
  obtain ⟨i, wA, fw, ⟨k1, k2⟩, ⟨w1, w2, w3, w4⟩, v3, v4, v5⟩ := f9
  obtain ⟨l, o, m, fl, fo, fm, ⟨c1, c2, c3, c4⟩, x1, x2, x3, x4, x5, x6, x7, x8, x9, x10, x11, x12, x13⟩ := f7
  have t41 := tg_41 hF1
  have l41 : l ≠ 41 := fun z => by rw [z, t41] at x1; omega
  have m41 : m ≠ 41 := fun z => by rw [z, t41] at x3; omega
  have o41 : o ≠ 41 := fun z => by rw [z, t41] at x2; omega
  have lw : l ≠ wA := fun z => by rw [z, w1] at x1; omega
  have ow' : o ≠ wA := fun z => by rw [z, w1] at x2; omega
  have mw : m ≠ wA := fun z => by rw [z, w1] at x3; omega
  have ww : wA ≠ 41 := by omega
  obtain ⟨h', i', kn', fl', b1, b2, b3, b4, b5, b6, b7, b8, b9⟩ := K_solve (b := 3) (lf := -1) (po := vr o) (pm := vr m) hF1 f6 hs (Or.inl ⟨rfl, rfl⟩) v3 w4 f8 x13 (by omega) (by omega) lw ww l41 (by rw [w1]; decide) (by rw [x1]; decide) (by rw [w1]; decide) (by rw [x1]; decide) c1 k1 k2 c2 v5
  have wr := kn_wrt hK hs b7 b8
  have e1 := b1.1
  have e2 := b1.2.1
  have hD' : DesP ow1 h' nd1 := ⟨l, o, m, fl', fo, fm, ⟨by rw [b1.2.2 34 (by rw [tg_34 hF1]; decide) (by simp; omega)]; exact c1, b6, by rw [b1.2.2 o (by rw [x2]; decide) (by simp; exact ⟨o41, ow', fun z => x4 z.symm⟩)]; exact c3, by rw [b1.2.2 m (by rw [x3]; decide) (by simp; exact ⟨m41, mw, fun z => x5 z.symm⟩)]; exact c4⟩, x1, x2, x3, x4, x5, x6, x7, x8, x9, by rw [e1]; exact x10, by rw [e1]; exact x11, by rw [e1]; exact x12, x13⟩
  have hx : extO ow1 h1 ow1 h' [1, 2, 4] := ⟨by rw [e1]; exact Nat.le_refl _, fun _ _ => rfl, fun k k1 k2 => b1.2.2 k (fun z => k2 (by rw [z]; simp)) (fun z => k2 (by
    simp at z
    rcases z with z | z | z
    · rw [z, t41]; simp
    · rw [z, w1]; simp
    · rw [z, x1]; simp))⟩
  refine ⟨h', ow1, n1, nd1, d1, d2, if kn' (encC c s) = 2147483647 then -1 else kn' (encC c s) - 1, ext_t (ext_w f1 (by decide)) hx, f2, f3, by rw [e1]; exact f4, by rw [e2]; exact f5, b2, hD', f8, ⟨i', wA, kn', ⟨b3, b5⟩, ⟨w1, w2, by rw [e1]; exact w3, w4⟩, v3, by rw [b4]; exact v4, b7⟩, ?_, fun d Q => ?_⟩
  · rcases wr with ⟨z1, z2⟩ | ⟨v, z1, z2, z3⟩
    · rw [if_pos z1]; exact Or.inl ⟨rfl, z2⟩
    · rw [if_neg (by omega)]; exact Or.inr ⟨v, by omega, z2⟩
  · have f10' := fun (Q : PQ) => f10 (d + 7) Q
    have b9' := fun (Q : PQ) => b9 d Q
    have kr : -1 ≤ kn' (encC c s) ∧ kn' (encC c s) ≤ 2147483647 := by
      rcases wr with ⟨z1, z2⟩ | ⟨v, z1, z2, z3⟩ <;> omega
    by_cases hk : kn' (encC c s) = 2147483647
    · rw [if_pos hk]
      simp (disch := omega) only [e_50_0, e_50_1, e_50_2, e_50_5, e_50_6, e_50_7, e_50_8, e_50_11, e_50_12, e_50_13, e_50_16, e_50_17, e_50_20, e_50_21, e_50_22, e_50_24, e_50_27, e_50_28, e_50_31, e_50_32, e_50_35, e_50_36, e_50_37, e_50_38, e_50_39, c41, k1, f10', b9', b3, b5, hk, true_and, kpO_c, kpO_g0, kpO_k0, kpO_g1, kpO_k1, kpO_s1, kpO_g2, kpO_k2, kpO_s2, kpO_g3, kpO_k3, kpO_s3, kpO_g4, kpO_k4, kpO_s4, kpO_g5, kpO_k5, kpO_g6, kpO_k6, dkO_c, dkO_g0, dkO_k0, dkO_s0, dkO_g1, dkO_k1, dkO_s1, dkO_g2, dkO_k2, dkO_s2, hoO_c, hoO_g0, hoO_k0, hoO_s0, hoO_g1, hoO_k1, hoO_s1, hoO_g2, hoO_k2, hoO_s2, hoO_g3, hoO_k3, hoO_g4, hoO_k4, hoO_g5, hoO_k5, hoO_g6, hoO_k6, hoO_g7, hoO_k7, hoO_g8, hoO_k8, hoO_g9, hoO_k9, hoO_s9, iup_s, iup_n, hp_up1, hp_upn, ne_eq, not_false_eq_true, sh_0, sh_1, sh_2, sh_3, sh_4, sh_5, sh_8, sh_15, sh_16, sh_24, Int.reducePow, Int.cast_ofNat_Int, w_of, wl_of, ltT, ltF, leT, leF, eqT, eqF, okF_0, okF_s, gF_0, gF_s, consC_o, sF_0, sF_s, clsO_o, inA_i, ldA_i, stA_i, inJ_l, ldJ_l, stJ_l, inR_r, ldR_r, stR_r, tgR_r, lenA_i, lenA_l, lenA_r, lenA_ex, nl_i, nl_o, nl_l, nl_n, wd_n, wd_i, wd_l, wd_o, fit_i, fit_l, fit_o, K_v, K_n, true_and, and_true, Nat.reduceAdd, Nat.reduceLeDiff, Nat.reduceEqDiff, Nat.reduceMul, Nat.reduceLT, reduceIte, true_or, or_true, cmp_lt, cmp_gt, cmp_eq, wb_0, b_01, cmp_lt', cmp_gt', cmp_eq', b_0, b_1, wb_1, Int.reduceSub, Int.reduceToNat, List.getD_cons_succ, List.getD_cons_zero, Int.reduceLE, Int.reduceLT, Int.reduceEq, Int.reduceNeg, Int.reduceAdd, Int.reduceMul, and_self, em_b, ne_eq, not_false_eq_true, not_true_eq_false]
      try rfl
    · rw [if_neg hk]
      simp (disch := omega) only [e_50_0, e_50_1, e_50_2, e_50_5, e_50_6, e_50_7, e_50_8, e_50_11, e_50_12, e_50_13, e_50_16, e_50_17, e_50_20, e_50_21, e_50_22, e_50_24, e_50_27, e_50_28, e_50_31, e_50_32, e_50_35, e_50_36, e_50_37, e_50_38, e_50_39, c41, k1, f10', b9', b3, b5, hk, true_and, kpO_c, kpO_g0, kpO_k0, kpO_g1, kpO_k1, kpO_s1, kpO_g2, kpO_k2, kpO_s2, kpO_g3, kpO_k3, kpO_s3, kpO_g4, kpO_k4, kpO_s4, kpO_g5, kpO_k5, kpO_g6, kpO_k6, dkO_c, dkO_g0, dkO_k0, dkO_s0, dkO_g1, dkO_k1, dkO_s1, dkO_g2, dkO_k2, dkO_s2, hoO_c, hoO_g0, hoO_k0, hoO_s0, hoO_g1, hoO_k1, hoO_s1, hoO_g2, hoO_k2, hoO_s2, hoO_g3, hoO_k3, hoO_g4, hoO_k4, hoO_g5, hoO_k5, hoO_g6, hoO_k6, hoO_g7, hoO_k7, hoO_g8, hoO_k8, hoO_g9, hoO_k9, hoO_s9, iup_s, iup_n, hp_up1, hp_upn, ne_eq, not_false_eq_true, sh_0, sh_1, sh_2, sh_3, sh_4, sh_5, sh_8, sh_15, sh_16, sh_24, Int.reducePow, Int.cast_ofNat_Int, w_of, wl_of, ltT, ltF, leT, leF, eqT, eqF, okF_0, okF_s, gF_0, gF_s, consC_o, sF_0, sF_s, clsO_o, inA_i, ldA_i, stA_i, inJ_l, ldJ_l, stJ_l, inR_r, ldR_r, stR_r, tgR_r, lenA_i, lenA_l, lenA_r, lenA_ex, nl_i, nl_o, nl_l, nl_n, wd_n, wd_i, wd_l, wd_o, fit_i, fit_l, fit_o, K_v, K_n, true_and, and_true, Nat.reduceAdd, Nat.reduceLeDiff, Nat.reduceEqDiff, Nat.reduceMul, Nat.reduceLT, reduceIte, true_or, or_true, cmp_lt, cmp_gt, cmp_eq, wb_0, b_01, cmp_lt', cmp_gt', cmp_eq', b_0, b_1, wb_1, Int.reduceSub, Int.reduceToNat, List.getD_cons_succ, List.getD_cons_zero, Int.reduceLE, Int.reduceLT, Int.reduceEq, Int.reduceNeg, Int.reduceAdd, Int.reduceMul, and_self, em_b, ne_eq, not_false_eq_true, not_true_eq_false]
      try rfl
