/-! Keeping: its calls -/
def lonR (c : KC) (sky b : Nat) (s : ST) (v : Int) : Prop := (v = -1 ∧ endl c sky b s) ∨ ∃ m : Nat, v = (m : Int) ∧ valS c sky b s m
theorem kn_fill {c : KC} {sky b n z : Nat} {f : Int → Int} (hK : okK c) (hz : szC c ≤ z) : knI c sky b (fillF f 0 (z : Int) 0) [] := by
  intro s hs
  have := encC_lt hK hs
  refine Or.inl ⟨?_, fun w => by cases w⟩
  unfold fillF
  rw [if_pos ⟨by omega, by omega⟩]
theorem K_without {ow : Nat → Nat} {h : PH} {ca : Nat} {c : KC} {sky e b n : Nat} {s : ST} {lf : Int} {cc wv : PV} {i : Nat → Int} (hF : owF ow h) (hH : HoP ow h ca c sky e) (hD : DesP ow h n) (h41 : hp h 41 = kpO i cc wv) (hs : okS c s) (hb : lfO lf b) :
    ∃ (h' : PH) (ow' : Nat → Nat) (n' : Nat) (i' : Nat → Int) (v : Int), h.1 ≤ h'.1 ∧ (∀ k, k < h.1 → ow' k = ow k) ∧ (∀ k, k < h.1 → ow k ≠ 1 → ow k ≠ 2 → k ≠ 41 → hp h' k = hp h k) ∧ (∀ k, h.1 ≤ k → k < h'.1 → ow' k = 2) ∧ ((n' = n ∧ h'.1 = h.1 ∧ h'.2.1 = h.2.1) ∨ (n < n' ∧ n' = szC c ∧ h'.1 = h.1 + 3 ∧ h'.2.1 = h.2.1 + szC c + szC c + szC c)) ∧ DesP ow' h' n' ∧ HoP ow' h' ca c sky e ∧ hp h' 41 = kpO i' cc wv ∧ i' 2 = i 2 ∧ lonR c sky b s v ∧ ∀ d Q, WP (d + 11) 51 0 [some (vr 41), some (vr 27), some (vi (encC c s)), some (vi lf)] [] h Q = Q (some (vi v)) h' := by
  have hKC := hH
  obtain ⟨ih, A, a1, a2, a3, a4, a5, a6, a7, a8, hKC⟩ := hKC
  have hO := hKC.2.1
  have hK := hO.1
  have h24 := szC_le hK
  have hsl := encC_lt hK hs
  have h90 := hF.1
  obtain ⟨y4, y5, y6, y7, y8, y9, y10, y11, y14, y15, y17, hA⟩ := KCty_sz hKC
  obtain ⟨h1, ow1, n1, f1, f2, f3, f4, f5, f6⟩ := D_fit (z := szC c) hF hD h24
  have hF1 := ext_F f1 hF
  have hH1 := HoP_e hF f1 (by decide) (by decide) hH
  have e41 : hp h1 41 = kpO i cc wv := by rw [f1.2.2 41 (by omega) (by rw [tg_41 hF]; decide)]; exact h41
  obtain ⟨ih1, g27⟩ : ∃ i, hp h1 27 = hoO i (vr ca) := by obtain ⟨i, A, a1, _⟩ := hH1; exact ⟨i, a1⟩
  have eA : hp h1 ca = hp h ca := f1.2.2 ca (by have := hKC.2.2.2.2; omega) (by rw [show ow ca = 0 from hKC.2.2.1 0 (by omega)]; decide)
  obtain ⟨l, o, m, fl, fo, fm, hdH, hdW⟩ := f4
  have clr := D_clear hF1 hdH hdW f5
  have hdH' := hdH
  have hdW' := hdW
  obtain ⟨c1, c2, c3, c4⟩ := hdH
  obtain ⟨w1, w2, w3, w4, w5, w6, w7, w8, w9, w10, w11, w12, w13⟩ := hdW
  have hch : chg ow1 [2] h1 (hup h1 m (aI 0 n1 (fillF fm 0 (szC c : Nat) 0))) := chg_up w3 (by decide)
  have hF2 := chg_F hch hF1
  have hH2 := HoP_c hF1 hch (by decide) (by decide) hH1
  have t41 := tg_41 hF1
  have m41 : m ≠ 41 := fun z => by rw [z, t41] at w3; omega
  have l41 : l ≠ 41 := fun z => by rw [z, t41] at w1; omega
  have o41 : o ≠ 41 := fun z => by rw [z, t41] at w2; omega
  obtain ⟨h', i', kn', fl', b1, b2, b3, b4, b5, b6, b7, b8, b9⟩ := K_solve (po := vr o) (pm := vr m) hF2 hH2 hs hb f5 w13 f5 w13 (by omega) (by omega) w5 m41 l41 (by rw [w3]; decide) (by rw [w1]; decide) (by rw [w3]; decide) (by rw [w1]; decide) (by rw [hp_upn (by omega)]; exact c1) (by rw [hp_upn (fun z => m41 z.symm)]; exact e41) hp_up1 (by rw [hp_upn w5]; exact c2) (kn_fill (sky := sky) (b := b) (n := n1) hK (Nat.le_refl _))
  have wr := kn_wrt hK hs b7 b8
  have e1 := b1.1
  have e2 := b1.2.1
  have hD' : DesP ow1 h' n1 := ⟨l, o, m, fl', fo, kn', ⟨by rw [b1.2.2 34 (by rw [tg_34 hF1]; decide) (by simp; omega), hp_upn (by omega)]; exact c1, b6, by rw [b1.2.2 o (by rw [w2]; decide) (by simp; exact ⟨o41, w6, fun z => w4 z.symm⟩), hp_upn w6]; exact c3, b5⟩, w1, w2, w3, w4, w5, w6, w7, w8, w9, by rw [e1]; exact w10, by rw [e1]; exact w11, by rw [e1]; exact w12, w13⟩
  refine ⟨h', ow1, n1, i', if kn' (encC c s) = 2147483647 then -1 else kn' (encC c s) - 1, by rw [e1]; exact f1.1, f1.2.1, fun k k1 k2 k3 k4 => ?_, fun k k1 k2 => f2 k k1 (by rw [e1] at k2; exact k2), ?_, hD', b2, b3, b4, ?_, fun d Q => ?_⟩
  · have t := f1.2.1 k k1
    rw [b1.2.2 k (by rw [t]; exact k2) (by simp; exact ⟨k4, fun z => k3 (by rw [← t, z]; exact w3), fun z => k3 (by rw [← t, z]; exact w1)⟩), hp_upn (fun z => k3 (by rw [← t, z]; exact w3))]
    exact f1.2.2 k k1 (by simp; exact k3)
  · rcases f3 with ⟨z1, z2, z3⟩ | ⟨z1, z2, z3, z4⟩
    · exact Or.inl ⟨z1, by rw [e1, ← z2]; rfl, by rw [e2, ← z2]; rfl⟩
    · exact Or.inr ⟨z1, z2, by rw [e1]; exact z3, by rw [e2]; exact z4⟩
  · rcases wr with ⟨z1, z2⟩ | ⟨v, z1, z2, z3⟩
    · rw [if_pos z1]; exact Or.inl ⟨rfl, z2⟩
    · rw [if_neg (by omega)]; exact Or.inr ⟨v, by omega, z2⟩
  · have clr' := fun (Q : PQ) => clr (d + 8) Q
    have b9' := fun (Q : PQ) => b9 d Q
    have kr : -1 ≤ kn' (encC c s) ∧ kn' (encC c s) ≤ 2147483647 := by
      rcases wr with ⟨z1, z2⟩ | ⟨v, z1, z2, z3⟩ <;> omega
    obtain ⟨p1, p2, p3, d34⟩ : ∃ a b c, hp h 34 = dkO a b c := by obtain ⟨l, o, m, _, _, _, ⟨z, _⟩, _⟩ := hD; exact ⟨_, _, _, z⟩
    have d34' : hp h' 34 = dkO (vr l) (vr o) (vr m) := by rw [b1.2.2 34 (by rw [tg_34 hF1]; decide) (by simp; omega), hp_upn (by omega)]; exact c1
    rw [hA] at eA
    by_cases hk : kn' (encC c s) = 2147483647
    · rw [if_pos hk]
      simp (disch := omega) only [e_51_0, e_51_1, e_51_4, e_51_5, e_51_8, e_51_11, e_51_14, e_51_15, e_51_18, e_51_19, e_51_22, e_51_25, e_51_28, e_51_29, e_51_30, e_51_31, e_51_34, e_51_37, e_51_38, e_51_39, e_51_42, e_51_43, e_51_46, e_51_49, e_51_50, e_51_51, e_51_53, e_51_56, e_51_57, e_51_60, e_51_61, e_51_64, e_51_67, e_51_68, e_51_69, e_51_70, e_51_71, hA, eA, a1, g27, h41, e41, c1, f6, clr', b9', b3, b5, hk, d34, d34', true_and, kpO_c, kpO_g0, kpO_k0, kpO_g1, kpO_k1, kpO_s1, kpO_g2, kpO_k2, kpO_s2, kpO_g3, kpO_k3, kpO_s3, kpO_g4, kpO_k4, kpO_s4, kpO_g5, kpO_k5, kpO_g6, kpO_k6, dkO_c, dkO_g0, dkO_k0, dkO_s0, dkO_g1, dkO_k1, dkO_s1, dkO_g2, dkO_k2, dkO_s2, hoO_c, hoO_g0, hoO_k0, hoO_s0, hoO_g1, hoO_k1, hoO_s1, hoO_g2, hoO_k2, hoO_s2, hoO_g3, hoO_k3, hoO_g4, hoO_k4, hoO_g5, hoO_k5, hoO_g6, hoO_k6, hoO_g7, hoO_k7, hoO_g8, hoO_k8, hoO_g9, hoO_k9, hoO_s9, iup_s, iup_n, hp_up1, hp_upn, ne_eq, not_false_eq_true, sh_0, sh_1, sh_2, sh_3, sh_4, sh_5, sh_8, sh_15, sh_16, sh_24, Int.reducePow, Int.cast_ofNat_Int, w_of, wl_of, ltT, ltF, leT, leF, eqT, eqF, okF_0, okF_s, gF_0, gF_s, consC_o, sF_0, sF_s, clsO_o, inA_i, ldA_i, stA_i, inJ_l, ldJ_l, stJ_l, inR_r, ldR_r, stR_r, tgR_r, lenA_i, lenA_l, lenA_r, lenA_ex, nl_i, nl_o, nl_l, nl_n, wd_n, wd_i, wd_l, wd_o, fit_i, fit_l, fit_o, K_v, K_n, true_and, and_true, Nat.reduceAdd, Nat.reduceLeDiff, Nat.reduceEqDiff, Nat.reduceMul, Nat.reduceLT, reduceIte, true_or, or_true, cmp_lt, cmp_gt, cmp_eq, wb_0, b_01, cmp_lt', cmp_gt', cmp_eq', b_0, b_1, wb_1, Int.reduceSub, Int.reduceToNat, List.getD_cons_succ, List.getD_cons_zero, Int.reduceLE, Int.reduceLT, Int.reduceEq, Int.reduceNeg, Int.reduceAdd, Int.reduceMul, and_self, em_b, ne_eq, not_false_eq_true, not_true_eq_false]
      try rfl
    · rw [if_neg hk]
      simp (disch := omega) only [e_51_0, e_51_1, e_51_4, e_51_5, e_51_8, e_51_11, e_51_14, e_51_15, e_51_18, e_51_19, e_51_22, e_51_25, e_51_28, e_51_29, e_51_30, e_51_31, e_51_34, e_51_37, e_51_38, e_51_39, e_51_42, e_51_43, e_51_46, e_51_49, e_51_50, e_51_51, e_51_53, e_51_56, e_51_57, e_51_60, e_51_61, e_51_64, e_51_67, e_51_68, e_51_69, e_51_70, e_51_71, hA, eA, a1, g27, h41, e41, c1, f6, clr', b9', b3, b5, hk, d34, d34', true_and, kpO_c, kpO_g0, kpO_k0, kpO_g1, kpO_k1, kpO_s1, kpO_g2, kpO_k2, kpO_s2, kpO_g3, kpO_k3, kpO_s3, kpO_g4, kpO_k4, kpO_s4, kpO_g5, kpO_k5, kpO_g6, kpO_k6, dkO_c, dkO_g0, dkO_k0, dkO_s0, dkO_g1, dkO_k1, dkO_s1, dkO_g2, dkO_k2, dkO_s2, hoO_c, hoO_g0, hoO_k0, hoO_s0, hoO_g1, hoO_k1, hoO_s1, hoO_g2, hoO_k2, hoO_s2, hoO_g3, hoO_k3, hoO_g4, hoO_k4, hoO_g5, hoO_k5, hoO_g6, hoO_k6, hoO_g7, hoO_k7, hoO_g8, hoO_k8, hoO_g9, hoO_k9, hoO_s9, iup_s, iup_n, hp_up1, hp_upn, ne_eq, not_false_eq_true, sh_0, sh_1, sh_2, sh_3, sh_4, sh_5, sh_8, sh_15, sh_16, sh_24, Int.reducePow, Int.cast_ofNat_Int, w_of, wl_of, ltT, ltF, leT, leF, eqT, eqF, okF_0, okF_s, gF_0, gF_s, consC_o, sF_0, sF_s, clsO_o, inA_i, ldA_i, stA_i, inJ_l, ldJ_l, stJ_l, inR_r, ldR_r, stR_r, tgR_r, lenA_i, lenA_l, lenA_r, lenA_ex, nl_i, nl_o, nl_l, nl_n, wd_n, wd_i, wd_l, wd_o, fit_i, fit_l, fit_o, K_v, K_n, true_and, and_true, Nat.reduceAdd, Nat.reduceLeDiff, Nat.reduceEqDiff, Nat.reduceMul, Nat.reduceLT, reduceIte, true_or, or_true, cmp_lt, cmp_gt, cmp_eq, wb_0, b_01, cmp_lt', cmp_gt', cmp_eq', b_0, b_1, wb_1, Int.reduceSub, Int.reduceToNat, List.getD_cons_succ, List.getD_cons_zero, Int.reduceLE, Int.reduceLT, Int.reduceEq, Int.reduceNeg, Int.reduceAdd, Int.reduceMul, and_self, em_b, ne_eq, not_false_eq_true, not_true_eq_false]
      try rfl
