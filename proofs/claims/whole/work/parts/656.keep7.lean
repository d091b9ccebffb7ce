/-! Keeping: solve -/
theorem K_solve {ow : Nat → Nat} {h : PH} {ca : Nat} {c : KC} {sky e b n n2 kA l : Nat} {s : ST} {lf : Int} {cc wv po pm : PV} {i : Nat → Int} {kn fl : Int → Int} (hF : owF ow h) (hH : HoP ow h ca c sky e) (hs : okS c s) (hb : lfO lf b) (hn : szC c ≤ n) (hn1 : n ≤ 24000) (hn2 : szC c ≤ n2) (hn3 : n2 ≤ 24000) (hk10 : 10 ≤ kA) (hl10 : 10 ≤ l) (hne : l ≠ kA) (hkA : kA ≠ 41) (hl41 : l ≠ 41) (hko : ow kA ≠ 1) (hlo : ow l ≠ 1) (hk0 : ow kA ≠ 0) (hl0 : ow l ≠ 0) (h34 : hp h 34 = dkO (vr l) po pm) (h41 : hp h 41 = kpO i cc wv) (hkn : hp h kA = aI 0 n kn) (hfl : hp h l = aI 0 n2 fl) (hI : knI c sky b kn []) :
    ∃ (h' : PH) (i' : Nat → Int) (kn' fl' : Int → Int), chx ow [41, kA, l] h h' ∧ HoP ow h' ca c sky e ∧ hp h' 41 = kpO i' cc wv ∧ i' 2 = i 2 ∧ hp h' kA = aI 0 n kn' ∧ hp h' l = aI 0 n2 fl' ∧ knI c sky b kn' [] ∧ kn' (encC c s) ≠ 0 ∧ ∀ d Q, WP (d + 10) 53 0 [some (vr 41), some (vr 27), some (vr kA), some (vi (encC c s)), some (vi lf), none, none, none, none, none, none, none] [] h Q = Q none h' := by
  have hKC := hH
  obtain ⟨ih, A, a1, a2, a3, a4, a5, a6, a7, a8, hKC⟩ := hKC
  have hO := hKC.2.1
  have hK := hO.1
  have h24 := szC_le hK
  have hsl := encC_lt hK hs
  have rng := kn_rng hK hI hs
  obtain ⟨y4, y5, y6, y7, y8, y9, y10, y11, y14, y15, y17, hA⟩ := KCty_sz hKC
  by_cases h0 : kn (encC c s) = 0
  · have hch1 : chg ow [ow l] h (hup h l (aI 0 n2 (fset fl 0 (encC c s)))) := chg_up rfl (by simp)
    have hF1 := chg_F hch1 hF
    have hH1 := HoP_c hF hch1 (fun z => hl0 (List.mem_singleton.mp z).symm) (fun z => hlo (List.mem_singleton.mp z).symm) hH
    have hch2 : chg ow [ow kA] (hup h l (aI 0 n2 (fset fl 0 (encC c s)))) (hup (hup h l (aI 0 n2 (fset fl 0 (encC c s)))) kA (aI 0 n (fset kn (encC c s : Nat) (-1)))) := chg_up rfl (by simp)
    have hF2 := chg_F hch2 hF1
    have hH2 := HoP_c hF1 hch2 (fun z => hk0 (List.mem_singleton.mp z).symm) (fun z => hko (List.mem_singleton.mp z).symm) hH1
    have hP : pathA c [s] (fset fl 0 (encC c s)) := by
      intro j t hj
      have hl := (List.getElem?_eq_some_iff.mp hj).1
      simp only [List.length_singleton] at hl
      have ej : j = 0 := by omega
      rw [ej] at hj ⊢
      have et : s = t := Option.some.inj hj
      rw [← et]
      exact fs_same
    obtain ⟨h', i', kn', fl', D', b1, b2, b3, b4, b5, b6, b7, b8⟩ := K_solveLp (x3 := (encC c s : Int)) (e := e) hO hb hn hn1 hn2 hn3 hk10 hl10 hne hkA hl41 hko hlo hk0 hl0 (2 * szC c) 0 _ i _ _ [s] [] none none none (by omega) (Or.inr rfl) hF2 hH2 (by rw [hp_upn (fun z => hkA z.symm), hp_upn (fun z => hl41 z.symm)]; exact h41) hp_up1 (by rw [hp_upn hne, hp_up1]) (sl_start hK hs hI) hP
    refine ⟨h', i', kn', fl', chx_t (chx_t (chx_up (by simp)) (chx_up (by simp))) b1, b2, b3, b4, b5, b6, b7.1, ?_, fun d Q => ?_⟩
    · exact b7.2.2.2.2.1 s (by have := b7.2.2.2.2.2; simpa using this)
    · have b8' := b8 d Q
      rw [nc0] at b8'
      rw [← b8', show (([s] : List ST).length : Int) = 1 from rfl]
      have l9 : ¬ l = 9 := by omega
      have t27 : ow 27 = 1 := tg_ho hF (by omega) (by omega)
      have tca : ow ca = 0 := hKC.2.2.1 0 (by omega)
      have q1 : 27 ≠ l := fun z => hlo (by rw [← z]; exact t27)
      have q2 : 27 ≠ kA := fun z => hko (by rw [← z]; exact t27)
      have q3 : ca ≠ l := fun z => hl0 (by rw [← z]; exact tca)
      have q4 : ca ≠ kA := fun z => hk0 (by rw [← z]; exact tca)
      have e2 : 2 * (szC c : Int) = ((2 * szC c : Nat) : Int) := by omega
      simp (disch := omega) only [e_53_0, e_53_1, e_53_2, e_53_3, e_53_6, e_53_7, e_53_8, e_53_11, e_53_14, e_53_16, e_53_18, e_53_19, e_53_20, e_53_21, e_53_22, e_53_23, e_53_24, e_53_25, e_53_26, e_53_28, e_53_29, e_53_30, e_53_33, e_53_36, e_53_37, e_53_39, e_53_40, hA, h34, h41, hkn, hfl, a1, h0, hk10, hl10, hne, true_and, e2, l9, not_false_eq_true, kpO_c, kpO_g0, kpO_k0, kpO_g1, kpO_k1, kpO_s1, kpO_g2, kpO_k2, kpO_s2, kpO_g3, kpO_k3, kpO_s3, kpO_g4, kpO_k4, kpO_s4, kpO_g5, kpO_k5, kpO_g6, kpO_k6, dkO_c, dkO_g0, dkO_k0, dkO_s0, dkO_g1, dkO_k1, dkO_s1, dkO_g2, dkO_k2, dkO_s2, hoO_c, hoO_g0, hoO_k0, hoO_s0, hoO_g1, hoO_k1, hoO_s1, hoO_g2, hoO_k2, hoO_s2, hoO_g3, hoO_k3, hoO_g4, hoO_k4, hoO_g5, hoO_k5, hoO_g6, hoO_k6, hoO_g7, hoO_k7, hoO_g8, hoO_k8, hoO_g9, hoO_k9, hoO_s9, iup_s, iup_n, hp_up1, hp_upn, ne_eq, not_false_eq_true, sh_0, sh_1, sh_2, sh_3, sh_4, sh_5, sh_8, sh_15, sh_16, sh_24, Int.reducePow, Int.cast_ofNat_Int, w_of, wl_of, ltT, ltF, leT, leF, eqT, eqF, okF_0, okF_s, gF_0, gF_s, consC_o, sF_0, sF_s, clsO_o, inA_i, ldA_i, stA_i, inJ_l, ldJ_l, stJ_l, inR_r, ldR_r, stR_r, tgR_r, lenA_i, lenA_l, lenA_r, lenA_ex, nl_i, nl_o, nl_l, nl_n, wd_n, wd_i, wd_l, wd_o, fit_i, fit_l, fit_o, K_v, K_n, true_and, and_true, Nat.reduceAdd, Nat.reduceLeDiff, Nat.reduceEqDiff, Nat.reduceMul, Nat.reduceLT, reduceIte, true_or, or_true, cmp_lt, cmp_gt, cmp_eq, wb_0, b_01, cmp_lt', cmp_gt', cmp_eq', b_0, b_1, wb_1, Int.reduceSub, Int.reduceToNat, List.getD_cons_succ, List.getD_cons_zero, Int.reduceLE, Int.reduceLT, Int.reduceEq, Int.reduceNeg, Int.reduceAdd, Int.reduceMul, and_self, em_b, ne_eq, not_false_eq_true, not_true_eq_false]
      try rfl
  · refine ⟨h, i, kn, fl, chx_r, hH, h41, rfl, hkn, hfl, hI, h0, fun d Q => ?_⟩
    simp (disch := omega) only [e_53_0, e_53_1, e_53_2, e_53_3, e_53_6, hkn, kpO_c, kpO_g0, kpO_k0, kpO_g1, kpO_k1, kpO_s1, kpO_g2, kpO_k2, kpO_s2, kpO_g3, kpO_k3, kpO_s3, kpO_g4, kpO_k4, kpO_s4, kpO_g5, kpO_k5, kpO_g6, kpO_k6, dkO_c, dkO_g0, dkO_k0, dkO_s0, dkO_g1, dkO_k1, dkO_s1, dkO_g2, dkO_k2, dkO_s2, hoO_c, hoO_g0, hoO_k0, hoO_s0, hoO_g1, hoO_k1, hoO_s1, hoO_g2, hoO_k2, hoO_s2, hoO_g3, hoO_k3, hoO_g4, hoO_k4, hoO_g5, hoO_k5, hoO_g6, hoO_k6, hoO_g7, hoO_k7, hoO_g8, hoO_k8, hoO_g9, hoO_k9, hoO_s9, iup_s, iup_n, hp_up1, hp_upn, ne_eq, not_false_eq_true, sh_0, sh_1, sh_2, sh_3, sh_4, sh_5, sh_8, sh_15, sh_16, sh_24, Int.reducePow, Int.cast_ofNat_Int, w_of, wl_of, ltT, ltF, leT, leF, eqT, eqF, okF_0, okF_s, gF_0, gF_s, consC_o, sF_0, sF_s, clsO_o, inA_i, ldA_i, stA_i, inJ_l, ldJ_l, stJ_l, inR_r, ldR_r, stR_r, tgR_r, lenA_i, lenA_l, lenA_r, lenA_ex, nl_i, nl_o, nl_l, nl_n, wd_n, wd_i, wd_l, wd_o, fit_i, fit_l, fit_o, K_v, K_n, true_and, and_true, Nat.reduceAdd, Nat.reduceLeDiff, Nat.reduceEqDiff, Nat.reduceMul, Nat.reduceLT, reduceIte, true_or, or_true, cmp_lt, cmp_gt, cmp_eq, wb_0, b_01, cmp_lt', cmp_gt', cmp_eq', b_0, b_1, wb_1, Int.reduceSub, Int.reduceToNat, List.getD_cons_succ, List.getD_cons_zero, Int.reduceLE, Int.reduceLT, Int.reduceEq, Int.reduceNeg, Int.reduceAdd, Int.reduceMul, and_self, em_b, ne_eq, not_false_eq_true, not_true_eq_false]
    try rfl
def wrtR (c : KC) (sky b : Nat) (s : ST) (v : Int) : Prop := (v = 2147483647 ∧ endl c sky b s) ∨ ∃ m : Nat, v = ((m + 1 : Nat) : Int) ∧ valS c sky b s m ∧ m < 24000
theorem kn_wrt {c : KC} {sky b : Nat} {kn : Int → Int} {s : ST} (hK : okK c) (hs : okS c s) (hI : knI c sky b kn []) (h0 : kn (encC c s) ≠ 0) : wrtR c sky b s (kn (encC c s)) := by
  rcases hI s hs with ⟨h, -⟩ | ⟨-, h⟩ | ⟨h, h2, -⟩ | ⟨v, h, h2, -⟩
  · exact absurd h h0
  · cases h
  · exact Or.inl ⟨h, h2⟩
  · have := valS_lt hK hs h2
    have := szC_le hK
    exact Or.inr ⟨v, h, h2, by omega⟩
