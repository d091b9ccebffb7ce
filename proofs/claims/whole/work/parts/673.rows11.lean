/-! THE CLASS: Rows, deedAt -/
def AhP (h : PH) : Prop := hp h 49 = aR 1 8 ahF ∧ (∀ u, u < 8 → ∃ f, hp h (50 + u) = aI 0 16 f) ∧ ∃ f, hp h 58 = aI 0 16 f
theorem dAt_Lp {ow : Nat → Nat} {ca : Nat} {c : KC} {sky e : Nat} {i : Nat → Int} {dl dx dm nd I : Nat} {pa pb : PV} {fw : Int → Int} {lw : List Int} {x2 : Int} (hO : okC c) (hI : I < lw.length) (hi : i 4 = (lw.length : Int)) (hl : lw.length ≤ 8) (hn2 : szC c ≤ nd) (hn3 : nd ≤ 24000) (om : ow dm = 2) (om2 : 34 < dm) (hfw : ∀ k, k < lw.length → fw k = lw.getD k 0) (hb : ∀ k, k < lw.length → -1 ≤ lw.getD k 0 ∧ lw.getD k 0 < 5) :
    ∀ (q lev r : Nat) (h : PH) (fm f58 : Int → Int) (t : ST) (x5 : Int) (o7 : Option PV), lev + q = I → lev + (r + 1) = lw.length → okS c t → AhS ow h ca c sky e i dl dx dm nd pa pb fw fm → mkI c sky lw fm → hp h 58 = aI 0 16 f58 → 0 < cmF c sky lw (r + 1) lev t →
    ∃ (h' : PH) (fm' f58' : Int → Int) (v : Int), chz ow dm 0 h h' ∧ AhS ow h' ca c sky e i dl dx dm nd pa pb fw fm' ∧ hp h' 58 = aI 0 16 f58' ∧ sbA c sky lw (r + 1) lev t q v ∧ ∀ d Q, WP (d + 18) 85 50 [some (vr 45), some (vr 27), some (vi x2), some (vi I), some (vi (encC c t)), some (vi x5), some (vi lev), o7] [] h Q = Q (some (vi v)) h' := by
  intro q
  induction q with
  | zero =>
    intro lev r h fm f58 t x5 o7 hq hr ht hA hm h58 hc
    have hA' := hA
    obtain ⟨h1, h2, h3, h4, h5, h6, h7, h8⟩ := hA
    obtain ⟨h', fm', f50, f58', w, b1, b2, b3, b4, b5, b6, b7⟩ := Ro_first hO ht hr hi hl hn2 hn3 om om2 hfw hb hA' hm h58
    rcases b6 with ⟨-, z⟩ | ⟨m, k, k1, k2, k3, k4, k5⟩
    · exact absurd hc z
    · refine ⟨h', fm', f58', deedM m, chz_w b1 (by omega), b2, b4, ⟨m, k3, rfl⟩, fun d Q => ?_⟩
      subst k2
      have b7' := fun (Q : PQ) => b7 (d + 8 - (r + 1)) Q
      rw [show d + 8 - (r + 1) + 9 + (r + 1) = d + 17 by omega] at b7'
      obtain ⟨c1, c2, c3, c4, c5, c6, c7, c8⟩ := b2
      have av := ah_at (v := lev) (by omega)
      simp (disch := omega) only [e_85_0, e_85_1, e_85_4, e_85_5, e_85_8, e_85_11, e_85_12, e_85_13, e_85_14, e_85_17, e_85_18, e_85_21, e_85_24, e_85_27, e_85_28, e_85_31, e_85_32, e_85_35, e_85_38, e_85_41, e_85_42, e_85_44, e_85_45, e_85_47, e_85_48, e_85_50, e_85_52, e_85_53, e_85_56, e_85_58, e_85_59, e_85_62, e_85_65, e_85_66, e_85_67, e_85_69, e_85_71, e_85_74, e_85_76, e_85_78, e_85_79, e_85_82, e_85_83, e_85_84, e_85_85, e_85_88, e_85_90, e_85_91, e_85_93, e_85_94, e_85_97, e_85_99, e_85_100, e_85_102, e_85_103, e_85_105, e_85_108, e_85_111, e_85_113, h4, hi, b7', c4, c6, b4, b5, k4, k5, av, true_and, rwO_c, rwO_g0, rwO_k0, rwO_g1, rwO_k1, rwO_s1, rwO_g2, rwO_k2, rwO_s2, rwO_g3, rwO_k3, rwO_g4, rwO_k4, rwO_s4, rwO_g5, rwO_k5, rwO_g6, rwO_k6, dkO_c, dkO_g0, dkO_k0, dkO_s0, dkO_g1, dkO_k1, dkO_s1, dkO_g2, dkO_k2, dkO_s2, hoO_c, hoO_g0, hoO_k0, hoO_s0, hoO_g1, hoO_k1, hoO_s1, hoO_g2, hoO_k2, hoO_s2, hoO_g3, hoO_k3, hoO_g4, hoO_k4, hoO_g5, hoO_k5, hoO_g6, hoO_k6, hoO_g7, hoO_k7, hoO_g8, hoO_k8, hoO_g9, hoO_k9, hoO_s9, iup_s, iup_n, hp_up1, hp_upn, ne_eq, not_false_eq_true, sh_0, sh_1, sh_2, sh_3, sh_4, sh_5, sh_8, sh_15, sh_16, sh_24, Int.reducePow, Int.cast_ofNat_Int, w_of, wl_of, ltT, ltF, leT, leF, eqT, eqF, okF_0, okF_s, gF_0, gF_s, consC_o, sF_0, sF_s, clsO_o, inA_i, ldA_i, stA_i, inJ_l, ldJ_l, stJ_l, inR_r, ldR_r, stR_r, tgR_r, lenA_i, lenA_l, lenA_r, lenA_ex, nl_i, nl_o, nl_l, nl_n, wd_n, wd_i, wd_l, wd_o, fit_i, fit_l, fit_o, K_v, K_n, true_and, and_true, Nat.reduceAdd, Nat.reduceLeDiff, Nat.reduceEqDiff, Nat.reduceMul, Nat.reduceLT, reduceIte, true_or, or_true, cmp_lt, cmp_gt, cmp_eq, wb_0, b_01, cmp_lt', cmp_gt', cmp_eq', b_0, b_1, wb_1, Int.reduceSub, Int.reduceToNat, List.getD_cons_succ, List.getD_cons_zero, Int.reduceLE, Int.reduceLT, Int.reduceEq, Int.reduceNeg, Int.reduceAdd, Int.reduceMul, and_self, em_b, ne_eq, not_false_eq_true, not_true_eq_false]
      try rfl
  | succ q ih =>
    intro lev r h fm f58 t x5 o7 hq hr ht hA hm h58 hc
    have hA' := hA
    obtain ⟨h1, h2, h3, h4, h5, h6, h7, h8⟩ := hA
    obtain ⟨h', fm', f50, f58', w, b1, b2, b3, b4, b5, b6, b7⟩ := Ro_first hO ht hr hi hl hn2 hn3 om om2 hfw hb hA' hm h58
    rcases b6 with ⟨-, z⟩ | ⟨m, k, k1, k2, k3, k4, k5⟩
    · exact absurd hc z
    · obtain ⟨r', hr'⟩ : ∃ r', r = r' + 1 := ⟨r - 1, by omega⟩
      subst hr'
      have hto : okS c (toM c sky t m) := nx_ok (sky := sky) ht (nx_mem.mpr ⟨m, k3.1, k3.2.1.1, rfl⟩)
      obtain ⟨h2', fm2, g58, v, d1, d2, d3, d4, d5⟩ := ih (lev + 1) r' h' fm' f58' (toM c sky t m) (deedM m) (some (vi k)) (by omega) (by omega) hto b2 b3 b4 k3.2.1.2.2
      refine ⟨h2', fm2, g58, v, chz_t (chz_w b1 (by omega)) d1, d2, d3, ⟨m, k3, d4⟩, fun d Q => ?_⟩
      subst k2
      rw [← d5 d Q]
      have b7' := fun (Q : PQ) => b7 (d + 8 - (r' + 1 + 1)) Q
      rw [show d + 8 - (r' + 1 + 1) + 9 + (r' + 1 + 1) = d + 17 by omega] at b7'
      obtain ⟨c1, c2, c3, c4, c5, c6, c7, c8⟩ := b2
      have av := ah_at (v := lev) (by omega)
      have el : (lev : Int) + 1 = ((lev + 1 : Nat) : Int) := by omega
      rw [e_85_50]
      simp (disch := omega) only [e_85_52, e_85_53, e_85_56, e_85_58, e_85_59, e_85_62, e_85_65, e_85_66, e_85_67, e_85_69, e_85_71, e_85_74, e_85_76, e_85_78, e_85_79, e_85_82, e_85_83, e_85_84, e_85_85, e_85_88, e_85_90, e_85_91, e_85_93, e_85_94, e_85_97, e_85_99, e_85_100, e_85_102, e_85_103, e_85_105, e_85_108, h4, hi, b7', c4, c6, b4, b5, k4, k5, av, el, true_and, rwO_c, rwO_g0, rwO_k0, rwO_g1, rwO_k1, rwO_s1, rwO_g2, rwO_k2, rwO_s2, rwO_g3, rwO_k3, rwO_g4, rwO_k4, rwO_s4, rwO_g5, rwO_k5, rwO_g6, rwO_k6, dkO_c, dkO_g0, dkO_k0, dkO_s0, dkO_g1, dkO_k1, dkO_s1, dkO_g2, dkO_k2, dkO_s2, hoO_c, hoO_g0, hoO_k0, hoO_s0, hoO_g1, hoO_k1, hoO_s1, hoO_g2, hoO_k2, hoO_s2, hoO_g3, hoO_k3, hoO_g4, hoO_k4, hoO_g5, hoO_k5, hoO_g6, hoO_k6, hoO_g7, hoO_k7, hoO_g8, hoO_k8, hoO_g9, hoO_k9, hoO_s9, iup_s, iup_n, hp_up1, hp_upn, ne_eq, not_false_eq_true, sh_0, sh_1, sh_2, sh_3, sh_4, sh_5, sh_8, sh_15, sh_16, sh_24, Int.reducePow, Int.cast_ofNat_Int, w_of, wl_of, ltT, ltF, leT, leF, eqT, eqF, okF_0, okF_s, gF_0, gF_s, consC_o, sF_0, sF_s, clsO_o, inA_i, ldA_i, stA_i, inJ_l, ldJ_l, stJ_l, inR_r, ldR_r, stR_r, tgR_r, lenA_i, lenA_l, lenA_r, lenA_ex, nl_i, nl_o, nl_l, nl_n, wd_n, wd_i, wd_l, wd_o, fit_i, fit_l, fit_o, K_v, K_n, true_and, and_true, Nat.reduceAdd, Nat.reduceLeDiff, Nat.reduceEqDiff, Nat.reduceMul, Nat.reduceLT, reduceIte, true_or, or_true, cmp_lt, cmp_gt, cmp_eq, wb_0, b_01, cmp_lt', cmp_gt', cmp_eq', b_0, b_1, wb_1, Int.reduceSub, Int.reduceToNat, List.getD_cons_succ, List.getD_cons_zero, Int.reduceLE, Int.reduceLT, Int.reduceEq, Int.reduceNeg, Int.reduceAdd, Int.reduceMul, and_self, em_b, ne_eq, not_false_eq_true, not_true_eq_false]
      try rfl
theorem Ro_deedAt {ow : Nat → Nat} {h : PH} {ca : Nat} {c : KC} {sky e n nd I : Nat} {lw : List Int} {s : ST} (hF : owF ow h) (hH : HoP ow h ca c sky e) (hD : DesP ow h nd) (hV : RowV ow h n lw) (hP : AhP h) (hs : okS c s) (hI : I < lw.length) (hb : ∀ k, k < lw.length → -1 ≤ lw.getD k 0 ∧ lw.getD k 0 < 5) :
    ∃ (h' : PH) (ow' : Nat → Nat) (nd' d1 : Nat) (v : Int), extO ow h ow' h' [1, 2, 20] ∧ ((nd' = nd ∧ d1 = 0) ∨ (nd < nd' ∧ nd' = szC c ∧ d1 = 1)) ∧ h'.1 = h.1 + 3 * d1 ∧ h'.2.1 = h.2.1 + 3 * d1 * szC c ∧ HoP ow' h' ca c sky e ∧ DesP ow' h' nd' ∧ RowV ow' h' n lw ∧ AhP h' ∧ ((¬ 0 < cmF c sky lw lw.length 0 s ∧ v = -1) ∨ (0 < cmF c sky lw lw.length 0 s ∧ sbA c sky lw lw.length 0 s I v)) ∧ ∀ d Q, WP (d + 18) 85 0 [some (vr 45), some (vr 27), some (vi (encC c s)), some (vi I), none, none, none, none] [] h Q = Q (some (vi v)) h' := by
  have hKC := hH
  obtain ⟨ih, A, a1, a2, a3, a4, a5, a6, a7, a8, hKC⟩ := hKC
  have hO := hKC.2.1
  have hK := hO.1
  have h24 := szC_le hK
  have h90 := hF.1
  obtain ⟨y4, y5, y6, y7, y8, y9, y10, y11, y14, y15, y17, hA⟩ := KCty_sz hKC
  have dn := fun (d : Nat) (Q : PQ) => c_isDown (d := d) (Q := Q) hK hKC.1 hs
  obtain ⟨r, hr⟩ : ∃ r, lw.length = r + 1 := ⟨lw.length - 1, by omega⟩
  by_cases hd : downB c s = true
  · simp only [hd, if_true] at dn
    refine ⟨h, ow, nd, 0, -1, ext_r, Or.inl ⟨rfl, rfl⟩, by omega, by omega, hH, hD, hV, hP, Or.inl ⟨?_, rfl⟩, fun d Q => ?_⟩
    · rw [hr, cm_ok hK, nx_down hd]
      rintro ⟨x, x1, -⟩
      cases x1
    · simp (disch := omega) only [e_85_0, e_85_1, e_85_4, e_85_5, e_85_8, e_85_11, e_85_12, a1, hA, dn, true_and, rwO_c, rwO_g0, rwO_k0, rwO_g1, rwO_k1, rwO_s1, rwO_g2, rwO_k2, rwO_s2, rwO_g3, rwO_k3, rwO_g4, rwO_k4, rwO_s4, rwO_g5, rwO_k5, rwO_g6, rwO_k6, dkO_c, dkO_g0, dkO_k0, dkO_s0, dkO_g1, dkO_k1, dkO_s1, dkO_g2, dkO_k2, dkO_s2, hoO_c, hoO_g0, hoO_k0, hoO_s0, hoO_g1, hoO_k1, hoO_s1, hoO_g2, hoO_k2, hoO_s2, hoO_g3, hoO_k3, hoO_g4, hoO_k4, hoO_g5, hoO_k5, hoO_g6, hoO_k6, hoO_g7, hoO_k7, hoO_g8, hoO_k8, hoO_g9, hoO_k9, hoO_s9, iup_s, iup_n, hp_up1, hp_upn, ne_eq, not_false_eq_true, sh_0, sh_1, sh_2, sh_3, sh_4, sh_5, sh_8, sh_15, sh_16, sh_24, Int.reducePow, Int.cast_ofNat_Int, w_of, wl_of, ltT, ltF, leT, leF, eqT, eqF, okF_0, okF_s, gF_0, gF_s, consC_o, sF_0, sF_s, clsO_o, inA_i, ldA_i, stA_i, inJ_l, ldJ_l, stJ_l, inR_r, ldR_r, stR_r, tgR_r, lenA_i, lenA_l, lenA_r, lenA_ex, nl_i, nl_o, nl_l, nl_n, wd_n, wd_i, wd_l, wd_o, fit_i, fit_l, fit_o, K_v, K_n, true_and, and_true, Nat.reduceAdd, Nat.reduceLeDiff, Nat.reduceEqDiff, Nat.reduceMul, Nat.reduceLT, reduceIte, true_or, or_true, cmp_lt, cmp_gt, cmp_eq, wb_0, b_01, cmp_lt', cmp_gt', cmp_eq', b_0, b_1, wb_1, Int.reduceSub, Int.reduceToNat, List.getD_cons_succ, List.getD_cons_zero, Int.reduceLE, Int.reduceLT, Int.reduceEq, Int.reduceNeg, Int.reduceAdd, Int.reduceMul, and_self, em_b, ne_eq, not_false_eq_true, not_true_eq_false]
      try rfl
  · have hd' : downB c s = false := by simpa using hd
    simp only [hd', if_false, Bool.false_eq_true] at dn
    obtain ⟨h1, ow1, nd1, f1, f2, f3, f4, f5, f6⟩ := D_fit (z := szC c) hF hD h24
    have hF1 := ext_F f1 hF
    have hH1 := HoP_e hF f1 (by decide) (by decide) hH
    have hl1 := f1.1
    obtain ⟨p1, p2, p3, d34⟩ : ∃ a b c, hp h 34 = dkO a b c := by obtain ⟨l, o, m, _, _, _, ⟨z, _⟩, _⟩ := hD; exact ⟨_, _, _, z⟩
    obtain ⟨i, kA, sA, f, g, fw, v1, v2, v3, v3', v4, v5, v6, v7, v8, v9, v10, v11, v12, v13, v14, v15, v16⟩ := hV
    have t45 : ow 45 = 5 := hF.2 45 (by omega)
    have t48 : ow 48 = 18 := hF.2 48 (by omega)
    have t49 : ow 49 = 0 := hF.2 49 (by omega)
    have t58 : ow 58 = 20 := hF.2 58 (by omega)
    have u45 : ow1 45 = 5 := hF1.2 45 (by omega)
    have u48 : ow1 48 = 18 := hF1.2 48 (by omega)
    have u58 : ow1 58 = 20 := hF1.2 58 (by omega)
    have u34 := tg_34 hF1
    have e45 : hp h1 45 = rwO i (vr kA) (vr sA) := by rw [f1.2.2 45 (by omega) (by rw [t45]; decide)]; exact v1
    have e48 : hp h1 48 = aI 0 8 fw := by rw [f1.2.2 48 (by omega) (by rw [t48]; decide)]; exact v2
    have e49 : hp h1 49 = aR 1 8 ahF := by rw [f1.2.2 49 (by omega) (by rw [t49]; decide)]; exact hP.1
    have ek : hp h1 kA = aL n f := by rw [f1.2.2 kA v14 (by rw [v9]; decide)]; exact v5
    have es : hp h1 sA = aL n g := by rw [f1.2.2 sA v15 (by rw [v10]; decide)]; exact v6
    have ok : ow1 kA = 5 := by rw [f1.2.1 kA v14]; exact v9
    have os : ow1 sA = 5 := by rw [f1.2.1 sA v15]; exact v10
    obtain ⟨f58, q58⟩ := hP.2.2
    have e58 : hp h1 58 = aI 0 16 f58 := by rw [f1.2.2 58 (by omega) (by rw [t58]; decide)]; exact q58
    have e50 : ∀ u, u < 8 → ∃ f, hp h1 (50 + u) = aI 0 16 f := fun u hu => by
      obtain ⟨f, hf⟩ := hP.2.1 u hu
      exact ⟨f, by rw [f1.2.2 (50 + u) (by omega) (by rw [tg_ah hF hu]; decide)]; exact hf⟩
    obtain ⟨ih1, g27⟩ : ∃ i, hp h1 27 = hoO i (vr ca) := by obtain ⟨i, A, a1, _⟩ := hH1; exact ⟨i, a1⟩
    have eA : hp h1 ca = hp h ca := f1.2.2 ca (by have := hKC.2.2.2.2; omega) (by rw [show ow ca = 0 from hKC.2.2.1 0 (by omega)]; decide)
    rw [hA] at eA
    obtain ⟨l, o, m, fl, fo, fm, hdH, hdW⟩ := f4
    have clr := D_clear hF1 hdH hdW f5
    obtain ⟨c1, c2, c3, c4⟩ := hdH
    have hdW' := hdW
    obtain ⟨w1, w2, w3, w4, w5, w6, w7, w8, w9, w10, w11, w12, w13⟩ := hdW
    have hA1 : AhS ow1 h1 ca c sky e i l o m nd1 (vr kA) (vr sA) fw fm := ⟨hF1, hH1, c1, e45, e48, e49, e50, c4⟩
    have hA2 := AhS_d (f := fillF fm 0 (szC c : Nat) 0) w3 w9 hA1
    have hm := mk_0 (c := c) (sky := sky) (n := nd1) (lw := lw) (f := fm) (z := szC c) hK (Nat.le_refl _)
    have m58 : m ≠ 58 := fun z => by rw [z, u58] at w3; omega
    -- what any end of the call must show
    have fin : ∀ (h2 : PH) (fm2 f58' : Int → Int) (v : Int), chz ow1 m 0 (hup h1 m (aI 0 nd1 (fillF fm 0 (szC c : Nat) 0))) h2 → AhS ow1 h2 ca c sky e i l o m nd1 (vr kA) (vr sA) fw fm2 → hp h2 58 = aI 0 16 f58' → ((¬ 0 < cmF c sky lw lw.length 0 s ∧ v = -1) ∨ (0 < cmF c sky lw lw.length 0 s ∧ sbA c sky lw lw.length 0 s I v)) → (∀ d Q, WP (d + 18) 85 0 [some (vr 45), some (vr 27), some (vi (encC c s)), some (vi I), none, none, none, none] [] h Q = Q (some (vi v)) h2) → ∃ (h' : PH) (ow' : Nat → Nat) (nd' d1 : Nat) (v : Int), extO ow h ow' h' [1, 2, 20] ∧ ((nd' = nd ∧ d1 = 0) ∨ (nd < nd' ∧ nd' = szC c ∧ d1 = 1)) ∧ h'.1 = h.1 + 3 * d1 ∧ h'.2.1 = h.2.1 + 3 * d1 * szC c ∧ HoP ow' h' ca c sky e ∧ DesP ow' h' nd' ∧ RowV ow' h' n lw ∧ AhP h' ∧ ((¬ 0 < cmF c sky lw lw.length 0 s ∧ v = -1) ∨ (0 < cmF c sky lw lw.length 0 s ∧ sbA c sky lw lw.length 0 s I v)) ∧ ∀ d Q, WP (d + 18) 85 0 [some (vr 45), some (vr 27), some (vi (encC c s)), some (vi I), none, none, none, none] [] h Q = Q (some (vi v)) h' := by
      intro h2 fm2 f58' v z1 z2 z3 z4 z5
      obtain ⟨r1, r2, r3, r4, r5, r6, r7, r8⟩ := z2
      have g1 : h2.1 = h1.1 := z1.1
      have g2 : h2.2.1 = h1.2.1 := z1.2.1
      have keep : ∀ k, ow1 k ≠ 1 → ow1 k ≠ 20 → k ≠ m → hp h2 k = hp h1 k := fun k k1 k2 k3 => by
        rw [z1.2.2 k k1 k3 (fun z => k2 (by
          by_cases y : k = 58
          · rw [y]; exact u58
          · have := tg_ah hF1 (u := k - 50) (by omega)
            rwa [show 50 + (k - 50) = k by omega] at this)), hp_upn k3]
      have hx : extO ow1 h1 ow1 h2 [1, 2, 20] := ⟨by rw [g1]; exact Nat.le_refl _, fun _ _ => rfl, fun k k1 k2 => keep k (fun z => k2 (by rw [z]; simp)) (fun z => k2 (by rw [z]; simp)) (fun z => k2 (by rw [z, w3]; simp))⟩
      have hlm : l ≠ m := w5
      have hD2 : DesP ow1 h2 nd1 := ⟨l, o, m, fl, fo, fm2, ⟨r3, by rw [keep l (by rw [w1]; decide) (by rw [w1]; decide) w5]; exact c2, by rw [keep o (by rw [w2]; decide) (by rw [w2]; decide) w6]; exact c3, r8⟩, w1, w2, w3, w4, w5, w6, w7, w8, w9, by rw [g1]; exact w10, by rw [g1]; exact w11, by rw [g1]; exact w12, w13⟩
      have hV2 : RowV ow1 h2 n lw := ⟨i, kA, sA, f, g, fw, r4, r5, v3, v3', v4, by rw [keep kA (by rw [ok]; decide) (by rw [ok]; decide) (fun z => by rw [z, w3] at ok; omega)]; exact ek, by rw [keep sA (by rw [os]; decide) (by rw [os]; decide) (fun z => by rw [z, w3] at os; omega)]; exact es, v7, v8, ok, os, v11, v12, v13, by rw [g1]; omega, by rw [g1]; omega, v16⟩
      have hxt := ext_t (ext_w (U := [1, 2, 20]) f1 (by decide)) hx
      rcases f3 with ⟨y1, y2, y3⟩ | ⟨y1, y2, y3, y4⟩
      · exact ⟨h2, ow1, nd1, 0, v, hxt, Or.inl ⟨y1, rfl⟩, by rw [g1, y2]; omega, by rw [g2, y2]; omega, r2, hD2, hV2, ⟨r6, r7, f58', z3⟩, z4, z5⟩
      · exact ⟨h2, ow1, nd1, 1, v, hxt, Or.inr ⟨y1, y2, rfl⟩, by rw [g1, y3], by rw [g2, y4]; omega, r2, hD2, hV2, ⟨r6, r7, f58', z3⟩, z4, z5⟩
    have q58' : hp (hup h1 m (aI 0 nd1 (fillF fm 0 (szC c : Nat) 0))) 58 = aI 0 16 f58 := by rw [hp_upn (fun z => m58 z.symm)]; exact e58
    by_cases hc : 0 < cmF c sky lw lw.length 0 s
    · obtain ⟨h2, fm2, f58', v, b1, b2, b3, b4, b5⟩ := dAt_Lp (x2 := (encC c s : Int)) hO hI v3 v3' f5 w13 w3 w9 v4 hb I 0 r _ _ f58 s (-1) none (by omega) (by omega) hs hA2 hm q58' (by rw [← hr]; exact hc)
      refine fin h2 fm2 f58' v b1 b2 b3 (Or.inr ⟨hc, by rw [hr]; exact b4⟩) (fun d Q => ?_)
      have b5' := b5 d Q
      rw [nc0] at b5'
      have f6' := fun (Q : PQ) => f6 (d + 17) Q
      have clr' := fun (Q : PQ) => clr (d + 15) Q
      simp (disch := omega) only [e_85_0, e_85_1, e_85_4, e_85_5, e_85_8, e_85_11, e_85_12, e_85_13, e_85_14, e_85_17, e_85_18, e_85_21, e_85_24, e_85_27, e_85_28, e_85_31, e_85_32, e_85_35, e_85_38, e_85_41, e_85_42, e_85_44, e_85_45, e_85_47, e_85_48, a1, hA, eA, g27, v1, e45, d34, c1, dn, f6', clr', b5', true_and, rwO_c, rwO_g0, rwO_k0, rwO_g1, rwO_k1, rwO_s1, rwO_g2, rwO_k2, rwO_s2, rwO_g3, rwO_k3, rwO_g4, rwO_k4, rwO_s4, rwO_g5, rwO_k5, rwO_g6, rwO_k6, dkO_c, dkO_g0, dkO_k0, dkO_s0, dkO_g1, dkO_k1, dkO_s1, dkO_g2, dkO_k2, dkO_s2, hoO_c, hoO_g0, hoO_k0, hoO_s0, hoO_g1, hoO_k1, hoO_s1, hoO_g2, hoO_k2, hoO_s2, hoO_g3, hoO_k3, hoO_g4, hoO_k4, hoO_g5, hoO_k5, hoO_g6, hoO_k6, hoO_g7, hoO_k7, hoO_g8, hoO_k8, hoO_g9, hoO_k9, hoO_s9, iup_s, iup_n, hp_up1, hp_upn, ne_eq, not_false_eq_true, sh_0, sh_1, sh_2, sh_3, sh_4, sh_5, sh_8, sh_15, sh_16, sh_24, Int.reducePow, Int.cast_ofNat_Int, w_of, wl_of, ltT, ltF, leT, leF, eqT, eqF, okF_0, okF_s, gF_0, gF_s, consC_o, sF_0, sF_s, clsO_o, inA_i, ldA_i, stA_i, inJ_l, ldJ_l, stJ_l, inR_r, ldR_r, stR_r, tgR_r, lenA_i, lenA_l, lenA_r, lenA_ex, nl_i, nl_o, nl_l, nl_n, wd_n, wd_i, wd_l, wd_o, fit_i, fit_l, fit_o, K_v, K_n, true_and, and_true, Nat.reduceAdd, Nat.reduceLeDiff, Nat.reduceEqDiff, Nat.reduceMul, Nat.reduceLT, reduceIte, true_or, or_true, cmp_lt, cmp_gt, cmp_eq, wb_0, b_01, cmp_lt', cmp_gt', cmp_eq', b_0, b_1, wb_1, Int.reduceSub, Int.reduceToNat, List.getD_cons_succ, List.getD_cons_zero, Int.reduceLE, Int.reduceLT, Int.reduceEq, Int.reduceNeg, Int.reduceAdd, Int.reduceMul, and_self, em_b, ne_eq, not_false_eq_true, not_true_eq_false]
      try rfl
    · obtain ⟨h2, fm2, f50, f58', w, b1, b2, b3, b4, b5, b6, b7⟩ := Ro_first (v := 0) (r := r) hO hs (by omega) v3 v3' f5 w13 w3 w9 v4 hb hA2 hm q58'
      rcases b6 with ⟨z1, -⟩ | ⟨m', k, k1, k2, k3, k4, k5⟩
      · subst z1
        refine fin h2 fm2 f58' (-1) b1 b2 b4 (Or.inl ⟨hc, rfl⟩) (fun d Q => ?_)
        have b7' := fun (Q : PQ) => b7 (d + 8 - (r + 1)) Q
        rw [show d + 8 - (r + 1) + 9 + (r + 1) = d + 17 by omega, nc0] at b7'
        have f6' := fun (Q : PQ) => f6 (d + 17) Q
        have clr' := fun (Q : PQ) => clr (d + 15) Q
        have m45 : m ≠ 45 := fun z => by rw [z, u45] at w3; omega
        have n45 : 45 ≠ m := fun z => m45 z.symm
        simp (disch := omega) only [e_85_0, e_85_1, e_85_4, e_85_5, e_85_8, e_85_11, e_85_12, e_85_13, e_85_14, e_85_17, e_85_18, e_85_21, e_85_24, e_85_27, e_85_28, e_85_31, e_85_32, e_85_35, e_85_38, e_85_41, e_85_42, e_85_44, e_85_45, e_85_47, e_85_48, e_85_50, e_85_52, e_85_53, e_85_56, e_85_58, e_85_59, e_85_62, e_85_65, e_85_66, e_85_67, e_85_69, e_85_71, e_85_74, e_85_76, e_85_78, e_85_79, e_85_82, e_85_83, a1, hA, eA, g27, v1, e45, v3, d34, c1, dn, f6', clr', b7', n45, true_and, rwO_c, rwO_g0, rwO_k0, rwO_g1, rwO_k1, rwO_s1, rwO_g2, rwO_k2, rwO_s2, rwO_g3, rwO_k3, rwO_g4, rwO_k4, rwO_s4, rwO_g5, rwO_k5, rwO_g6, rwO_k6, dkO_c, dkO_g0, dkO_k0, dkO_s0, dkO_g1, dkO_k1, dkO_s1, dkO_g2, dkO_k2, dkO_s2, hoO_c, hoO_g0, hoO_k0, hoO_s0, hoO_g1, hoO_k1, hoO_s1, hoO_g2, hoO_k2, hoO_s2, hoO_g3, hoO_k3, hoO_g4, hoO_k4, hoO_g5, hoO_k5, hoO_g6, hoO_k6, hoO_g7, hoO_k7, hoO_g8, hoO_k8, hoO_g9, hoO_k9, hoO_s9, iup_s, iup_n, hp_up1, hp_upn, ne_eq, not_false_eq_true, sh_0, sh_1, sh_2, sh_3, sh_4, sh_5, sh_8, sh_15, sh_16, sh_24, Int.reducePow, Int.cast_ofNat_Int, w_of, wl_of, ltT, ltF, leT, leF, eqT, eqF, okF_0, okF_s, gF_0, gF_s, consC_o, sF_0, sF_s, clsO_o, inA_i, ldA_i, stA_i, inJ_l, ldJ_l, stJ_l, inR_r, ldR_r, stR_r, tgR_r, lenA_i, lenA_l, lenA_r, lenA_ex, nl_i, nl_o, nl_l, nl_n, wd_n, wd_i, wd_l, wd_o, fit_i, fit_l, fit_o, K_v, K_n, true_and, and_true, Nat.reduceAdd, Nat.reduceLeDiff, Nat.reduceEqDiff, Nat.reduceMul, Nat.reduceLT, reduceIte, true_or, or_true, cmp_lt, cmp_gt, cmp_eq, wb_0, b_01, cmp_lt', cmp_gt', cmp_eq', b_0, b_1, wb_1, Int.reduceSub, Int.reduceToNat, List.getD_cons_succ, List.getD_cons_zero, Int.reduceLE, Int.reduceLT, Int.reduceEq, Int.reduceNeg, Int.reduceAdd, Int.reduceMul, and_self, em_b, ne_eq, not_false_eq_true, not_true_eq_false]
        try rfl
      · exact absurd ((cmF_pos hK).mpr ⟨m', k3.1, k3.2.1⟩) (by rw [← hr]; exact hc)
