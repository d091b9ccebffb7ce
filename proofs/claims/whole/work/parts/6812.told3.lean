/-! THE CLASS: the best trial -/
theorem deedM_mono {m n : Nat} (h : m < n) (hn : n < 19) : deedM m < deedM n := by
  unfold deedM
  split <;> split <;> (try split) <;> (try split) <;> omega
def btI (c : KC) (Mf : Nat → Nat) (D : Nat) (least : Nat) (first : Int) : Prop := (least = 11 ∧ first = -1 ∧ ∀ m, m < 19 → isMv c m = true → D ≤ deedM m) ∨ ∃ m, m < 19 ∧ isMv c m = true ∧ deedM m < D ∧ first = (deedM m : Int) ∧ least = Mf m ∧ ∀ m', m' < 19 → isMv c m' = true → deedM m' < D → Mf m ≤ Mf m' ∧ (m' < m → Mf m < Mf m')
theorem bt_skip {c : KC} {Mf : Nat → Nat} {D least : Nat} {first : Int} (h : btI c Mf D least first) (hno : ∀ m, m < 19 → isMv c m = true → deedM m ≠ D) : btI c Mf (D + 1) least first := by
  rcases h with ⟨h1, h2, h3⟩ | ⟨m, h1, h2, h3, h4, h5, h6⟩
  · exact Or.inl ⟨h1, h2, fun m hm hv => by have := h3 m hm hv; have := hno m hm hv; omega⟩
  · exact Or.inr ⟨m, h1, h2, by omega, h4, h5, fun m' hm' hv hd => h6 m' hm' hv (by have := hno m' hm' hv; omega)⟩
theorem bt_take {c : KC} {Mf : Nat → Nat} {D least m : Nat} {first : Int} (h : btI c Mf D least first) (hm : m < 19) (hv : isMv c m = true) (hd : deedM m = D) (hlt : Mf m < least) : btI c Mf (D + 1) (Mf m) (D : Nat) := by
  refine Or.inr ⟨m, hm, hv, by omega, by rw [hd], rfl, fun m' hm' hv' hd' => ?_⟩
  by_cases e : m' = m
  · rw [e]; exact ⟨Nat.le_refl _, fun z => by omega⟩
  · have hne : deedM m' ≠ D := fun z => e (deedM_inj (by omega) hm' hm)
    rcases h with ⟨h1, h2, h3⟩ | ⟨m0, h1, h2, h3, h4, h5, h6⟩
    · have := h3 m' hm' hv'; omega
    · have := h6 m' hm' hv' (by omega)
      exact ⟨by omega, fun _ => by omega⟩
theorem bt_keep {c : KC} {Mf : Nat → Nat} {D least m : Nat} {first : Int} (h : btI c Mf D least first) (hm : m < 19) (hv : isMv c m = true) (hd : deedM m = D) (hMf : Mf m ≤ 10) (hge : ¬ Mf m < least) : btI c Mf (D + 1) least first := by
  rcases h with ⟨h1, h2, h3⟩ | ⟨m0, h1, h2, h3, h4, h5, h6⟩
  · omega
  · refine Or.inr ⟨m0, h1, h2, by omega, h4, h5, fun m' hm' hv' hd' => ?_⟩
    by_cases e : m' = m
    · rw [e]
      refine ⟨by omega, fun z => ?_⟩
      have := deedM_mono z h1
      omega
    · have hne : deedM m' ≠ D := fun z => e (deedM_inj (by omega) hm' hm)
      exact h6 m' hm' hv' (by omega)
theorem bt_end {c : KC} {Mf : Nat → Nat} {least : Nat} {first : Int} (hK : okK c) (h : btI c Mf 200 least first) : ∃ m, bstM c Mf 19 m ∧ first = (deedM m : Int) := by
  rcases h with ⟨h1, h2, h3⟩ | ⟨m0, h1, h2, h3, h4, h5, h6⟩
  · have := h3 0 (by omega) isMv_0
    have e : deedM 0 = 0 := rfl
    omega
  · exact ⟨m0, ⟨h1, h2, fun m' hm' hv' => h6 m' hm' hv' (deedM_lt hK hv').2⟩, h4⟩
theorem To_bLp {ow : Nat → Nat} {ca : Nat} {c : KC} {e : Nat} {s : ST} {S : Nat → Bool} (hO : okC c) (hs : okS c s) :
    ∀ (r D : Nat) (h : PH) (sky : Nat) (i : Nat → Int) (f g : Int → Int) (least : Nat) (first : Int) (o7 : Option PV), D + r = 200 → owF ow h → HoP ow h ca c sky e → hp h 61 = toO i → hp h 62 = aI 0 8 f → hp h 63 = aI 0 10 g → least ≤ 11 → btI c (fun m => mostV c s m S) D least first → ∃ (h' : PH) (sky' : Nat) (g' : Int → Int) (m : Nat), chg ow [1, 7] h h' ∧ HoP ow h' ca c sky' e ∧ hp h' 61 = toO i ∧ hp h' 62 = aI 0 8 f ∧ hp h' 63 = aI 0 10 g' ∧ bstM c (fun m => mostV c s m S) 19 m ∧ ∀ d Q, WP (d + 11) 106 10 [some (vr 61), some (vr 27), some (vi (encC c s)), some (vi (bitsF 10 S)), some (vi least), some (vi first), some (vi D), o7] [] h Q = Q (some (vi (deedM m))) h' := by
  have hK := hO.1
  intro r
  induction r with
  | zero =>
    intro D h sky i f g least first o7 hD hF hH v1 v2 v3 hl hb
    have eD : D = 200 := by omega
    subst eD
    obtain ⟨m, m1, m2⟩ := bt_end hK hb
    refine ⟨h, sky, g, m, chg_r, hH, v1, v2, v3, m1, fun d Q => ?_⟩
    have e200 : ((200 : Nat) : Int) = 200 := rfl
    subst m2
    rw [e_106_10]
    simp (disch := omega) only [e_106_12, e_106_15, e_106_60, e_106_62, e200, toO_c, toO_g0, toO_k0, toO_g1, toO_k1, toO_s1, toO_g2, toO_k2, toO_s2, toO_g3, toO_k3, toO_s3, toO_g4, toO_k4, toO_s4, toO_g5, toO_k5, toO_g6, toO_k6, toO_s6, hoO_c, hoO_g0, hoO_k0, hoO_s0, hoO_g1, hoO_k1, hoO_s1, hoO_g2, hoO_k2, hoO_s2, hoO_g3, hoO_k3, hoO_g4, hoO_k4, hoO_g5, hoO_k5, hoO_g6, hoO_k6, hoO_g7, hoO_k7, hoO_g8, hoO_k8, hoO_g9, hoO_k9, hoO_s9, iup_s, iup_n, hp_up1, hp_upn, ne_eq, not_false_eq_true, sh_0, sh_1, sh_2, sh_3, sh_4, sh_5, sh_8, sh_15, sh_16, sh_24, Int.reducePow, Int.cast_ofNat_Int, w_of, wl_of, ltT, ltF, leT, leF, eqT, eqF, okF_0, okF_s, gF_0, gF_s, consC_o, sF_0, sF_s, clsO_o, inA_i, ldA_i, stA_i, inJ_l, ldJ_l, stJ_l, inR_r, ldR_r, stR_r, tgR_r, lenA_i, lenA_l, lenA_r, lenA_ex, nl_i, nl_o, nl_l, nl_n, wd_n, wd_i, wd_l, wd_o, fit_i, fit_l, fit_o, K_v, K_n, true_and, and_true, Nat.reduceAdd, Nat.reduceLeDiff, Nat.reduceEqDiff, Nat.reduceMul, Nat.reduceLT, reduceIte, true_or, or_true, cmp_lt, cmp_gt, cmp_eq, wb_0, b_01, cmp_lt', cmp_gt', cmp_eq', b_0, b_1, wb_1, Int.reduceSub, Int.reduceToNat, List.getD_cons_succ, List.getD_cons_zero, Int.reduceLE, Int.reduceLT, Int.reduceEq, Int.reduceNeg, Int.reduceAdd, Int.reduceMul, and_self, em_b, ne_eq, not_false_eq_true, not_true_eq_false]
    try rfl
  | succ r ih =>
    intro D h sky i f g least first o7 hD hF hH v1 v2 v3 hl hb
    have tl := fun (d : Nat) (Q : PQ) => H_tells (d := d) (x := (D : Int)) (Q := Q) hF hH ⟨by omega, by omega⟩
    obtain ⟨iy, h27⟩ : ∃ i, hp h 27 = hoO i (vr ca) := by obtain ⟨i, A, a1, _⟩ := hH; exact ⟨i, a1⟩
    have eD : (D : Int) + 1 = ((D + 1 : Nat) : Int) := by omega
    cases hm : moveD c (D : Int) with
    | none =>
      rw [hm] at tl
      simp only [Option.isSome, Bool.false_eq_true, if_false] at tl
      obtain ⟨h', sky', g', m, d1, d2, d3, d4, d5, d6, d7⟩ := ih (D + 1) h sky i f g least first o7 (by omega) hF hH v1 v2 v3 hl (bt_skip hb (fun m h1 h2 z => by
        have := moveD_deed hK h2
        rw [z, hm] at this
        cases this))
      refine ⟨h', sky', g', m, d1, d2, d3, d4, d5, d6, fun d Q => ?_⟩
      rw [← d7 d Q]
      rw [e_106_10]
      simp (disch := omega) only [e_106_12, e_106_15, e_106_18, e_106_19, e_106_21, e_106_22, e_106_25, e_106_54, e_106_57, h27, tl, eD, true_and, toO_c, toO_g0, toO_k0, toO_g1, toO_k1, toO_s1, toO_g2, toO_k2, toO_s2, toO_g3, toO_k3, toO_s3, toO_g4, toO_k4, toO_s4, toO_g5, toO_k5, toO_g6, toO_k6, toO_s6, hoO_c, hoO_g0, hoO_k0, hoO_s0, hoO_g1, hoO_k1, hoO_s1, hoO_g2, hoO_k2, hoO_s2, hoO_g3, hoO_k3, hoO_g4, hoO_k4, hoO_g5, hoO_k5, hoO_g6, hoO_k6, hoO_g7, hoO_k7, hoO_g8, hoO_k8, hoO_g9, hoO_k9, hoO_s9, iup_s, iup_n, hp_up1, hp_upn, ne_eq, not_false_eq_true, sh_0, sh_1, sh_2, sh_3, sh_4, sh_5, sh_8, sh_15, sh_16, sh_24, Int.reducePow, Int.cast_ofNat_Int, w_of, wl_of, ltT, ltF, leT, leF, eqT, eqF, okF_0, okF_s, gF_0, gF_s, consC_o, sF_0, sF_s, clsO_o, inA_i, ldA_i, stA_i, inJ_l, ldJ_l, stJ_l, inR_r, ldR_r, stR_r, tgR_r, lenA_i, lenA_l, lenA_r, lenA_ex, nl_i, nl_o, nl_l, nl_n, wd_n, wd_i, wd_l, wd_o, fit_i, fit_l, fit_o, K_v, K_n, true_and, and_true, Nat.reduceAdd, Nat.reduceLeDiff, Nat.reduceEqDiff, Nat.reduceMul, Nat.reduceLT, reduceIte, true_or, or_true, cmp_lt, cmp_gt, cmp_eq, wb_0, b_01, cmp_lt', cmp_gt', cmp_eq', b_0, b_1, wb_1, Int.reduceSub, Int.reduceToNat, List.getD_cons_succ, List.getD_cons_zero, Int.reduceLE, Int.reduceLT, Int.reduceEq, Int.reduceNeg, Int.reduceAdd, Int.reduceMul, and_self, em_b, ne_eq, not_false_eq_true, not_true_eq_false]
      try rfl
    | some m =>
      rw [hm] at tl
      simp only [Option.isSome, if_true] at tl
      obtain ⟨h1, h2, h3⟩ := moveD_some hK hm
      have hd : deedM m = D := by omega
      have hMl : mostV c s m S ≤ 10 := mxI_le
      have hMe := sb_mx (S := S) hs h1
      obtain ⟨h', sky', g', c1, c2, c3, c4, c5, c6⟩ := To_wLp (S := S) (l := []) (j := 0) hO hs h1 10 0 h sky i f g none none none (by omega) hF hH v1 v2 v3 (fun v hv => by omega)
      have ma : ∀ d Q, WP (d + 10) 107 0 [some (vr 61), some (vr 27), some (vi (encC c s)), some (vi D), some (vi (bitsF 10 S)), none, none, none, none, none] [] h Q = Q (some (vi (mostV c s m S))) h' := fun d Q => by
        have := c6 d Q
        rw [nc0, show ((mxA (sbC c s m S) 0 : Nat) : Int) = 0 from rfl, hd, ← hMe] at this
        rw [← this]
        simp (disch := omega) only [e_107_0, e_107_1, e_107_3, e_107_4, toO_c, toO_g0, toO_k0, toO_g1, toO_k1, toO_s1, toO_g2, toO_k2, toO_s2, toO_g3, toO_k3, toO_s3, toO_g4, toO_k4, toO_s4, toO_g5, toO_k5, toO_g6, toO_k6, toO_s6, hoO_c, hoO_g0, hoO_k0, hoO_s0, hoO_g1, hoO_k1, hoO_s1, hoO_g2, hoO_k2, hoO_s2, hoO_g3, hoO_k3, hoO_g4, hoO_k4, hoO_g5, hoO_k5, hoO_g6, hoO_k6, hoO_g7, hoO_k7, hoO_g8, hoO_k8, hoO_g9, hoO_k9, hoO_s9, iup_s, iup_n, hp_up1, hp_upn, ne_eq, not_false_eq_true, sh_0, sh_1, sh_2, sh_3, sh_4, sh_5, sh_8, sh_15, sh_16, sh_24, Int.reducePow, Int.cast_ofNat_Int, w_of, wl_of, ltT, ltF, leT, leF, eqT, eqF, okF_0, okF_s, gF_0, gF_s, consC_o, sF_0, sF_s, clsO_o, inA_i, ldA_i, stA_i, inJ_l, ldJ_l, stJ_l, inR_r, ldR_r, stR_r, tgR_r, lenA_i, lenA_l, lenA_r, lenA_ex, nl_i, nl_o, nl_l, nl_n, wd_n, wd_i, wd_l, wd_o, fit_i, fit_l, fit_o, K_v, K_n, true_and, and_true, Nat.reduceAdd, Nat.reduceLeDiff, Nat.reduceEqDiff, Nat.reduceMul, Nat.reduceLT, reduceIte, true_or, or_true, cmp_lt, cmp_gt, cmp_eq, wb_0, b_01, cmp_lt', cmp_gt', cmp_eq', b_0, b_1, wb_1, Int.reduceSub, Int.reduceToNat, List.getD_cons_succ, List.getD_cons_zero, Int.reduceLE, Int.reduceLT, Int.reduceEq, Int.reduceNeg, Int.reduceAdd, Int.reduceMul, and_self, em_b, ne_eq, not_false_eq_true, not_true_eq_false]
        try rfl
      have ma' := fun (d : Nat) (Q : PQ) => ma d Q
      by_cases hlt : mostV c s m S < least
      · obtain ⟨h2', sky2, g2, m2, d1, d2, d3, d4, d5, d6, d7⟩ := ih (D + 1) h' sky' i f g' (mostV c s m S) (D : Nat) (some (vi (mostV c s m S))) (by omega) (chg_F c1 hF) c2 c3 c4 c5 (by omega) (bt_take hb h2 h1 hd hlt)
        refine ⟨h2', sky2, g2, m2, chg_t c1 d1, d2, d3, d4, d5, d6, fun d Q => ?_⟩
        rw [← d7 d Q]
        rw [e_106_10]
        simp (disch := omega) only [e_106_12, e_106_15, e_106_18, e_106_19, e_106_21, e_106_22, e_106_25, e_106_28, e_106_29, e_106_30, e_106_31, e_106_33, e_106_34, e_106_37, e_106_39, e_106_41, e_106_43, e_106_46, e_106_48, e_106_50, e_106_52, e_106_54, e_106_57, h27, v1, tl, ma', eD, true_and, toO_c, toO_g0, toO_k0, toO_g1, toO_k1, toO_s1, toO_g2, toO_k2, toO_s2, toO_g3, toO_k3, toO_s3, toO_g4, toO_k4, toO_s4, toO_g5, toO_k5, toO_g6, toO_k6, toO_s6, hoO_c, hoO_g0, hoO_k0, hoO_s0, hoO_g1, hoO_k1, hoO_s1, hoO_g2, hoO_k2, hoO_s2, hoO_g3, hoO_k3, hoO_g4, hoO_k4, hoO_g5, hoO_k5, hoO_g6, hoO_k6, hoO_g7, hoO_k7, hoO_g8, hoO_k8, hoO_g9, hoO_k9, hoO_s9, iup_s, iup_n, hp_up1, hp_upn, ne_eq, not_false_eq_true, sh_0, sh_1, sh_2, sh_3, sh_4, sh_5, sh_8, sh_15, sh_16, sh_24, Int.reducePow, Int.cast_ofNat_Int, w_of, wl_of, ltT, ltF, leT, leF, eqT, eqF, okF_0, okF_s, gF_0, gF_s, consC_o, sF_0, sF_s, clsO_o, inA_i, ldA_i, stA_i, inJ_l, ldJ_l, stJ_l, inR_r, ldR_r, stR_r, tgR_r, lenA_i, lenA_l, lenA_r, lenA_ex, nl_i, nl_o, nl_l, nl_n, wd_n, wd_i, wd_l, wd_o, fit_i, fit_l, fit_o, K_v, K_n, true_and, and_true, Nat.reduceAdd, Nat.reduceLeDiff, Nat.reduceEqDiff, Nat.reduceMul, Nat.reduceLT, reduceIte, true_or, or_true, cmp_lt, cmp_gt, cmp_eq, wb_0, b_01, cmp_lt', cmp_gt', cmp_eq', b_0, b_1, wb_1, Int.reduceSub, Int.reduceToNat, List.getD_cons_succ, List.getD_cons_zero, Int.reduceLE, Int.reduceLT, Int.reduceEq, Int.reduceNeg, Int.reduceAdd, Int.reduceMul, and_self, em_b, ne_eq, not_false_eq_true, not_true_eq_false]
        try rfl
      · obtain ⟨h2', sky2, g2, m2, d1, d2, d3, d4, d5, d6, d7⟩ := ih (D + 1) h' sky' i f g' least first (some (vi (mostV c s m S))) (by omega) (chg_F c1 hF) c2 c3 c4 c5 hl (bt_keep hb h2 h1 hd hMl hlt)
        refine ⟨h2', sky2, g2, m2, chg_t c1 d1, d2, d3, d4, d5, d6, fun d Q => ?_⟩
        rw [← d7 d Q]
        rw [e_106_10]
        simp (disch := omega) only [e_106_12, e_106_15, e_106_18, e_106_19, e_106_21, e_106_22, e_106_25, e_106_28, e_106_29, e_106_30, e_106_31, e_106_33, e_106_34, e_106_37, e_106_39, e_106_41, e_106_43, e_106_46, e_106_48, e_106_50, e_106_52, e_106_54, e_106_57, h27, v1, tl, ma', eD, true_and, toO_c, toO_g0, toO_k0, toO_g1, toO_k1, toO_s1, toO_g2, toO_k2, toO_s2, toO_g3, toO_k3, toO_s3, toO_g4, toO_k4, toO_s4, toO_g5, toO_k5, toO_g6, toO_k6, toO_s6, hoO_c, hoO_g0, hoO_k0, hoO_s0, hoO_g1, hoO_k1, hoO_s1, hoO_g2, hoO_k2, hoO_s2, hoO_g3, hoO_k3, hoO_g4, hoO_k4, hoO_g5, hoO_k5, hoO_g6, hoO_k6, hoO_g7, hoO_k7, hoO_g8, hoO_k8, hoO_g9, hoO_k9, hoO_s9, iup_s, iup_n, hp_up1, hp_upn, ne_eq, not_false_eq_true, sh_0, sh_1, sh_2, sh_3, sh_4, sh_5, sh_8, sh_15, sh_16, sh_24, Int.reducePow, Int.cast_ofNat_Int, w_of, wl_of, ltT, ltF, leT, leF, eqT, eqF, okF_0, okF_s, gF_0, gF_s, consC_o, sF_0, sF_s, clsO_o, inA_i, ldA_i, stA_i, inJ_l, ldJ_l, stJ_l, inR_r, ldR_r, stR_r, tgR_r, lenA_i, lenA_l, lenA_r, lenA_ex, nl_i, nl_o, nl_l, nl_n, wd_n, wd_i, wd_l, wd_o, fit_i, fit_l, fit_o, K_v, K_n, true_and, and_true, Nat.reduceAdd, Nat.reduceLeDiff, Nat.reduceEqDiff, Nat.reduceMul, Nat.reduceLT, reduceIte, true_or, or_true, cmp_lt, cmp_gt, cmp_eq, wb_0, b_01, cmp_lt', cmp_gt', cmp_eq', b_0, b_1, wb_1, Int.reduceSub, Int.reduceToNat, List.getD_cons_succ, List.getD_cons_zero, Int.reduceLE, Int.reduceLT, Int.reduceEq, Int.reduceNeg, Int.reduceAdd, Int.reduceMul, and_self, em_b, ne_eq, not_false_eq_true, not_true_eq_false]
        try rfl
theorem To_best {ow : Nat → Nat} {h : PH} {ca : Nat} {c : KC} {sky e : Nat} {s : ST} {S : Nat → Bool} (hs : okS c s) (hF : owF ow h) (hH : HoP ow h ca c sky e) (hP : ToP h) : ∃ (h' : PH) (sky' m : Nat), chg ow [1, 7] h h' ∧ HoP ow h' ca c sky' e ∧ ToP h' ∧ bstM c (fun m => mostV c s m S) 19 m ∧ ∀ d Q, WP (d + 11) 106 0 [some (vr 61), some (vr 27), some (vi (encC c s)), some (vi (bitsF 10 S)), none, none, none, none] [] h Q = Q (some (vi (deedM m))) h' := by
  obtain ⟨hO⟩ : Nonempty (okC c) := by obtain ⟨_, _, _, _, _, _, _, _, _, _, a9⟩ := hH; exact ⟨a9.2.1⟩
  obtain ⟨i, f, g, v1, v2, v3⟩ := hP
  obtain ⟨h', sky', g', m, d1, d2, d3, d4, d5, d6, d7⟩ := To_bLp (S := S) hO hs 200 0 h sky i f g 11 (-1) none (by omega) hF hH v1 v2 v3 (by omega) (Or.inl ⟨rfl, rfl, fun m _ _ => Nat.zero_le _⟩)
  refine ⟨h', sky', m, d1, d2, ⟨i, f, g', d3, d4, d5⟩, d6, fun d Q => ?_⟩
  have := d7 d Q
  rw [nc0, show ((11 : Nat) : Int) = 11 from rfl] at this
  rw [← this]
  simp (disch := omega) only [e_106_0, e_106_2, e_106_4, e_106_5, e_106_7, e_106_8, toO_c, toO_g0, toO_k0, toO_g1, toO_k1, toO_s1, toO_g2, toO_k2, toO_s2, toO_g3, toO_k3, toO_s3, toO_g4, toO_k4, toO_s4, toO_g5, toO_k5, toO_g6, toO_k6, toO_s6, hoO_c, hoO_g0, hoO_k0, hoO_s0, hoO_g1, hoO_k1, hoO_s1, hoO_g2, hoO_k2, hoO_s2, hoO_g3, hoO_k3, hoO_g4, hoO_k4, hoO_g5, hoO_k5, hoO_g6, hoO_k6, hoO_g7, hoO_k7, hoO_g8, hoO_k8, hoO_g9, hoO_k9, hoO_s9, iup_s, iup_n, hp_up1, hp_upn, ne_eq, not_false_eq_true, sh_0, sh_1, sh_2, sh_3, sh_4, sh_5, sh_8, sh_15, sh_16, sh_24, Int.reducePow, Int.cast_ofNat_Int, w_of, wl_of, ltT, ltF, leT, leF, eqT, eqF, okF_0, okF_s, gF_0, gF_s, consC_o, sF_0, sF_s, clsO_o, inA_i, ldA_i, stA_i, inJ_l, ldJ_l, stJ_l, inR_r, ldR_r, stR_r, tgR_r, lenA_i, lenA_l, lenA_r, lenA_ex, nl_i, nl_o, nl_l, nl_n, wd_n, wd_i, wd_l, wd_o, fit_i, fit_l, fit_o, K_v, K_n, true_and, and_true, Nat.reduceAdd, Nat.reduceLeDiff, Nat.reduceEqDiff, Nat.reduceMul, Nat.reduceLT, reduceIte, true_or, or_true, cmp_lt, cmp_gt, cmp_eq, wb_0, b_01, cmp_lt', cmp_gt', cmp_eq', b_0, b_1, wb_1, Int.reduceSub, Int.reduceToNat, List.getD_cons_succ, List.getD_cons_zero, Int.reduceLE, Int.reduceLT, Int.reduceEq, Int.reduceNeg, Int.reduceAdd, Int.reduceMul, and_self, em_b, ne_eq, not_false_eq_true, not_true_eq_false]
  try rfl
