/-! THE CLASS: Rows, firstStep and deedAt -/
def chz (ow : Nat → Nat) (dm v : Nat) (h h' : PH) : Prop := h'.1 = h.1 ∧ h'.2.1 = h.2.1 ∧ ∀ k, ow k ≠ 1 → k ≠ dm → ¬ (50 + v ≤ k ∧ k < 59) → hp h' k = hp h k
theorem chz_r {ow : Nat → Nat} {dm v : Nat} {h : PH} : chz ow dm v h h := ⟨rfl, rfl, fun _ _ _ _ => rfl⟩
theorem chz_t {ow : Nat → Nat} {dm v : Nat} {h h1 h2 : PH} (a : chz ow dm v h h1) (b : chz ow dm v h1 h2) : chz ow dm v h h2 := ⟨by rw [b.1, a.1], by rw [b.2.1, a.2.1], fun k x y z => by rw [b.2.2 k x y z, a.2.2 k x y z]⟩
theorem chz_w {ow : Nat → Nat} {dm v u : Nat} {h h' : PH} (a : chz ow dm v h h') (hu : u ≤ v) : chz ow dm u h h' := ⟨a.1, a.2.1, fun k x y z => a.2.2 k x y (by omega)⟩
theorem chz_y {ow : Nat → Nat} {dm v : Nat} {h h' : PH} (a : chy ow dm v h h') : chz ow dm v h h' := ⟨a.1, a.2.1, fun k x y z => a.2.2 k x y (by omega)⟩
theorem chz_8 {ow : Nat → Nat} {dm v : Nat} {h : PH} {x : PC} (hv : v ≤ 8) : chz ow dm v h (hup h 58 x) := ⟨rfl, rfl, fun k _ _ hk => hp_upn (by omega)⟩
theorem AhS_8 {ow : Nat → Nat} {h : PH} {ca : Nat} {c : KC} {sky e : Nat} {i : Nat → Int} {dl dx dm nd : Nat} {pa pb : PV} {fw fm : Int → Int} {x : PC} (om : ow dm = 2) (hA : AhS ow h ca c sky e i dl dx dm nd pa pb fw fm) : AhS ow (hup h 58 x) ca c sky e i dl dx dm nd pa pb fw fm := by
  obtain ⟨h1, h2, h3, h4, h5, h6, h7, h8⟩ := hA
  have t : ow 58 = 20 := h1.2 58 (by omega)
  have hch : chg ow [20] h (hup h 58 x) := chg_up t (by decide)
  have dm' : dm ≠ 58 := fun z => by rw [← z, om] at t; omega
  refine ⟨chg_F hch h1, HoP_c h1 hch (by decide) (by decide) h2, by rw [hp_upn (by omega)]; exact h3, by rw [hp_upn (by omega)]; exact h4, by rw [hp_upn (by omega)]; exact h5, by rw [hp_upn (by omega)]; exact h6, fun w hw => ?_, by rw [hp_upn dm']; exact h8⟩
  obtain ⟨f', hf⟩ := h7 w hw
  exact ⟨f', by rw [hp_upn (by omega)]; exact hf⟩
theorem f_cp1 {d : Nat} {ls : PL} {Q : PQ} {h : PH} {a b n nn kk : Nat} {f g : Int → Int} (ha : hp h a = aI 0 nn f) (hb : hp h b = aI 0 kk g) (h1 : 10 ≤ a) (h2 : 10 ≤ b) (hn : n ≤ nn) (hk : n ≤ kk) (hnn : nn ≤ 24000) : WP d 86 23 ls [vi (n : Nat), vi 0, vr b, vi 0, vr a] h Q = WP d 86 26 ls [] (hup h b (aI 0 kk (cpyF f g n))) Q := by
  rw [e_86_23 ha hb, cp_eq (by omega)]
  exact propext ⟨fun z => z.2, fun z => ⟨cp_side h1 h2 hn hk hnn, z⟩⟩
theorem f_cp2 {d : Nat} {ls : PL} {Q : PQ} {h : PH} {a b n nn kk : Nat} {f g : Int → Int} (ha : hp h a = aI 0 nn f) (hb : hp h b = aI 0 kk g) (h1 : 10 ≤ a) (h2 : 10 ≤ b) (hn : n ≤ nn) (hk : n ≤ kk) (hnn : nn ≤ 24000) : WP d 86 40 ls [vi (n : Nat), vi 0, vr b, vi 0, vr a] h Q = WP d 86 43 ls [] (hup h b (aI 0 kk (cpyF f g n))) Q := by
  rw [e_86_40 ha hb, cp_eq (by omega)]
  exact propext ⟨fun z => z.2, fun z => ⟨cp_side h1 h2 hn hk hnn, z⟩⟩
theorem fst_Lp {ow : Nat → Nat} {ca : Nat} {c : KC} {sky e : Nat} {i : Nat → Int} {dl dx dm nd : Nat} {pa pb : PV} {fw fa : Int → Int} {lw : List Int} {r v : Nat} {y : ST} {L : List (Nat × ST)} (hO : okC c) (hL : nx c sky y = L) (hy : okS c y) (hv : v + (r + 1) = lw.length) (hl : lw.length ≤ 8) (om : ow dm = 2) (hfw : fw v = lw.getD v 0) (hb : -1 ≤ lw.getD v 0 ∧ lw.getD v 0 < 5) (ih : canC ow ca c sky e i dl dx dm nd pa pb fw lw r) (hfa : ∀ (k : Nat) x, L[k]? = some x → fa k = encC c x.2) :
    ∀ (q j : Nat) (h : PH) (fm : Int → Int) (o6 : Option PV), j + q = L.length → AhS ow h ca c sky e i dl dx dm nd pa pb fw fm → mkI c sky lw fm → hp h (50 + v) = aI 0 16 fa → (∀ (k : Nat) x, k < j → L[k]? = some x → ¬ okH c sky lw r v x) →
    ∃ (h' : PH) (fm' : Int → Int) (w : Int), chy ow dm (v + 1) h h' ∧ AhS ow h' ca c sky e i dl dx dm nd pa pb fw fm' ∧ mkI c sky lw fm' ∧ ((w = -1 ∧ ∀ (k : Nat) x, L[k]? = some x → ¬ okH c sky lw r v x) ∨ ∃ (k : Nat) (x : Nat × ST), w = (k : Int) ∧ L[k]? = some x ∧ okH c sky lw r v x ∧ ∀ (k' : Nat) x', k' < k → L[k']? = some x' → ¬ okH c sky lw r v x') ∧ ∀ d Q, WP (d + 9 + (r + 1)) 86 46 [some (vr 45), some (vr 27), some (vi (encC c y)), some (vi v), some (vi L.length), some (vi j), o6] [] h Q = Q (some (vi w)) h' := by
  have hK := hO.1
  have hlen := nx_len (sky := sky) hO hy
  rw [hL] at hlen
  intro q
  induction q with
  | zero =>
    intro j h fm o6 hj hA hm hfv hno
    have ej : j = L.length := by omega
    subst ej
    refine ⟨h, fm, -1, chy_r, hA, hm, Or.inl ⟨rfl, fun k x hx => hno k x (List.getElem?_eq_some_iff.mp hx).1 hx⟩, fun d Q => ?_⟩
    rw [e_86_46]
    simp (disch := omega) only [e_86_48, e_86_50, e_86_100, e_86_101, rwO_c, rwO_g0, rwO_k0, rwO_g1, rwO_k1, rwO_s1, rwO_g2, rwO_k2, rwO_s2, rwO_g3, rwO_k3, rwO_g4, rwO_k4, rwO_s4, rwO_g5, rwO_k5, rwO_g6, rwO_k6, dkO_c, dkO_g0, dkO_k0, dkO_s0, dkO_g1, dkO_k1, dkO_s1, dkO_g2, dkO_k2, dkO_s2, hoO_c, hoO_g0, hoO_k0, hoO_s0, hoO_g1, hoO_k1, hoO_s1, hoO_g2, hoO_k2, hoO_s2, hoO_g3, hoO_k3, hoO_g4, hoO_k4, hoO_g5, hoO_k5, hoO_g6, hoO_k6, hoO_g7, hoO_k7, hoO_g8, hoO_k8, hoO_g9, hoO_k9, hoO_s9, iup_s, iup_n, hp_up1, hp_upn, ne_eq, not_false_eq_true, sh_0, sh_1, sh_2, sh_3, sh_4, sh_5, sh_8, sh_15, sh_16, sh_24, Int.reducePow, Int.cast_ofNat_Int, w_of, wl_of, ltT, ltF, leT, leF, eqT, eqF, okF_0, okF_s, gF_0, gF_s, consC_o, sF_0, sF_s, clsO_o, inA_i, ldA_i, stA_i, inJ_l, ldJ_l, stJ_l, inR_r, ldR_r, stR_r, tgR_r, lenA_i, lenA_l, lenA_r, lenA_ex, nl_i, nl_o, nl_l, nl_n, wd_n, wd_i, wd_l, wd_o, fit_i, fit_l, fit_o, K_v, K_n, true_and, and_true, Nat.reduceAdd, Nat.reduceLeDiff, Nat.reduceEqDiff, Nat.reduceMul, Nat.reduceLT, reduceIte, true_or, or_true, cmp_lt, cmp_gt, cmp_eq, wb_0, b_01, cmp_lt', cmp_gt', cmp_eq', b_0, b_1, wb_1, Int.reduceSub, Int.reduceToNat, List.getD_cons_succ, List.getD_cons_zero, Int.reduceLE, Int.reduceLT, Int.reduceEq, Int.reduceNeg, Int.reduceAdd, Int.reduceMul, and_self, em_b, ne_eq, not_false_eq_true, not_true_eq_false]
    try rfl
  | succ q ihq =>
    intro j h fm o6 hj hA hm hfv hno
    have hA' := hA
    obtain ⟨h1, h2, h3, h4, h5, h6, h7, h8⟩ := hA
    obtain ⟨hKC⟩ : Nonempty (KCty ow h ca c) := by obtain ⟨_, _, _, _, _, _, _, _, _, _, a9⟩ := h2; exact ⟨a9⟩
    obtain ⟨iy, h27⟩ : ∃ i, hp h 27 = hoO i (vr ca) := by obtain ⟨i, A, a1, _⟩ := h2; exact ⟨i, a1⟩
    obtain ⟨y4, y5, y6, y7, y8, y9, y10, y11, y14, y15, y17, hAc⟩ := KCty_sz hKC
    have hx : L[j]? = some L[j] := List.getElem?_eq_getElem (by omega)
    generalize L[j] = x at hx
    have hxm : x ∈ nx c sky y := by rw [hL]; exact List.mem_of_getElem? hx
    have hxo := nx_ok hy hxm
    have hxl := encC_lt hK hxo
    have h24 := szC_le hK
    have hf := hfa j x hx
    have ft := fun (d : Nat) (Q : PQ) => Ro_fits (d := d) (Q := Q) (l := lw) hK hKC.1 hxo rfl h4 h5 (show v < 8 by omega) hfw hb
    have ej : (j : Int) + 1 = ((j + 1 : Nat) : Int) := by omega
    have ev : (v : Int) + 1 = ((v + 1 : Nat) : Int) := by omega
    have av := ah_at (v := v) (by omega)
    have step : ¬ okH c sky lw r v x → ∀ (k : Nat) z, k < j + 1 → L[k]? = some z → ¬ okH c sky lw r v z := fun hx' k z hk hz => by
      by_cases w : k = j
      · rw [w, hx] at hz
        have ez : x = z := Option.some.inj hz
        rw [← ez]; exact hx'
      · exact hno k z (by omega) hz
    by_cases hft : fitB c lw v x.2 = true
    · simp only [hft, if_true] at ft
      obtain ⟨g, fm1, b1, b2, b3, b4⟩ := ih (v + 1) h fm x.2 (by omega) hxo hA' hm
      have gv : hp g (50 + v) = aI 0 16 fa := by
        rw [b1.2.2 (50 + v) (by rw [tg_ah h1 (by omega)]; decide) (fun z => by have := tg_ah h1 (u := v) (by omega); rw [z, om] at this; omega) (by omega)]
        exact hfv
      by_cases hc : 0 < cmF c sky lw r (v + 1) x.2
      · refine ⟨g, fm1, j, b1, b2, b3, Or.inr ⟨j, x, rfl, hx, ⟨hft, hc⟩, hno⟩, fun d Q => ?_⟩
        have b4' := fun (Q : PQ) => b4 d Q
        simp only [hc, if_true] at b4'
        rw [show d + 9 + (r + 1) = d + 7 + r + 2 + 1 by omega]
        rw [show d + 9 + r = d + 7 + r + 2 by omega] at b4'
        rw [e_86_46]
        simp (disch := omega) only [e_86_48, e_86_50, e_86_53, e_86_54, e_86_57, e_86_58, e_86_59, e_86_61, e_86_62, e_86_64, e_86_65, e_86_66, e_86_69, e_86_71, e_86_72, e_86_75, e_86_78, e_86_79, e_86_80, e_86_82, e_86_83, e_86_84, e_86_85, e_86_88, e_86_91, e_86_93, h27, h4, h6, hfv, hAc, hf, ft, av, b4', ej, ev, true_and, rwO_c, rwO_g0, rwO_k0, rwO_g1, rwO_k1, rwO_s1, rwO_g2, rwO_k2, rwO_s2, rwO_g3, rwO_k3, rwO_g4, rwO_k4, rwO_s4, rwO_g5, rwO_k5, rwO_g6, rwO_k6, dkO_c, dkO_g0, dkO_k0, dkO_s0, dkO_g1, dkO_k1, dkO_s1, dkO_g2, dkO_k2, dkO_s2, hoO_c, hoO_g0, hoO_k0, hoO_s0, hoO_g1, hoO_k1, hoO_s1, hoO_g2, hoO_k2, hoO_s2, hoO_g3, hoO_k3, hoO_g4, hoO_k4, hoO_g5, hoO_k5, hoO_g6, hoO_k6, hoO_g7, hoO_k7, hoO_g8, hoO_k8, hoO_g9, hoO_k9, hoO_s9, iup_s, iup_n, hp_up1, hp_upn, ne_eq, not_false_eq_true, sh_0, sh_1, sh_2, sh_3, sh_4, sh_5, sh_8, sh_15, sh_16, sh_24, Int.reducePow, Int.cast_ofNat_Int, w_of, wl_of, ltT, ltF, leT, leF, eqT, eqF, okF_0, okF_s, gF_0, gF_s, consC_o, sF_0, sF_s, clsO_o, inA_i, ldA_i, stA_i, inJ_l, ldJ_l, stJ_l, inR_r, ldR_r, stR_r, tgR_r, lenA_i, lenA_l, lenA_r, lenA_ex, nl_i, nl_o, nl_l, nl_n, wd_n, wd_i, wd_l, wd_o, fit_i, fit_l, fit_o, K_v, K_n, true_and, and_true, Nat.reduceAdd, Nat.reduceLeDiff, Nat.reduceEqDiff, Nat.reduceMul, Nat.reduceLT, reduceIte, true_or, or_true, cmp_lt, cmp_gt, cmp_eq, wb_0, b_01, cmp_lt', cmp_gt', cmp_eq', b_0, b_1, wb_1, Int.reduceSub, Int.reduceToNat, List.getD_cons_succ, List.getD_cons_zero, Int.reduceLE, Int.reduceLT, Int.reduceEq, Int.reduceNeg, Int.reduceAdd, Int.reduceMul, and_self, em_b, ne_eq, not_false_eq_true, not_true_eq_false]
        try rfl
      · obtain ⟨h', fm', w, c1, c2, c3, c4, c5⟩ := ihq (j + 1) g fm1 (some (vi (encC c x.2))) (by omega) b2 b3 gv (step (fun z => hc z.2))
        refine ⟨h', fm', w, chy_t b1 c1, c2, c3, c4, fun d Q => ?_⟩
        rw [← c5 d Q]
        have b4' := fun (Q : PQ) => b4 d Q
        simp only [hc, if_false] at b4'
        rw [show d + 9 + (r + 1) = d + 7 + r + 2 + 1 by omega]
        rw [show d + 9 + r = d + 7 + r + 2 by omega] at b4'
        rw [e_86_46]
        simp (disch := omega) only [e_86_48, e_86_50, e_86_53, e_86_54, e_86_57, e_86_58, e_86_59, e_86_61, e_86_62, e_86_64, e_86_65, e_86_66, e_86_69, e_86_71, e_86_72, e_86_75, e_86_78, e_86_79, e_86_80, e_86_82, e_86_83, e_86_84, e_86_85, e_86_88, e_86_91, e_86_93, e_86_94, e_86_97, h27, h4, h6, hfv, hAc, hf, ft, av, b4', ej, ev, true_and, rwO_c, rwO_g0, rwO_k0, rwO_g1, rwO_k1, rwO_s1, rwO_g2, rwO_k2, rwO_s2, rwO_g3, rwO_k3, rwO_g4, rwO_k4, rwO_s4, rwO_g5, rwO_k5, rwO_g6, rwO_k6, dkO_c, dkO_g0, dkO_k0, dkO_s0, dkO_g1, dkO_k1, dkO_s1, dkO_g2, dkO_k2, dkO_s2, hoO_c, hoO_g0, hoO_k0, hoO_s0, hoO_g1, hoO_k1, hoO_s1, hoO_g2, hoO_k2, hoO_s2, hoO_g3, hoO_k3, hoO_g4, hoO_k4, hoO_g5, hoO_k5, hoO_g6, hoO_k6, hoO_g7, hoO_k7, hoO_g8, hoO_k8, hoO_g9, hoO_k9, hoO_s9, iup_s, iup_n, hp_up1, hp_upn, ne_eq, not_false_eq_true, sh_0, sh_1, sh_2, sh_3, sh_4, sh_5, sh_8, sh_15, sh_16, sh_24, Int.reducePow, Int.cast_ofNat_Int, w_of, wl_of, ltT, ltF, leT, leF, eqT, eqF, okF_0, okF_s, gF_0, gF_s, consC_o, sF_0, sF_s, clsO_o, inA_i, ldA_i, stA_i, inJ_l, ldJ_l, stJ_l, inR_r, ldR_r, stR_r, tgR_r, lenA_i, lenA_l, lenA_r, lenA_ex, nl_i, nl_o, nl_l, nl_n, wd_n, wd_i, wd_l, wd_o, fit_i, fit_l, fit_o, K_v, K_n, true_and, and_true, Nat.reduceAdd, Nat.reduceLeDiff, Nat.reduceEqDiff, Nat.reduceMul, Nat.reduceLT, reduceIte, true_or, or_true, cmp_lt, cmp_gt, cmp_eq, wb_0, b_01, cmp_lt', cmp_gt', cmp_eq', b_0, b_1, wb_1, Int.reduceSub, Int.reduceToNat, List.getD_cons_succ, List.getD_cons_zero, Int.reduceLE, Int.reduceLT, Int.reduceEq, Int.reduceNeg, Int.reduceAdd, Int.reduceMul, and_self, em_b, ne_eq, not_false_eq_true, not_true_eq_false]
        try rfl
    · simp only [hft, if_false, Bool.false_eq_true] at ft
      obtain ⟨h', fm', w, c1, c2, c3, c4, c5⟩ := ihq (j + 1) h fm (some (vi (encC c x.2))) (by omega) hA' hm hfv (step (fun z => hft z.1))
      refine ⟨h', fm', w, c1, c2, c3, c4, fun d Q => ?_⟩
      rw [← c5 d Q]
      rw [show d + 9 + (r + 1) = d + 7 + r + 2 + 1 by omega]
      rw [e_86_46]
      simp (disch := omega) only [e_86_48, e_86_50, e_86_53, e_86_54, e_86_57, e_86_58, e_86_59, e_86_61, e_86_62, e_86_64, e_86_65, e_86_66, e_86_69, e_86_71, e_86_72, e_86_75, e_86_94, e_86_97, h27, h4, h6, hfv, hAc, hf, ft, av, ej, ev, true_and, rwO_c, rwO_g0, rwO_k0, rwO_g1, rwO_k1, rwO_s1, rwO_g2, rwO_k2, rwO_s2, rwO_g3, rwO_k3, rwO_g4, rwO_k4, rwO_s4, rwO_g5, rwO_k5, rwO_g6, rwO_k6, dkO_c, dkO_g0, dkO_k0, dkO_s0, dkO_g1, dkO_k1, dkO_s1, dkO_g2, dkO_k2, dkO_s2, hoO_c, hoO_g0, hoO_k0, hoO_s0, hoO_g1, hoO_k1, hoO_s1, hoO_g2, hoO_k2, hoO_s2, hoO_g3, hoO_k3, hoO_g4, hoO_k4, hoO_g5, hoO_k5, hoO_g6, hoO_k6, hoO_g7, hoO_k7, hoO_g8, hoO_k8, hoO_g9, hoO_k9, hoO_s9, iup_s, iup_n, hp_up1, hp_upn, ne_eq, not_false_eq_true, sh_0, sh_1, sh_2, sh_3, sh_4, sh_5, sh_8, sh_15, sh_16, sh_24, Int.reducePow, Int.cast_ofNat_Int, w_of, wl_of, ltT, ltF, leT, leF, eqT, eqF, okF_0, okF_s, gF_0, gF_s, consC_o, sF_0, sF_s, clsO_o, inA_i, ldA_i, stA_i, inJ_l, ldJ_l, stJ_l, inR_r, ldR_r, stR_r, tgR_r, lenA_i, lenA_l, lenA_r, lenA_ex, nl_i, nl_o, nl_l, nl_n, wd_n, wd_i, wd_l, wd_o, fit_i, fit_l, fit_o, K_v, K_n, true_and, and_true, Nat.reduceAdd, Nat.reduceLeDiff, Nat.reduceEqDiff, Nat.reduceMul, Nat.reduceLT, reduceIte, true_or, or_true, cmp_lt, cmp_gt, cmp_eq, wb_0, b_01, cmp_lt', cmp_gt', cmp_eq', b_0, b_1, wb_1, Int.reduceSub, Int.reduceToNat, List.getD_cons_succ, List.getD_cons_zero, Int.reduceLE, Int.reduceLT, Int.reduceEq, Int.reduceNeg, Int.reduceAdd, Int.reduceMul, and_self, em_b, ne_eq, not_false_eq_true, not_true_eq_false]
      try rfl
theorem Ro_first {ow : Nat → Nat} {h : PH} {ca : Nat} {c : KC} {sky e : Nat} {i : Nat → Int} {dl dx dm nd : Nat} {pa pb : PV} {fw fm f58 : Int → Int} {lw : List Int} {r v : Nat} {y : ST} (hO : okC c) (hy : okS c y) (hv : v + (r + 1) = lw.length) (hi : i 4 = (lw.length : Int)) (hl : lw.length ≤ 8) (hn2 : szC c ≤ nd) (hn3 : nd ≤ 24000) (om : ow dm = 2) (om2 : 34 < dm) (hfw : ∀ k, k < lw.length → fw k = lw.getD k 0) (hb : ∀ k, k < lw.length → -1 ≤ lw.getD k 0 ∧ lw.getD k 0 < 5) (hA : AhS ow h ca c sky e i dl dx dm nd pa pb fw fm) (hm : mkI c sky lw fm) (h58 : hp h 58 = aI 0 16 f58) :
    ∃ (h' : PH) (fm' f50 f58' : Int → Int) (w : Int), chz ow dm v h h' ∧ AhS ow h' ca c sky e i dl dx dm nd pa pb fw fm' ∧ mkI c sky lw fm' ∧ hp h' 58 = aI 0 16 f58' ∧ hp h' (50 + v) = aI 0 16 f50 ∧ ((w = -1 ∧ ¬ 0 < cmF c sky lw (r + 1) v y) ∨ ∃ (m k : Nat), k < 16 ∧ w = (k : Int) ∧ fstS c sky lw r v y m ∧ f58' k = deedM m ∧ f50 k = encC c (toM c sky y m)) ∧ ∀ d Q, WP (d + 9 + (r + 1)) 86 0 [some (vr 45), some (vr 27), some (vi (encC c y)), some (vi v), none, none, none] [] h Q = Q (some (vi w)) h' := by
  have hK := hO.1
  have hA' := hA
  obtain ⟨h1, h2, h3, h4, h5, h6, h7, h8⟩ := hA
  obtain ⟨iy, h27⟩ : ∃ i, hp h 27 = hoO i (vr ca) := by obtain ⟨i, A, a1, _⟩ := h2; exact ⟨i, a1⟩
  obtain ⟨g, g1, g2, g3, g4⟩ := H_spread h1 h2 hy
  have hA1 := AhS_c om hA' g1 g2
  obtain ⟨ii, f, gg, s1, s2, s3, s4, s5⟩ := g3
  have hlen := nx_len (sky := sky) hO hy
  have t58 : ow 58 = 20 := h1.2 58 (by omega)
  have q58 : hp g 58 = aI 0 16 f58 := by rw [chg_at g1 t58 (by decide)]; exact h58
  generalize hL : nx c sky y = L at *
  obtain ⟨f50, q50⟩ := hA1.2.2.2.2.2.2.1 v (by omega)
  have cp1 := fun (d : Nat) (ls : PL) (Q : PQ) => f_cp1 (d := d) (ls := ls) (Q := Q) (h := g) (n := L.length) s3 q58 (by omega) (by omega) (by omega) (by omega) (by omega)
  have cp2 := fun (d : Nat) (ls : PL) (Q : PQ) => f_cp2 (d := d) (ls := ls) (Q := Q) (h := hup g 58 (aI 0 16 (cpyF f f58 L.length))) (n := L.length) (by rw [hp_upn (show 33 ≠ 58 by omega)]; exact s4) (by rw [hp_upn (show 50 + v ≠ 58 by omega)]; exact q50) (by omega) (by omega) (by omega) (by omega) (by omega)
  have hA2 := AhS_a (u := v) (f := cpyF gg f50 L.length) om (by omega) (AhS_8 (x := aI 0 16 (cpyF f f58 L.length)) om hA1)
  have ih := can_all (ow := ow) (ca := ca) (sky := sky) (e := e) (dl := dl) (dx := dx) (pa := pa) (pb := pb) hO hi hl hn2 hn3 om om2 hfw hb r
  obtain ⟨h', fm', w, b1, b2, b3, b4, b5⟩ := fst_Lp hO hL hy hv hl om (hfw v (by omega)) (hb v (by omega)) ih (fa := cpyF gg f50 L.length) (fun k z hz => by
    have hk := (List.getElem?_eq_some_iff.mp hz).1
    rw [cp_at hk]
    exact (s5 k z hz).2) L.length 0 _ fm none (by omega) hA2 hm hp_up1 (fun k z hk => by omega)
  have e50 : hp h' (50 + v) = aI 0 16 (cpyF gg f50 L.length) := by
    rw [b1.2.2 (50 + v) (by rw [tg_ah h1 (by omega)]; decide) (fun z => by have := tg_ah h1 (u := v) (by omega); rw [z, om] at this; omega) (by omega), hp_up1]
  have e58 : hp h' 58 = aI 0 16 (cpyF f f58 L.length) := by
    rw [b1.2.2 58 (by rw [t58]; decide) (fun z => by rw [← z, t58] at om; omega) (by omega), hp_upn (by omega), hp_up1]
  refine ⟨h', fm', _, _, w, chz_t (chz_y (chy_c g1)) (chz_t (chz_t (chz_8 (by omega)) (chz_y (chy_a (Nat.le_refl _) (by omega)))) (chz_w (chz_y b1) (by omega))), b2, b3, e58, e50, ?_, fun d Q => ?_⟩
  · rcases b4 with ⟨z1, z2⟩ | ⟨k, x, z1, z2, z3, z4⟩
    · refine Or.inl ⟨z1, ?_⟩
      rw [cm_ok hK]
      rintro ⟨x, x1, x2⟩
      rw [hL] at x1
      obtain ⟨k, hk⟩ := List.getElem?_of_mem x1
      exact z2 k x hk x2
    · have hkl := (List.getElem?_eq_some_iff.mp z2).1
      obtain ⟨a1, a2⟩ := s5 k x z2
      obtain ⟨m, m1, m2, m3, m4⟩ := nx_idx (M := 19) (show (nxTo c sky y 19)[k]? = some x by have := z2; rw [← hL] at this; exact this)
      subst m3
      refine Or.inr ⟨m, k, by omega, z1, ⟨m1, ⟨m2, z3⟩, fun m' hm' z => ?_⟩, by rw [cp_at hkl]; exact a1, by rw [cp_at hkl]; exact a2⟩
      have h1' := nx_at (c := c) (sky := sky) (s := y) (m := m') (by omega) z.1
      rw [hL] at h1'
      exact z4 _ _ (by rw [m4]; exact nxTo_lt hm' z.1) h1' z.2
  · have b5' := fun (Q : PQ) => b5 d Q
    rw [nc0] at b5'
    have g4' := fun (Q : PQ) => g4 (d + 1 + r) Q
    have av := ah_at (v := v) (by omega)
    have e45 := hA1.2.2.2.1
    have e49 := hA1.2.2.2.2.2.1
    rw [show d + 9 + (r + 1) = d + 1 + r + 8 + 1 by omega] at b5' ⊢
    simp (disch := omega) only [e_86_0, e_86_1, e_86_2, e_86_5, e_86_6, e_86_9, e_86_11, e_86_12, e_86_15, e_86_16, e_86_17, e_86_20, e_86_21, e_86_26, e_86_27, e_86_30, e_86_31, e_86_32, e_86_35, e_86_36, e_86_37, e_86_38, e_86_43, e_86_44, h27, h4, g4', s1, s2, cp1, cp2, e45, e49, av, b5', true_and, rwO_c, rwO_g0, rwO_k0, rwO_g1, rwO_k1, rwO_s1, rwO_g2, rwO_k2, rwO_s2, rwO_g3, rwO_k3, rwO_g4, rwO_k4, rwO_s4, rwO_g5, rwO_k5, rwO_g6, rwO_k6, dkO_c, dkO_g0, dkO_k0, dkO_s0, dkO_g1, dkO_k1, dkO_s1, dkO_g2, dkO_k2, dkO_s2, hoO_c, hoO_g0, hoO_k0, hoO_s0, hoO_g1, hoO_k1, hoO_s1, hoO_g2, hoO_k2, hoO_s2, hoO_g3, hoO_k3, hoO_g4, hoO_k4, hoO_g5, hoO_k5, hoO_g6, hoO_k6, hoO_g7, hoO_k7, hoO_g8, hoO_k8, hoO_g9, hoO_k9, hoO_s9, iup_s, iup_n, hp_up1, hp_upn, ne_eq, not_false_eq_true, sh_0, sh_1, sh_2, sh_3, sh_4, sh_5, sh_8, sh_15, sh_16, sh_24, Int.reducePow, Int.cast_ofNat_Int, w_of, wl_of, ltT, ltF, leT, leF, eqT, eqF, okF_0, okF_s, gF_0, gF_s, consC_o, sF_0, sF_s, clsO_o, inA_i, ldA_i, stA_i, inJ_l, ldJ_l, stJ_l, inR_r, ldR_r, stR_r, tgR_r, lenA_i, lenA_l, lenA_r, lenA_ex, nl_i, nl_o, nl_l, nl_n, wd_n, wd_i, wd_l, wd_o, fit_i, fit_l, fit_o, K_v, K_n, true_and, and_true, Nat.reduceAdd, Nat.reduceLeDiff, Nat.reduceEqDiff, Nat.reduceMul, Nat.reduceLT, reduceIte, true_or, or_true, cmp_lt, cmp_gt, cmp_eq, wb_0, b_01, cmp_lt', cmp_gt', cmp_eq', b_0, b_1, wb_1, Int.reduceSub, Int.reduceToNat, List.getD_cons_succ, List.getD_cons_zero, Int.reduceLE, Int.reduceLT, Int.reduceEq, Int.reduceNeg, Int.reduceAdd, Int.reduceMul, and_self, em_b, ne_eq, not_false_eq_true, not_true_eq_false]
    try rfl
