/-! Keeping: solve's loop -/
theorem path_push {c : KC} {P : List ST} {f : Int → Int} {t : ST} (h : pathA c P f) : pathA c (P ++ [t]) (fset f (P.length : Nat) (encC c t)) := by
  intro j s hj
  by_cases w : j < P.length
  · rw [List.getElem?_append_left w] at hj
    rw [fs_ne (by omega)]
    exact h j s hj
  · have hl := (List.getElem?_eq_some_iff.mp hj).1
    rw [List.length_append] at hl
    simp only [List.length_singleton] at hl
    have e : j = P.length := by omega
    rw [e, List.getElem?_append_right (Nat.le_refl _), Nat.sub_self] at hj
    have et : t = s := Option.some.inj hj
    rw [e, fs_same, et]
theorem K_solveLp {ow : Nat → Nat} {ca : Nat} {c : KC} {sky e b n n2 kA l : Nat} {t0 : ST} {lf x3 : Int} {cc wv : PV} (hO : okC c) (hb : lfO lf b) (hn : szC c ≤ n) (hn1 : n ≤ 24000) (hn2 : szC c ≤ n2) (hn3 : n2 ≤ 24000) (hk10 : 10 ≤ kA) (hl10 : 10 ≤ l) (hne : l ≠ kA) (hkA : kA ≠ 41) (hl41 : l ≠ 41) (hko : ow kA ≠ 1) (hlo : ow l ≠ 1) (hk0 : ow kA ≠ 0) (hl0 : ow l ≠ 0) :
    ∀ (r T : Nat) (h : PH) (i : Nat → Int) (kn fl : Int → Int) (P D : List ST) (o9 o10 o11 : Option PV), T + r = 2 * szC c → (P = [] ∨ T + 1 = P.length + 2 * D.length) → owF ow h → HoP ow h ca c sky e → hp h 41 = kpO i cc wv → hp h kA = aI 0 n kn → hp h l = aI 0 n2 fl → slI c sky b kn P D t0 → pathA c P fl →
    ∃ (h' : PH) (i' : Nat → Int) (kn' fl' : Int → Int) (D' : List ST), chx ow [41, kA, l] h h' ∧ HoP ow h' ca c sky e ∧ hp h' 41 = kpO i' cc wv ∧ i' 2 = i 2 ∧ hp h' kA = aI 0 n kn' ∧ hp h' l = aI 0 n2 fl' ∧ slI c sky b kn' [] D' t0 ∧ ∀ d Q, WP (d + 10) 53 42 [some (vr 41), some (vr 27), some (vr kA), some (vi x3), some (vi lf), some (vr l), some (vi P.length), some (vi ((2 * szC c : Nat) : Int)), some (vi T), o9, o10, o11] [] h Q = Q none h' := by
  have hK := hO.1
  have h24 := szC_le hK
  have up2 : ∀ {h : PH} {a : Nat} {x : PC}, owF ow h → HoP ow h ca c sky e → ow a ≠ 1 → ow a ≠ 0 → owF ow (hup h a x) ∧ HoP ow (hup h a x) ca c sky e := fun {h a x} hF hH h1 h0 => by
    have hch : chg ow [ow a] h (hup h a x) := chg_up rfl (by simp)
    exact ⟨chg_F hch hF, HoP_c hF hch (fun z => h0 (List.mem_singleton.mp z).symm) (fun z => h1 (List.mem_singleton.mp z).symm) hH⟩
  intro r
  induction r with
  | zero =>
    intro T h i kn fl P D o9 o10 o11 hT hPD hF hH h41 hkn hfl hS hP
    have hlen := sl_len hK hS
    have hP0 : P = [] := by
      rcases hPD with z | z
      · exact z
      · exact List.eq_nil_of_length_eq_zero (by omega)
    subst hP0
    refine ⟨h, i, kn, fl, D, chx_r, hH, h41, rfl, hkn, hfl, hS, fun d Q => ?_⟩
    rw [e_53_42]
    simp (disch := omega) only [e_53_44, e_53_46, e_53_158, iup_s, iup_n, hp_up1, hp_upn, ne_eq, not_false_eq_true, sh_0, sh_1, sh_2, sh_3, sh_4, sh_5, sh_8, sh_15, sh_16, sh_24, Int.reducePow, Int.cast_ofNat_Int, w_of, wl_of, ltT, ltF, leT, leF, eqT, eqF, okF_0, okF_s, gF_0, gF_s, consC_o, sF_0, sF_s, clsO_o, inA_i, ldA_i, stA_i, inJ_l, ldJ_l, stJ_l, inR_r, ldR_r, stR_r, tgR_r, lenA_i, lenA_l, lenA_r, lenA_ex, nl_i, nl_o, nl_l, nl_n, wd_n, wd_i, wd_l, wd_o, fit_i, fit_l, fit_o, K_v, K_n, true_and, and_true, Nat.reduceAdd, Nat.reduceLeDiff, Nat.reduceEqDiff, Nat.reduceMul, Nat.reduceLT, reduceIte, true_or, or_true, cmp_lt, cmp_gt, cmp_eq, wb_0, b_01, cmp_lt', cmp_gt', cmp_eq', b_0, b_1, wb_1, Int.reduceSub, Int.reduceToNat, List.getD_cons_succ, List.getD_cons_zero, Int.reduceLE, Int.reduceLT, Int.reduceEq, Int.reduceNeg, Int.reduceAdd, Int.reduceMul, and_self, em_b, ne_eq, not_false_eq_true, not_true_eq_false]
    try rfl
  | succ r ih =>
    intro T h i kn fl P D o9 o10 o11 hT hPD hF hH h41 hkn hfl hS hP
    have hlen := sl_len hK hS
    rcases List.eq_nil_or_concat P with hP0 | ⟨P0, s, hP0⟩
    · subst hP0
      refine ⟨h, i, kn, fl, D, chx_r, hH, h41, rfl, hkn, hfl, hS, fun d Q => ?_⟩
      rw [show (([] : List ST).length : Int) = 0 from rfl]
      rw [e_53_42]
      simp (disch := omega) only [e_53_44, e_53_46, e_53_49, e_53_51, e_53_158, iup_s, iup_n, hp_up1, hp_upn, ne_eq, not_false_eq_true, sh_0, sh_1, sh_2, sh_3, sh_4, sh_5, sh_8, sh_15, sh_16, sh_24, Int.reducePow, Int.cast_ofNat_Int, w_of, wl_of, ltT, ltF, leT, leF, eqT, eqF, okF_0, okF_s, gF_0, gF_s, consC_o, sF_0, sF_s, clsO_o, inA_i, ldA_i, stA_i, inJ_l, ldJ_l, stJ_l, inR_r, ldR_r, stR_r, tgR_r, lenA_i, lenA_l, lenA_r, lenA_ex, nl_i, nl_o, nl_l, nl_n, wd_n, wd_i, wd_l, wd_o, fit_i, fit_l, fit_o, K_v, K_n, true_and, and_true, Nat.reduceAdd, Nat.reduceLeDiff, Nat.reduceEqDiff, Nat.reduceMul, Nat.reduceLT, reduceIte, true_or, or_true, cmp_lt, cmp_gt, cmp_eq, wb_0, b_01, cmp_lt', cmp_gt', cmp_eq', b_0, b_1, wb_1, Int.reduceSub, Int.reduceToNat, List.getD_cons_succ, List.getD_cons_zero, Int.reduceLE, Int.reduceLT, Int.reduceEq, Int.reduceNeg, Int.reduceAdd, Int.reduceMul, and_self, em_b, ne_eq, not_false_eq_true, not_true_eq_false]
      try rfl
    · rw [List.concat_eq_append] at hP0
      subst hP0
      have hPl : (P0 ++ [s]).length = P0.length + 1 := by rw [List.length_append]; rfl
      have hT1 : T + 1 = (P0 ++ [s]).length + 2 * D.length := by
        rcases hPD with z | z
        · rw [z] at hPl; simp at hPl
        · exact z
      have hso := hS.2.1 s (by simp)
      have hsl := encC_lt hK hso
      have hfs := hP P0.length s (by rw [List.getElem?_append_right (Nat.le_refl _), Nat.sub_self]; rfl)
      obtain ⟨v, i1, h1, a1, a2, a3, a4, a5, a6⟩ := K_look hF hH hso hb hS.1 hn hkA hko h41 hkn
      have ekn : hp h1 kA = aI 0 n kn := by rw [a3.2.2 kA hko (fun z => hkA (List.mem_singleton.mp z))]; exact hkn
      have efl : hp h1 l = aI 0 n2 fl := by rw [a3.2.2 l hlo (fun z => hl41 (List.mem_singleton.mp z))]; exact hfl
      have hF1 : owF ow h1 := ⟨by rw [a3.1]; exact hF.1, hF.2⟩
      have lk := fun (d : Nat) (Q : PQ) => a6 d Q
      have eP : ((P0.length + 1 : Nat) : Int) - 1 = (P0.length : Int) := by omega
      have eP2 : ((P0.length + 1 : Nat) : Int) + -1 = (P0.length : Int) := by omega
      have eT : (T : Int) + 1 = ((T + 1 : Nat) : Int) := by omega
      rw [hPl] at hlen
      rcases a1 with ⟨rfl, x, x1, x2, x3'⟩ | ⟨most, rfl, hm, hlk⟩
      · have hE := chn_endl hS.2.2.2.1 hK (fun t ht => hS.2.1 t (List.mem_append.mpr (Or.inl ht))) hS.1 x1 x2 x3'
        obtain ⟨kn2, m1, m2, m3⟩ := k_markLp (l0 := some (vr 41)) (l1 := some (vr 27)) (l3 := some (vi x3)) (l4 := some (vi lf)) (l7 := some (vi ((2 * szC c : Nat) : Int))) (l8 := some (vi T)) (l9 := some (vi (encC c s))) (x10 := 2147483647) hK (fun t ht => hS.2.1 t (List.mem_append.mpr (Or.inl ht))) hn hn1 (by rw [hPl]; omega) hn3 hk10 hne hP (P0 ++ [s]).length 0 h1 kn (by omega) ekn efl
        have hS2 := sl_all (kn' := kn2) hS hE (fun t ht => by obtain ⟨k, hk⟩ := List.getElem?_of_mem ht; exact m1 k t (Nat.zero_le _) hk) (fun t hto hno => m2 t hto (fun k _ hk => hno (List.mem_of_getElem? hk)))
        obtain ⟨u1, u2⟩ := up2 (x := aI 0 n kn2) hF1 a4 hko hk0
        obtain ⟨h', i', kn', fl', D', b1, b2, b3, b4, b5, b6, b7, b8⟩ := ih (T + 1) (hup h1 kA (aI 0 n kn2)) i1 kn2 fl [] (P0 ++ [s] ++ D) (some (vi (encC c s))) (some (vi 2147483647)) (some (vi ((P0.length + 1 : Nat) : Int))) (by omega) (Or.inl rfl) u1 u2 (by rw [hp_upn (fun z => hkA z.symm)]; exact a5) hp_up1 (by rw [hp_upn hne]; exact efl) hS2 (fun j t hj => by simp at hj)
        refine ⟨h', i', kn', fl', D', chx_t (chx_t (chx_w a3 (by simp)) (chx_up (by simp))) b1, b2, b3, by rw [b4, a2], b5, b6, b7, fun d Q => ?_⟩
        have m3' := m3 (d + 10) Q
        rw [nc0, hPl] at m3'
        rw [← b8 d Q, hPl, show (([] : List ST).length : Int) = 0 from rfl]
        rw [e_53_42]
        simp (disch := omega) only [e_53_44, e_53_46, e_53_49, e_53_51, e_53_54, e_53_56, e_53_58, e_53_59, e_53_60, e_53_61, e_53_63, e_53_64, e_53_65, e_53_66, e_53_68, e_53_70, e_53_73, e_53_75, e_53_77, e_53_79, e_53_82, e_53_83, e_53_107, e_53_108, e_53_110, e_53_152, e_53_155, h41, hkn, hfl, eP, hfs, lk, m3', true_and, eT, kpO_c, kpO_g0, kpO_k0, kpO_g1, kpO_k1, kpO_s1, kpO_g2, kpO_k2, kpO_s2, kpO_g3, kpO_k3, kpO_s3, kpO_g4, kpO_k4, kpO_s4, kpO_g5, kpO_k5, kpO_g6, kpO_k6, dkO_c, dkO_g0, dkO_k0, dkO_s0, dkO_g1, dkO_k1, dkO_s1, dkO_g2, dkO_k2, dkO_s2, hoO_c, hoO_g0, hoO_k0, hoO_s0, hoO_g1, hoO_k1, hoO_s1, hoO_g2, hoO_k2, hoO_s2, hoO_g3, hoO_k3, hoO_g4, hoO_k4, hoO_g5, hoO_k5, hoO_g6, hoO_k6, hoO_g7, hoO_k7, hoO_g8, hoO_k8, hoO_g9, hoO_k9, hoO_s9, iup_s, iup_n, hp_up1, hp_upn, ne_eq, not_false_eq_true, sh_0, sh_1, sh_2, sh_3, sh_4, sh_5, sh_8, sh_15, sh_16, sh_24, Int.reducePow, Int.cast_ofNat_Int, w_of, wl_of, ltT, ltF, leT, leF, eqT, eqF, okF_0, okF_s, gF_0, gF_s, consC_o, sF_0, sF_s, clsO_o, inA_i, ldA_i, stA_i, inJ_l, ldJ_l, stJ_l, inR_r, ldR_r, stR_r, tgR_r, lenA_i, lenA_l, lenA_r, lenA_ex, nl_i, nl_o, nl_l, nl_n, wd_n, wd_i, wd_l, wd_o, fit_i, fit_l, fit_o, K_v, K_n, true_and, and_true, Nat.reduceAdd, Nat.reduceLeDiff, Nat.reduceEqDiff, Nat.reduceMul, Nat.reduceLT, reduceIte, true_or, or_true, cmp_lt, cmp_gt, cmp_eq, wb_0, b_01, cmp_lt', cmp_gt', cmp_eq', b_0, b_1, wb_1, Int.reduceSub, Int.reduceToNat, List.getD_cons_succ, List.getD_cons_zero, Int.reduceLE, Int.reduceLT, Int.reduceEq, Int.reduceNeg, Int.reduceAdd, Int.reduceMul, and_self, em_b, ne_eq, not_false_eq_true, not_true_eq_false]
        try rfl
      · by_cases hun : i1 4 = -1
        · rw [hun] at hlk
          have hv := lk_val hso hS.1 hlk
          obtain ⟨u1, u2⟩ := up2 (x := aI 0 n (fset kn (encC c s : Nat) ((most + 1 : Nat) : Int))) hF1 a4 hko hk0
          obtain ⟨h', i', kn', fl', D', b1, b2, b3, b4, b5, b6, b7, b8⟩ := ih (T + 1) (hup h1 kA (aI 0 n (fset kn (encC c s : Nat) ((most + 1 : Nat) : Int)))) i1 (fset kn (encC c s : Nat) ((most + 1 : Nat) : Int)) fl P0 (s :: D) (some (vi (encC c s))) (some (vi ((most : Int) + 1))) o11 (by omega) (Or.inr (by rw [List.length_cons]; omega)) u1 u2 (by rw [hp_upn (fun z => hkA z.symm)]; exact a5) hp_up1 (by rw [hp_upn hne]; exact efl) (sl_pop hK hS hv) (fun j t hj => hP j t (app_some hj))
          refine ⟨h', i', kn', fl', D', chx_t (chx_t (chx_w a3 (by simp)) (chx_up (by simp))) b1, b2, b3, by rw [b4, a2], b5, b6, b7, fun d Q => ?_⟩
          rw [← b8 d Q, hPl]
          have em : (most : Int) + 1 = ((most + 1 : Nat) : Int) := by omega
          rw [e_53_42]
          simp (disch := omega) only [e_53_44, e_53_46, e_53_49, e_53_51, e_53_54, e_53_56, e_53_58, e_53_59, e_53_60, e_53_61, e_53_63, e_53_64, e_53_65, e_53_66, e_53_68, e_53_70, e_53_73, e_53_75, e_53_77, e_53_79, e_53_113, e_53_114, e_53_117, e_53_118, e_53_121, e_53_122, e_53_124, e_53_126, e_53_127, e_53_130, e_53_133, e_53_134, e_53_135, e_53_138, e_53_139, e_53_140, e_53_142, e_53_144, e_53_145, e_53_148, e_53_149, e_53_152, e_53_155, h41, hkn, hfl, eP, eP2, hfs, lk, ekn, efl, a5, hun, hk10, true_and, eT, em, kpO_c, kpO_g0, kpO_k0, kpO_g1, kpO_k1, kpO_s1, kpO_g2, kpO_k2, kpO_s2, kpO_g3, kpO_k3, kpO_s3, kpO_g4, kpO_k4, kpO_s4, kpO_g5, kpO_k5, kpO_g6, kpO_k6, dkO_c, dkO_g0, dkO_k0, dkO_s0, dkO_g1, dkO_k1, dkO_s1, dkO_g2, dkO_k2, dkO_s2, hoO_c, hoO_g0, hoO_k0, hoO_s0, hoO_g1, hoO_k1, hoO_s1, hoO_g2, hoO_k2, hoO_s2, hoO_g3, hoO_k3, hoO_g4, hoO_k4, hoO_g5, hoO_k5, hoO_g6, hoO_k6, hoO_g7, hoO_k7, hoO_g8, hoO_k8, hoO_g9, hoO_k9, hoO_s9, iup_s, iup_n, hp_up1, hp_upn, ne_eq, not_false_eq_true, sh_0, sh_1, sh_2, sh_3, sh_4, sh_5, sh_8, sh_15, sh_16, sh_24, Int.reducePow, Int.cast_ofNat_Int, w_of, wl_of, ltT, ltF, leT, leF, eqT, eqF, okF_0, okF_s, gF_0, gF_s, consC_o, sF_0, sF_s, clsO_o, inA_i, ldA_i, stA_i, inJ_l, ldJ_l, stJ_l, inR_r, ldR_r, stR_r, tgR_r, lenA_i, lenA_l, lenA_r, lenA_ex, nl_i, nl_o, nl_l, nl_n, wd_n, wd_i, wd_l, wd_o, fit_i, fit_l, fit_o, K_v, K_n, true_and, and_true, Nat.reduceAdd, Nat.reduceLeDiff, Nat.reduceEqDiff, Nat.reduceMul, Nat.reduceLT, reduceIte, true_or, or_true, cmp_lt, cmp_gt, cmp_eq, wb_0, b_01, cmp_lt', cmp_gt', cmp_eq', b_0, b_1, wb_1, Int.reduceSub, Int.reduceToNat, List.getD_cons_succ, List.getD_cons_zero, Int.reduceLE, Int.reduceLT, Int.reduceEq, Int.reduceNeg, Int.reduceAdd, Int.reduceMul, and_self, em_b, ne_eq, not_false_eq_true, not_true_eq_false]
          try rfl
        · obtain ⟨x, hx, hx0, hxu⟩ := lk_unk hlk hun
          have hxo := en_ok hso hx
          have hxl := encC_lt hK hxo
          have hS2 := sl_push hK hS hx hx0
          have hl2 := sl_len hK hS2
          rw [List.length_append, hPl] at hl2
          simp only [List.length_singleton] at hl2
          have e2 : (((P0 ++ [s]) ++ [x.2]).length : Int) = ((P0.length + 1 + 1 : Nat) : Int) := by rw [List.length_append, hPl]; rfl
          obtain ⟨u1, u2⟩ := up2 (x := aI 0 n (fset kn (encC c x.2 : Nat) (-1))) hF1 a4 hko hk0
          obtain ⟨u3, u4⟩ := up2 (x := aI 0 n2 (fset fl (P0.length + 1 : Nat) (encC c x.2))) u1 u2 hlo hl0
          have hp2 := path_push (t := x.2) hP
          rw [hPl] at hp2
          obtain ⟨h', i', kn', fl', D', b1, b2, b3, b4, b5, b6, b7, b8⟩ := ih (T + 1) (hup (hup h1 kA (aI 0 n (fset kn (encC c x.2 : Nat) (-1)))) l (aI 0 n2 (fset fl (P0.length + 1 : Nat) (encC c x.2)))) i1 (fset kn (encC c x.2 : Nat) (-1)) (fset fl (P0.length + 1 : Nat) (encC c x.2)) ((P0 ++ [s]) ++ [x.2]) D (some (vi (encC c s))) (some (vi ((most : Int) + 1))) o11 (by omega) (Or.inr (by rw [List.length_append, hPl]; simp only [List.length_singleton]; rw [hPl] at hT1; omega)) u3 u4 (by rw [hp_upn (fun z => hl41 z.symm), hp_upn (fun z => hkA z.symm)]; exact a5) (by rw [hp_upn (fun z => hne z.symm), hp_up1]) hp_up1 hS2 hp2
          refine ⟨h', i', kn', fl', D', chx_t (chx_t (chx_t (chx_w a3 (by simp)) (chx_up (by simp))) (chx_up (by simp))) b1, b2, b3, by rw [b4, a2], b5, b6, b7, fun d Q => ?_⟩
          rw [← b8 d Q, hPl, e2]
          have eP3 : ((P0.length + 1 : Nat) : Int) + 1 = ((P0.length + 1 + 1 : Nat) : Int) := by omega
          rw [e_53_42]
          simp (disch := omega) only [e_53_44, e_53_46, e_53_49, e_53_51, e_53_54, e_53_56, e_53_58, e_53_59, e_53_60, e_53_61, e_53_63, e_53_64, e_53_65, e_53_66, e_53_68, e_53_70, e_53_73, e_53_75, e_53_77, e_53_79, e_53_113, e_53_114, e_53_117, e_53_118, e_53_133, e_53_134, e_53_135, e_53_138, e_53_139, e_53_140, e_53_142, e_53_144, e_53_145, e_53_148, e_53_149, e_53_152, e_53_155, h41, hkn, hfl, eP, eP3, hfs, lk, ekn, efl, a5, hxu, hk10, hl10, true_and, eT, kpO_c, kpO_g0, kpO_k0, kpO_g1, kpO_k1, kpO_s1, kpO_g2, kpO_k2, kpO_s2, kpO_g3, kpO_k3, kpO_s3, kpO_g4, kpO_k4, kpO_s4, kpO_g5, kpO_k5, kpO_g6, kpO_k6, dkO_c, dkO_g0, dkO_k0, dkO_s0, dkO_g1, dkO_k1, dkO_s1, dkO_g2, dkO_k2, dkO_s2, hoO_c, hoO_g0, hoO_k0, hoO_s0, hoO_g1, hoO_k1, hoO_s1, hoO_g2, hoO_k2, hoO_s2, hoO_g3, hoO_k3, hoO_g4, hoO_k4, hoO_g5, hoO_k5, hoO_g6, hoO_k6, hoO_g7, hoO_k7, hoO_g8, hoO_k8, hoO_g9, hoO_k9, hoO_s9, iup_s, iup_n, hp_up1, hp_upn, ne_eq, not_false_eq_true, sh_0, sh_1, sh_2, sh_3, sh_4, sh_5, sh_8, sh_15, sh_16, sh_24, Int.reducePow, Int.cast_ofNat_Int, w_of, wl_of, ltT, ltF, leT, leF, eqT, eqF, okF_0, okF_s, gF_0, gF_s, consC_o, sF_0, sF_s, clsO_o, inA_i, ldA_i, stA_i, inJ_l, ldJ_l, stJ_l, inR_r, ldR_r, stR_r, tgR_r, lenA_i, lenA_l, lenA_r, lenA_ex, nl_i, nl_o, nl_l, nl_n, wd_n, wd_i, wd_l, wd_o, fit_i, fit_l, fit_o, K_v, K_n, true_and, and_true, Nat.reduceAdd, Nat.reduceLeDiff, Nat.reduceEqDiff, Nat.reduceMul, Nat.reduceLT, reduceIte, true_or, or_true, cmp_lt, cmp_gt, cmp_eq, wb_0, b_01, cmp_lt', cmp_gt', cmp_eq', b_0, b_1, wb_1, Int.reduceSub, Int.reduceToNat, List.getD_cons_succ, List.getD_cons_zero, Int.reduceLE, Int.reduceLT, Int.reduceEq, Int.reduceNeg, Int.reduceAdd, Int.reduceMul, and_self, em_b, ne_eq, not_false_eq_true, not_true_eq_false]
          try rfl
