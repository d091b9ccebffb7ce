/-! Keeping: deedAt, its hours -/
theorem K_dStep {ow : Nat → Nat} {ca : Nat} {c : KC} {sky e n nd wA l I st : Nat} {x2 x5 : Int} {po pm : PV} {h : PH} {i : Nat → Int} {kn fl f43 f44 : Int → Int} {s : ST} {o7 o8 o9 o10 : Option PV} (hO : okC c) (hn : szC c ≤ n) (hn1 : n ≤ 24000) (hn2 : szC c ≤ nd) (hn3 : nd ≤ 24000) (hwA : ow wA = 4) (hwA2 : wA = 42 ∨ 44 < wA) (hl : ow l = 2) (hl2 : 34 < l) (hca : 10 ≤ ca) (hI99 : I < 100) (hst : st ≤ I) (hs : okS c s) (hF : owF ow h) (hH : HoP ow h ca c sky e) (h34 : hp h 34 = dkO (vr l) po pm) (h41 : hp h 41 = kpO i (vr ca) (vr wA)) (hkn : hp h wA = aI 0 n kn) (hfl : hp h l = aI 0 nd fl) (h43 : hp h 43 = aI 0 16 f43) (h44 : hp h 44 = aI 0 16 f44) (hI : knI c sky 3 kn []) (h0 : kn (encC c s) ≠ 0) :
    (¬ surv c sky 3 1 s ∧ ∀ d Q, WP (d + 11) 52 25 [some (vr 41), some (vr 27), some (vi x2), some (vi I), some (vi (encC c s)), some (vi x5), some (vi st), o7, o8, o9, o10] [] h Q = Q (some (vi (-1))) h) ∨
    ∃ (h' : PH) (i' : Nat → Int) (kn' fl' f43' f44' : Int → Int) (m : Nat) (p7 p8 p9 p10 : Option PV), fstG c sky 0 s m ∧ chx ow [41, wA, l, 43, 44] h h' ∧ HoP ow h' ca c sky e ∧ hp h' 41 = kpO i' (vr ca) (vr wA) ∧ i' 2 = i 2 ∧ hp h' wA = aI 0 n kn' ∧ hp h' l = aI 0 nd fl' ∧ hp h' 43 = aI 0 16 f43' ∧ hp h' 44 = aI 0 16 f44' ∧ knI c sky 3 kn' [] ∧ kn' (encC c (toM c sky s m)) ≠ 0 ∧ okS c (toM c sky s m) ∧ ∀ d Q, WP (d + 11) 52 25 [some (vr 41), some (vr 27), some (vi x2), some (vi I), some (vi (encC c s)), some (vi x5), some (vi st), o7, o8, o9, o10] [] h Q = WP (d + 11) 52 211 [some (vr 41), some (vr 27), some (vi x2), some (vi I), some (vi (encC c (toM c sky s m))), some (vi (deedM m)), some (vi st), p7, p8, p9, p10] [] h' Q := by
  have hK := hO.1
  have h24 := szC_le hK
  have hsl := encC_lt hK hs
  have wr := kn_wrt hK hs hI h0
  have kr : -1 ≤ kn (encC c s) ∧ kn (encC c s) ≤ 2147483647 := by
    rcases wr with ⟨z1, z2⟩ | ⟨v, z1, z2, z3⟩ <;> omega
  by_cases h1 : kn (encC c s) = 1
  · left
    refine ⟨?_, fun d Q => ?_⟩
    · rcases wr with ⟨z1, z2⟩ | ⟨v, z1, z2, z3⟩
      · omega
      · have : v = 0 := by omega
        subst this
        exact z2.2
    · simp (disch := omega) only [e_52_25, e_52_27, e_52_28, e_52_31, e_52_32, e_52_35, e_52_37, e_52_38, e_52_40, e_52_43, e_52_45, e_52_48, e_52_49, e_52_52, e_52_54, e_52_55, e_52_56, e_52_57, e_52_59, e_52_61, e_52_64, e_52_65, h41, hkn, h1, true_and, kpO_c, kpO_g0, kpO_k0, kpO_g1, kpO_k1, kpO_s1, kpO_g2, kpO_k2, kpO_s2, kpO_g3, kpO_k3, kpO_s3, kpO_g4, kpO_k4, kpO_s4, kpO_g5, kpO_k5, kpO_g6, kpO_k6, dkO_c, dkO_g0, dkO_k0, dkO_s0, dkO_g1, dkO_k1, dkO_s1, dkO_g2, dkO_k2, dkO_s2, hoO_c, hoO_g0, hoO_k0, hoO_s0, hoO_g1, hoO_k1, hoO_s1, hoO_g2, hoO_k2, hoO_s2, hoO_g3, hoO_k3, hoO_g4, hoO_k4, hoO_g5, hoO_k5, hoO_g6, hoO_k6, hoO_g7, hoO_k7, hoO_g8, hoO_k8, hoO_g9, hoO_k9, hoO_s9, iup_s, iup_n, hp_up1, hp_upn, ne_eq, not_false_eq_true, sh_0, sh_1, sh_2, sh_3, sh_4, sh_5, sh_8, sh_15, sh_16, sh_24, Int.reducePow, Int.cast_ofNat_Int, w_of, wl_of, ltT, ltF, leT, leF, eqT, eqF, okF_0, okF_s, gF_0, gF_s, consC_o, sF_0, sF_s, clsO_o, inA_i, ldA_i, stA_i, inJ_l, ldJ_l, stJ_l, inR_r, ldR_r, stR_r, tgR_r, lenA_i, lenA_l, lenA_r, lenA_ex, nl_i, nl_o, nl_l, nl_n, wd_n, wd_i, wd_l, wd_o, fit_i, fit_l, fit_o, K_v, K_n, true_and, and_true, Nat.reduceAdd, Nat.reduceLeDiff, Nat.reduceEqDiff, Nat.reduceMul, Nat.reduceLT, reduceIte, true_or, or_true, cmp_lt, cmp_gt, cmp_eq, wb_0, b_01, cmp_lt', cmp_gt', cmp_eq', b_0, b_1, wb_1, Int.reduceSub, Int.reduceToNat, List.getD_cons_succ, List.getD_cons_zero, Int.reduceLE, Int.reduceLT, Int.reduceEq, Int.reduceNeg, Int.reduceAdd, Int.reduceMul, and_self, em_b, ne_eq, not_false_eq_true, not_true_eq_false]
      try rfl
  · right
    have hw : ∃ u : Int, wntR c sky s u ∧ u ≠ 0 ∧ ((kn (encC c s) = 2147483647 ∧ u = 2147483647) ∨ (kn (encC c s) ≠ 2147483647 ∧ kn (encC c s) - 1 = u)) := by
      rcases wr with ⟨z1, z2⟩ | ⟨v, z1, z2, z3⟩
      · exact ⟨2147483647, Or.inl ⟨rfl, z2⟩, by omega, Or.inl ⟨z1, rfl⟩⟩
      · exact ⟨v, Or.inr ⟨v, rfl, z2, z3⟩, by omega, Or.inr ⟨by omega, by omega⟩⟩
    obtain ⟨u, u1, u2, u3⟩ := hw
    have hub : -1 ≤ u ∧ u ≤ 2147483647 := by
      rcases u1 with ⟨z, -⟩ | ⟨v, z, -, z2⟩ <;> omega
    have hs1 : surv c sky 3 1 s := by
      rcases u1 with ⟨z, z1⟩ | ⟨v, z, z1, z2⟩
      · exact z1 1
      · exact surv_le (by omega) z1.1
    have t43 : ow 43 = 17 := hF.2 43 (by omega)
    have t44 : ow 44 = 17 := hF.2 44 (by omega)
    have t41 := tg_41 hF
    have t34 := tg_34 hF
    have l43 : l ≠ 43 := fun z => by rw [z, t43] at hl; omega
    have l44 : l ≠ 44 := fun z => by rw [z, t44] at hl; omega
    have w43 : wA ≠ 43 := fun z => by rw [z, t43] at hwA; omega
    have w44 : wA ≠ 44 := fun z => by rw [z, t44] at hwA; omega
    obtain ⟨iy, h27⟩ : ∃ i, hp h 27 = hoO i (vr ca) := by obtain ⟨i, A, a1, _⟩ := hH; exact ⟨i, a1⟩
    obtain ⟨g, g1, g2, g3, g4⟩ := H_spread hF hH hs
    obtain ⟨ii, f, gg, s1, s2, s3, s4, s5⟩ := g3
    have hlen := nx_len (sky := sky) hO hs
    have q43 : hp g 43 = aI 0 16 f43 := by rw [chg_at g1 t43 (by decide)]; exact h43
    have q44 : hp g 44 = aI 0 16 f44 := by rw [chg_at g1 t44 (by decide)]; exact h44
    have q41 : hp g 41 = kpO i (vr ca) (vr wA) := by rw [chg_at g1 t41 (by decide)]; exact h41
    have q34 : hp g 34 = dkO (vr l) po pm := by rw [chg_at g1 t34 (by decide)]; exact h34
    have qw : hp g wA = aI 0 n kn := by rw [chg_at g1 hwA (by decide)]; exact hkn
    have ql : hp g l = aI 0 nd fl := by rw [chg_at g1 hl (by decide)]; exact hfl
    generalize hL : nx c sky s = L at *
    have cp1 := fun (d : Nat) (ls : PL) (Q : PQ) => k_cp1 (d := d) (ls := ls) (Q := Q) (h := g) (n := L.length) s3 q43 (by omega) (by omega) (by omega) (by omega) (by omega)
    have cp2 := fun (d : Nat) (ls : PL) (Q : PQ) => k_cp2 (d := d) (ls := ls) (Q := Q) (h := hup g 43 (aI 0 16 (cpyF f f43 L.length))) (n := L.length) (by rw [hp_upn (show 33 ≠ 43 by omega)]; exact s4) (by rw [hp_upn (show 44 ≠ 43 by omega)]; exact q44) (by omega) (by omega) (by omega) (by omega) (by omega)
    have hF1 := chg_F g1 hF
    have c1 : chg ow [17] g (hup (hup g 43 (aI 0 16 (cpyF f f43 L.length))) 44 (aI 0 16 (cpyF gg f44 L.length))) := chg_t (chg_up t43 (by decide)) (chg_up t44 (by decide))
    obtain ⟨h', i', kn', fl', b1, b2, b3, b4, b5, b6, b7, b8⟩ := K_dIn (x2 := x2) (x4 := (encC c s : Int)) (x5 := x5) (I := I) (st := st) (u := u) (f43 := cpyF f f43 L.length) (f44 := cpyF gg f44 L.length) hL hO hs hn hn1 hn2 hn3 hwA hwA2 hl hl2 u1 u2 hca (fun k x hx => by
      have hk := (List.getElem?_eq_some_iff.mp hx).1
      rw [cp_at hk, cp_at hk]
      exact s5 k x hx) L.length 0 _ i kn fl (by omega) (chg_F c1 hF1) (HoP_c hF1 c1 (by decide) (by decide) g2) (by rw [hp_upn (by omega), hp_upn (by omega)]; exact q34) (by rw [hp_upn (by omega), hp_upn (by omega)]; exact q41) (by rw [hp_upn w44, hp_upn w43]; exact qw) (by rw [hp_upn l44, hp_upn l43]; exact ql) (by rw [hp_upn (by omega), hp_up1]) hp_up1 hI (fun k x hk => by omega)
    rcases b8 with z | ⟨k, x, z1, z2, z3, z4, z5⟩
    · obtain ⟨j, x, j1, j2⟩ := kgd_ex hK hs1
      rw [hL] at j1
      exact absurd j2 (z j x j1)
    · obtain ⟨m, m1, m2, m3⟩ := kgd_fst (c := c) (sky := sky) (s := s) hK (by rw [hL]; exact z1) z2 (by rw [hL]; exact z3)
      have hxo : okS c x.2 := nx_ok (sky := sky) hs (by rw [hL]; exact List.mem_of_getElem? z1)
      have e43 : hp h' 43 = aI 0 16 (cpyF f f43 L.length) := by rw [b1.2.2 43 (by rw [t43]; decide) (by simp; exact ⟨fun y => w43 y.symm, fun y => l43 y.symm⟩), hp_upn (by omega), hp_up1]
      have e44 : hp h' 44 = aI 0 16 (cpyF gg f44 L.length) := by rw [b1.2.2 44 (by rw [t44]; decide) (by simp; exact ⟨fun y => w44 y.symm, fun y => l44 y.symm⟩), hp_up1]
      rw [m3] at hxo z4
      refine ⟨h', i', kn', fl', _, _, m, some (vi u), some (vi L.length), some (vi 1), some (vi ((k + 1 : Nat) : Int)), m1, ?_, b2, b3, b4, b5, b6, e43, e44, b7, z4, hxo, fun d Q => ?_⟩
      · refine chx_t (chx_c g1) (chx_t (chx_t (chx_up (by simp)) (chx_up (by simp))) (chx_w b1 (by intro t ht; simp at ht ⊢; omega)))
      · have z5' := z5 d Q
        rw [nc0, m2, m3] at z5'
        rw [← z5']
        have g4' := fun (Q : PQ) => g4 (d + 2) Q
        rcases u3 with ⟨k1, k2⟩ | ⟨k1, k2⟩
        · rw [k2]
          simp (disch := omega) only [e_52_25, e_52_27, e_52_28, e_52_31, e_52_32, e_52_35, e_52_37, e_52_38, e_52_40, e_52_43, e_52_45, e_52_48, e_52_49, e_52_52, e_52_54, e_52_55, e_52_56, e_52_57, e_52_59, e_52_61, e_52_64, e_52_65, e_52_66, e_52_67, e_52_69, e_52_72, e_52_73, e_52_76, e_52_78, e_52_79, e_52_82, e_52_83, e_52_84, e_52_87, e_52_88, e_52_93, e_52_94, e_52_97, e_52_98, e_52_99, e_52_102, e_52_103, e_52_108, e_52_109, e_52_111, e_52_112, h27, h41, hkn, k1, g4', s1, s2, q41, cp1, cp2, true_and, kpO_c, kpO_g0, kpO_k0, kpO_g1, kpO_k1, kpO_s1, kpO_g2, kpO_k2, kpO_s2, kpO_g3, kpO_k3, kpO_s3, kpO_g4, kpO_k4, kpO_s4, kpO_g5, kpO_k5, kpO_g6, kpO_k6, dkO_c, dkO_g0, dkO_k0, dkO_s0, dkO_g1, dkO_k1, dkO_s1, dkO_g2, dkO_k2, dkO_s2, hoO_c, hoO_g0, hoO_k0, hoO_s0, hoO_g1, hoO_k1, hoO_s1, hoO_g2, hoO_k2, hoO_s2, hoO_g3, hoO_k3, hoO_g4, hoO_k4, hoO_g5, hoO_k5, hoO_g6, hoO_k6, hoO_g7, hoO_k7, hoO_g8, hoO_k8, hoO_g9, hoO_k9, hoO_s9, iup_s, iup_n, hp_up1, hp_upn, ne_eq, not_false_eq_true, sh_0, sh_1, sh_2, sh_3, sh_4, sh_5, sh_8, sh_15, sh_16, sh_24, Int.reducePow, Int.cast_ofNat_Int, w_of, wl_of, ltT, ltF, leT, leF, eqT, eqF, okF_0, okF_s, gF_0, gF_s, consC_o, sF_0, sF_s, clsO_o, inA_i, ldA_i, stA_i, inJ_l, ldJ_l, stJ_l, inR_r, ldR_r, stR_r, tgR_r, lenA_i, lenA_l, lenA_r, lenA_ex, nl_i, nl_o, nl_l, nl_n, wd_n, wd_i, wd_l, wd_o, fit_i, fit_l, fit_o, K_v, K_n, true_and, and_true, Nat.reduceAdd, Nat.reduceLeDiff, Nat.reduceEqDiff, Nat.reduceMul, Nat.reduceLT, reduceIte, true_or, or_true, cmp_lt, cmp_gt, cmp_eq, wb_0, b_01, cmp_lt', cmp_gt', cmp_eq', b_0, b_1, wb_1, Int.reduceSub, Int.reduceToNat, List.getD_cons_succ, List.getD_cons_zero, Int.reduceLE, Int.reduceLT, Int.reduceEq, Int.reduceNeg, Int.reduceAdd, Int.reduceMul, and_self, em_b, ne_eq, not_false_eq_true, not_true_eq_false]
          try rfl
        · simp (disch := omega) only [e_52_25, e_52_27, e_52_28, e_52_31, e_52_32, e_52_35, e_52_37, e_52_38, e_52_40, e_52_43, e_52_45, e_52_48, e_52_49, e_52_52, e_52_54, e_52_55, e_52_56, e_52_57, e_52_59, e_52_61, e_52_64, e_52_65, e_52_66, e_52_67, e_52_69, e_52_72, e_52_73, e_52_76, e_52_78, e_52_79, e_52_82, e_52_83, e_52_84, e_52_87, e_52_88, e_52_93, e_52_94, e_52_97, e_52_98, e_52_99, e_52_102, e_52_103, e_52_108, e_52_109, e_52_111, e_52_112, h27, h41, hkn, k1, k2, g4', s1, s2, q41, cp1, cp2, true_and, kpO_c, kpO_g0, kpO_k0, kpO_g1, kpO_k1, kpO_s1, kpO_g2, kpO_k2, kpO_s2, kpO_g3, kpO_k3, kpO_s3, kpO_g4, kpO_k4, kpO_s4, kpO_g5, kpO_k5, kpO_g6, kpO_k6, dkO_c, dkO_g0, dkO_k0, dkO_s0, dkO_g1, dkO_k1, dkO_s1, dkO_g2, dkO_k2, dkO_s2, hoO_c, hoO_g0, hoO_k0, hoO_s0, hoO_g1, hoO_k1, hoO_s1, hoO_g2, hoO_k2, hoO_s2, hoO_g3, hoO_k3, hoO_g4, hoO_k4, hoO_g5, hoO_k5, hoO_g6, hoO_k6, hoO_g7, hoO_k7, hoO_g8, hoO_k8, hoO_g9, hoO_k9, hoO_s9, iup_s, iup_n, hp_up1, hp_upn, ne_eq, not_false_eq_true, sh_0, sh_1, sh_2, sh_3, sh_4, sh_5, sh_8, sh_15, sh_16, sh_24, Int.reducePow, Int.cast_ofNat_Int, w_of, wl_of, ltT, ltF, leT, leF, eqT, eqF, okF_0, okF_s, gF_0, gF_s, consC_o, sF_0, sF_s, clsO_o, inA_i, ldA_i, stA_i, inJ_l, ldJ_l, stJ_l, inR_r, ldR_r, stR_r, tgR_r, lenA_i, lenA_l, lenA_r, lenA_ex, nl_i, nl_o, nl_l, nl_n, wd_n, wd_i, wd_l, wd_o, fit_i, fit_l, fit_o, K_v, K_n, true_and, and_true, Nat.reduceAdd, Nat.reduceLeDiff, Nat.reduceEqDiff, Nat.reduceMul, Nat.reduceLT, reduceIte, true_or, or_true, cmp_lt, cmp_gt, cmp_eq, wb_0, b_01, cmp_lt', cmp_gt', cmp_eq', b_0, b_1, wb_1, Int.reduceSub, Int.reduceToNat, List.getD_cons_succ, List.getD_cons_zero, Int.reduceLE, Int.reduceLT, Int.reduceEq, Int.reduceNeg, Int.reduceAdd, Int.reduceMul, and_self, em_b, ne_eq, not_false_eq_true, not_true_eq_false]
          try rfl
theorem K_deedLp {ow : Nat → Nat} {ca : Nat} {c : KC} {sky e n nd wA l I : Nat} {x2 : Int} {po pm : PV} (hO : okC c) (hn : szC c ≤ n) (hn1 : n ≤ 24000) (hn2 : szC c ≤ nd) (hn3 : nd ≤ 24000) (hwA : ow wA = 4) (hwA2 : wA = 42 ∨ 44 < wA) (hl : ow l = 2) (hl2 : 34 < l) (hca : 10 ≤ ca) (hI99 : I < 100) :
    ∀ (r st : Nat) (h : PH) (i : Nat → Int) (kn fl f43 f44 : Int → Int) (s : ST) (x5 : Int) (o7 o8 o9 o10 : Option PV), st + r = I → okS c s → owF ow h → HoP ow h ca c sky e → hp h 34 = dkO (vr l) po pm → hp h 41 = kpO i (vr ca) (vr wA) → hp h wA = aI 0 n kn → hp h l = aI 0 nd fl → hp h 43 = aI 0 16 f43 → hp h 44 = aI 0 16 f44 → knI c sky 3 kn [] → kn (encC c s) ≠ 0 →
    ∃ (h' : PH) (i' : Nat → Int) (kn' fl' f43' f44' : Int → Int) (v : Int), chx ow [41, wA, l, 43, 44] h h' ∧ HoP ow h' ca c sky e ∧ hp h' 41 = kpO i' (vr ca) (vr wA) ∧ i' 2 = i 2 ∧ hp h' wA = aI 0 n kn' ∧ hp h' l = aI 0 nd fl' ∧ hp h' 43 = aI 0 16 f43' ∧ hp h' 44 = aI 0 16 f44' ∧ knI c sky 3 kn' [] ∧ keepA c sky r s v ∧ ∀ d Q, WP (d + 11) 52 25 [some (vr 41), some (vr 27), some (vi x2), some (vi I), some (vi (encC c s)), some (vi x5), some (vi st), o7, o8, o9, o10] [] h Q = Q (some (vi v)) h' := by
  have hK := hO.1
  intro r
  induction r with
  | zero =>
    intro st h i kn fl f43 f44 s x5 o7 o8 o9 o10 hst hs hF hH h34 h41 hkn hfl h43 h44 hI h0
    rcases K_dStep (x2 := x2) (x5 := x5) (o7 := o7) (o8 := o8) (o9 := o9) (o10 := o10) hO hn hn1 hn2 hn3 hwA hwA2 hl hl2 hca hI99 (show st ≤ I by omega) hs hF hH h34 h41 hkn hfl h43 h44 hI h0 with ⟨z1, z2⟩ | ⟨h', i', kn', fl', f43', f44', m, p7, p8, p9, p10, m1, b1, b2, b3, b4, b5, b6, b7, b8, b9, b10, b11, b12⟩
    · exact ⟨h, i, kn, fl, f43, f44, -1, chx_r, hH, h41, rfl, hkn, hfl, h43, h44, hI, Or.inr ⟨fun y => z1 ((sv_surv hK _ _).mp y), rfl⟩, z2⟩
    · refine ⟨h', i', kn', fl', f43', f44', deedM m, b1, b2, b3, b4, b5, b6, b7, b8, b9, Or.inl ⟨m, m1, rfl⟩, fun d Q => ?_⟩
      rw [b12 d Q]
      simp (disch := omega) only [e_52_211, e_52_214, e_52_25, e_52_27, e_52_28, e_52_217, e_52_219, iup_s, iup_n, hp_up1, hp_upn, ne_eq, not_false_eq_true, sh_0, sh_1, sh_2, sh_3, sh_4, sh_5, sh_8, sh_15, sh_16, sh_24, Int.reducePow, Int.cast_ofNat_Int, w_of, wl_of, ltT, ltF, leT, leF, eqT, eqF, okF_0, okF_s, gF_0, gF_s, consC_o, sF_0, sF_s, clsO_o, inA_i, ldA_i, stA_i, inJ_l, ldJ_l, stJ_l, inR_r, ldR_r, stR_r, tgR_r, lenA_i, lenA_l, lenA_r, lenA_ex, nl_i, nl_o, nl_l, nl_n, wd_n, wd_i, wd_l, wd_o, fit_i, fit_l, fit_o, K_v, K_n, true_and, and_true, Nat.reduceAdd, Nat.reduceLeDiff, Nat.reduceEqDiff, Nat.reduceMul, Nat.reduceLT, reduceIte, true_or, or_true, cmp_lt, cmp_gt, cmp_eq, wb_0, b_01, cmp_lt', cmp_gt', cmp_eq', b_0, b_1, wb_1, Int.reduceSub, Int.reduceToNat, List.getD_cons_succ, List.getD_cons_zero, Int.reduceLE, Int.reduceLT, Int.reduceEq, Int.reduceNeg, Int.reduceAdd, Int.reduceMul, and_self, em_b, ne_eq, not_false_eq_true, not_true_eq_false]
      try rfl
  | succ r ih =>
    intro st h i kn fl f43 f44 s x5 o7 o8 o9 o10 hst hs hF hH h34 h41 hkn hfl h43 h44 hI h0
    rcases K_dStep (x2 := x2) (x5 := x5) (o7 := o7) (o8 := o8) (o9 := o9) (o10 := o10) hO hn hn1 hn2 hn3 hwA hwA2 hl hl2 hca hI99 (show st ≤ I by omega) hs hF hH h34 h41 hkn hfl h43 h44 hI h0 with ⟨z1, z2⟩ | ⟨h', i', kn', fl', f43', f44', m, p7, p8, p9, p10, m1, b1, b2, b3, b4, b5, b6, b7, b8, b9, b10, b11, b12⟩
    · exact ⟨h, i, kn, fl, f43, f44, -1, chx_r, hH, h41, rfl, hkn, hfl, h43, h44, hI, Or.inr ⟨fun y => z1 ((sv_surv hK _ _).mp y), rfl⟩, z2⟩
    · have l34 : l ≠ 34 := by omega
      obtain ⟨h2, i2, kn2, fl2, g43, g44, v, a1, a2, a3, a4, a5, a6, a7, a8, a9, a10, a11⟩ := ih (st + 1) h' i' kn' fl' f43' f44' (toM c sky s m) (deedM m) p7 p8 p9 p10 (by omega) b11 ⟨by rw [b1.1]; exact hF.1, hF.2⟩ b2 (by rw [b1.2.2 34 (by rw [tg_34 hF]; decide) (by simp; omega)]; exact h34) b3 b5 b6 b7 b8 b9 b10
      refine ⟨h2, i2, kn2, fl2, g43, g44, v, chx_t b1 a1, a2, a3, by rw [a4, b4], a5, a6, a7, a8, a9, Or.inl ⟨m, m1, a10⟩, fun d Q => ?_⟩
      rw [b12 d Q, ← a11 d Q]
      have e1 : (st : Int) + 1 = ((st + 1 : Nat) : Int) := by omega
      simp (disch := omega) only [e_52_211, e_52_214, e1, iup_s, iup_n, hp_up1, hp_upn, ne_eq, not_false_eq_true, sh_0, sh_1, sh_2, sh_3, sh_4, sh_5, sh_8, sh_15, sh_16, sh_24, Int.reducePow, Int.cast_ofNat_Int, w_of, wl_of, ltT, ltF, leT, leF, eqT, eqF, okF_0, okF_s, gF_0, gF_s, consC_o, sF_0, sF_s, clsO_o, inA_i, ldA_i, stA_i, inJ_l, ldJ_l, stJ_l, inR_r, ldR_r, stR_r, tgR_r, lenA_i, lenA_l, lenA_r, lenA_ex, nl_i, nl_o, nl_l, nl_n, wd_n, wd_i, wd_l, wd_o, fit_i, fit_l, fit_o, K_v, K_n, true_and, and_true, Nat.reduceAdd, Nat.reduceLeDiff, Nat.reduceEqDiff, Nat.reduceMul, Nat.reduceLT, reduceIte, true_or, or_true, cmp_lt, cmp_gt, cmp_eq, wb_0, b_01, cmp_lt', cmp_gt', cmp_eq', b_0, b_1, wb_1, Int.reduceSub, Int.reduceToNat, List.getD_cons_succ, List.getD_cons_zero, Int.reduceLE, Int.reduceLT, Int.reduceEq, Int.reduceNeg, Int.reduceAdd, Int.reduceMul, and_self, em_b, ne_eq, not_false_eq_true, not_true_eq_false]
      try rfl
theorem K_deedAt {kc : Nat → KC} {ow : Nat → Nat} {h : PH} {ca : Nat} {c : KC} {sky e n nd I : Nat} {s : ST} {f43 f44 : Int → Int} (hF : owF ow h) (hH : HoP ow h ca c sky e) (hkc : kc ca = c) (hD : DesP ow h nd) (hP : KepP kc ow h n) (h43 : hp h 43 = aI 0 16 f43) (h44 : hp h 44 = aI 0 16 f44) (hs : okS c s) (hI99 : I < 100) :
    ∃ (h' : PH) (ow' : Nat → Nat) (n' nd' d1 d2 : Nat) (f43' f44' : Int → Int) (v : Int), extO ow h ow' h' [1, 2, 4, 17] ∧ ((nd' = nd ∧ d1 = 0) ∨ (nd < nd' ∧ nd' = szC c ∧ d1 = 1)) ∧ ((n' = n ∧ d2 = 0) ∨ (n < n' ∧ n' = szC c ∧ d2 = 1)) ∧ h'.1 = h.1 + 3 * d1 + d2 ∧ h'.2.1 = h.2.1 + (3 * d1 + d2) * szC c ∧ HoP ow' h' ca c sky e ∧ DesP ow' h' nd' ∧ szC c ≤ nd' ∧ KepV ow' h' ca c sky n' ∧ hp h' 43 = aI 0 16 f43' ∧ hp h' 44 = aI 0 16 f44' ∧ keepA c sky I s v ∧ ∀ d Q, WP (d + 11) 52 0 [some (vr 41), some (vr 27), some (vi (encC c s)), some (vi I), none, none, none, none, none, none, none] [] h Q = Q (some (vi v)) h' := by
  have hKC := hH
  obtain ⟨ih, A, a1, a2, a3, a4, a5, a6, a7, a8, hKC⟩ := hKC
  have hO := hKC.2.1
  have hca := hKC.2.2.2.1
  have hK := hO.1
  have h24 := szC_le hK
  have hsl := encC_lt hK hs
  have h90 := hF.1
  obtain ⟨q1, q2, q3, c41⟩ : ∃ i a b, hp h 41 = kpO i a b := by obtain ⟨i, cca, wA, fw, ⟨c1, _⟩, _⟩ := hP; exact ⟨_, _, _, c1⟩
  obtain ⟨h1, ow1, n1, nd1, d1, d2, f1, f2, f3, f4, f5, f6, f7, f8, f9, f10⟩ := K_prepare hF hH hkc hD hP
  have hF1 := ext_F f1 hF
  have t43 : ow 43 = 17 := hF.2 43 (by omega)
  have t44 : ow 44 = 17 := hF.2 44 (by omega)
  have u43 : ow1 43 = 17 := hF1.2 43 (by omega)
  have u44 : ow1 44 = 17 := hF1.2 44 (by omega)
  have q43 : hp h1 43 = aI 0 16 f43 := by rw [f1.2.2 43 (by omega) (by rw [t43]; decide)]; exact h43
  have q44 : hp h1 44 = aI 0 16 f44 := by rw [f1.2.2 44 (by omega) (by rw [t44]; decide)]; exact h44
  obtain ⟨i, wA, fw, ⟨k1, k2⟩, ⟨w1, w2, w3, w4⟩, v3, v4, v5⟩ := f9
  obtain ⟨l, o, m, fl, fo, fm, ⟨c1, c2, c3, c4⟩, x1, x2, x3, x4, x5, x6, x7, x8, x9, x10, x11, x12, x13⟩ := f7
  have t41 := tg_41 hF1
  have l41 : l ≠ 41 := fun z => by rw [z, t41] at x1; omega
  have m41 : m ≠ 41 := fun z => by rw [z, t41] at x3; omega
  have o41 : o ≠ 41 := fun z => by rw [z, t41] at x2; omega
  have m43 : m ≠ 43 := fun z => by rw [z, u43] at x3; omega
  have o43 : o ≠ 43 := fun z => by rw [z, u43] at x2; omega
  have l43 : l ≠ 43 := fun z => by rw [z, u43] at x1; omega
  have m44 : m ≠ 44 := fun z => by rw [z, u44] at x3; omega
  have o44 : o ≠ 44 := fun z => by rw [z, u44] at x2; omega
  have l44 : l ≠ 44 := fun z => by rw [z, u44] at x1; omega
  have lw : l ≠ wA := fun z => by rw [z, w1] at x1; omega
  have ow' : o ≠ wA := fun z => by rw [z, w1] at x2; omega
  have mw : m ≠ wA := fun z => by rw [z, w1] at x3; omega
  have ww : wA ≠ 41 := by omega
  have w43 : wA ≠ 43 := by omega
  have w44 : wA ≠ 44 := by omega
  obtain ⟨h2, i2, kn2, fl2, b1, b2, b3, b4, b5, b6, b7, b8, b9⟩ := K_solve (b := 3) (lf := -1) (po := vr o) (pm := vr m) hF1 f6 hs (Or.inl ⟨rfl, rfl⟩) v3 w4 f8 x13 (by omega) (by omega) lw ww l41 (by rw [w1]; decide) (by rw [x1]; decide) (by rw [w1]; decide) (by rw [x1]; decide) c1 k1 k2 c2 v5
  have p34 : hp h2 34 = dkO (vr l) (vr o) (vr m) := by rw [b1.2.2 34 (by rw [tg_34 hF1]; decide) (by simp; omega)]; exact c1
  have p43 : hp h2 43 = aI 0 16 f43 := by rw [b1.2.2 43 (by rw [u43]; decide) (by simp; exact ⟨fun y => w43 y.symm, fun y => l43 y.symm⟩)]; exact q43
  have p44 : hp h2 44 = aI 0 16 f44 := by rw [b1.2.2 44 (by rw [u44]; decide) (by simp; exact ⟨fun y => w44 y.symm, fun y => l44 y.symm⟩)]; exact q44
  obtain ⟨h', i', kn', fl', f43', f44', v, e1, e2, e3, e4, e5, e6, e7, e8, e9, e10, e11⟩ := K_deedLp (x2 := (encC c s : Int)) (I := I) hO v3 w4 f8 x13 w1 w2 x1 x7 hca hI99 I 0 h2 i2 kn2 fl2 f43 f44 s (-1) none none none none (by omega) hs ⟨by rw [b1.1]; exact hF1.1, hF1.2⟩ b2 p34 b3 b5 b6 p43 p44 b7 b8
  have ct : chx ow1 [41, wA, l, 43, 44] h1 h' := chx_t (chx_w b1 (by intro t ht; simp at ht ⊢; omega)) e1
  have g1 := ct.1
  have g2 := ct.2.1
  have hD' : DesP ow1 h' nd1 := ⟨l, o, m, fl', fo, fm, ⟨by rw [ct.2.2 34 (by rw [tg_34 hF1]; decide) (by simp; omega)]; exact c1, e6, by rw [ct.2.2 o (by rw [x2]; decide) (by simp; exact ⟨o41, ow', fun z => x4 z.symm, o43, o44⟩)]; exact c3, by rw [ct.2.2 m (by rw [x3]; decide) (by simp; exact ⟨m41, mw, fun z => x5 z.symm, m43, m44⟩)]; exact c4⟩, x1, x2, x3, x4, x5, x6, x7, x8, x9, by rw [g1]; exact x10, by rw [g1]; exact x11, by rw [g1]; exact x12, x13⟩
  have hx : extO ow1 h1 ow1 h' [1, 2, 4, 17] := ⟨by rw [g1]; exact Nat.le_refl _, fun _ _ => rfl, fun k k1 k2 => ct.2.2 k (fun z => k2 (by rw [z]; simp)) (fun z => k2 (by
    simp at z
    rcases z with z | z | z | z | z
    · rw [z, t41]; simp
    · rw [z, w1]; simp
    · rw [z, x1]; simp
    · rw [z, u43]; simp
    · rw [z, u44]; simp))⟩
  refine ⟨h', ow1, n1, nd1, d1, d2, f43', f44', v, ext_t (ext_w f1 (by decide)) hx, f2, f3, by rw [g1]; exact f4, by rw [g2]; exact f5, e2, hD', f8, ⟨i', wA, kn', ⟨e3, e5⟩, ⟨w1, w2, by rw [g1]; exact w3, w4⟩, v3, by rw [e4, b4]; exact v4, e9⟩, e7, e8, e10, fun d Q => ?_⟩
  have f10' := fun (Q : PQ) => f10 (d + 7) Q
  have b9' := fun (Q : PQ) => b9 d Q
  have e11' := e11 d Q
  rw [nc0] at e11'
  rw [← e11']
  simp (disch := omega) only [e_52_0, e_52_1, e_52_2, e_52_5, e_52_6, e_52_7, e_52_8, e_52_11, e_52_12, e_52_13, e_52_16, e_52_17, e_52_19, e_52_20, e_52_22, e_52_23, c41, k1, f10', b9', true_and, kpO_c, kpO_g0, kpO_k0, kpO_g1, kpO_k1, kpO_s1, kpO_g2, kpO_k2, kpO_s2, kpO_g3, kpO_k3, kpO_s3, kpO_g4, kpO_k4, kpO_s4, kpO_g5, kpO_k5, kpO_g6, kpO_k6, dkO_c, dkO_g0, dkO_k0, dkO_s0, dkO_g1, dkO_k1, dkO_s1, dkO_g2, dkO_k2, dkO_s2, hoO_c, hoO_g0, hoO_k0, hoO_s0, hoO_g1, hoO_k1, hoO_s1, hoO_g2, hoO_k2, hoO_s2, hoO_g3, hoO_k3, hoO_g4, hoO_k4, hoO_g5, hoO_k5, hoO_g6, hoO_k6, hoO_g7, hoO_k7, hoO_g8, hoO_k8, hoO_g9, hoO_k9, hoO_s9, iup_s, iup_n, hp_up1, hp_upn, ne_eq, not_false_eq_true, sh_0, sh_1, sh_2, sh_3, sh_4, sh_5, sh_8, sh_15, sh_16, sh_24, Int.reducePow, Int.cast_ofNat_Int, w_of, wl_of, ltT, ltF, leT, leF, eqT, eqF, okF_0, okF_s, gF_0, gF_s, consC_o, sF_0, sF_s, clsO_o, inA_i, ldA_i, stA_i, inJ_l, ldJ_l, stJ_l, inR_r, ldR_r, stR_r, tgR_r, lenA_i, lenA_l, lenA_r, lenA_ex, nl_i, nl_o, nl_l, nl_n, wd_n, wd_i, wd_l, wd_o, fit_i, fit_l, fit_o, K_v, K_n, true_and, and_true, Nat.reduceAdd, Nat.reduceLeDiff, Nat.reduceEqDiff, Nat.reduceMul, Nat.reduceLT, reduceIte, true_or, or_true, cmp_lt, cmp_gt, cmp_eq, wb_0, b_01, cmp_lt', cmp_gt', cmp_eq', b_0, b_1, wb_1, Int.reduceSub, Int.reduceToNat, List.getD_cons_succ, List.getD_cons_zero, Int.reduceLE, Int.reduceLT, Int.reduceEq, Int.reduceNeg, Int.reduceAdd, Int.reduceMul, and_self, em_b, ne_eq, not_false_eq_true, not_true_eq_false]
  try rfl
