theorem nxTo_mem {c : KC} {sky : Nat} {s : ST} {x : Nat × ST} : ∀ {M : Nat}, x ∈ nxTo c sky s M ↔ ∃ m, m < M ∧ canM c sky s m = true ∧ x = (deedM m, toM c sky s m)
  | 0 => ⟨fun h => (by cases h), fun ⟨m, h, _⟩ => absurd h (by omega)⟩
  | M + 1 => by
    by_cases q : canM c sky s M = true
    · rw [nxTo_yes q, List.mem_append, nxTo_mem, List.mem_singleton]
      constructor
      · rintro (⟨m, h1, h2, h3⟩ | h)
        · exact ⟨m, by omega, h2, h3⟩
        · exact ⟨M, by omega, q, h⟩
      · rintro ⟨m, h1, h2, h3⟩
        by_cases z : m = M
        · subst z; exact Or.inr h3
        · exact Or.inl ⟨m, by omega, h2, h3⟩
    · rw [nxTo_no (by simpa using q), nxTo_mem]
      constructor
      · rintro ⟨m, h1, h2, h3⟩; exact ⟨m, by omega, h2, h3⟩
      · rintro ⟨m, h1, h2, h3⟩
        by_cases z : m = M
        · subst z; exact absurd h2 q
        · exact ⟨m, by omega, h2, h3⟩
theorem nx_mem {c : KC} {sky : Nat} {s : ST} {x : Nat × ST} : x ∈ nx c sky s ↔ ∃ m, m < 19 ∧ canM c sky s m = true ∧ x = (deedM m, toM c sky s m) := nxTo_mem
theorem alw_can {c : KC} {sky b : Nat} {s : ST} {m : Nat} (h : alwM c sky b s m = true) : canM c sky s m = true := by
  unfold alwM at h
  rw [Bool.and_eq_true] at h
  exact h.2
theorem stdR_x {f g : Int → Int} {s : ST} {sky hrs : Nat} (h : stdR f s sky hrs) (e : g = f) : stdR g s sky hrs := by rw [e]; exact h
theorem r_laysM {h : PH} {c : KC} {x : ST} {sky hrs b k m : Nat} {s : ST} {L : List ST} {i : Nat → Int} {A : Nat → Int → Int} {bt : Bool} (hO : okC c) (hR : ctyR (A 72) c) (hS : stdR (A 72) s sky hrs) (hsky : sky < 10) (hb : b ≤ 3) (hL : stkR c L i A) (hx : L[k]? = some x) (hm : m < 19) :
    ∃ (E : List ST) (i' : Nat → Int) (B : Nat → Int → Int) (l5 l6 l7 : Option PV), stkR c (L ++ E) i' B ∧ frI [25] i i' ∧ frA [76, 77, 79, 80, 82] A B ∧ thOK c sky b bt (L ++ E) B k m ∧ (∀ n : Nat, n ≠ 19 * k + m → B 80 (n : Int) = A 80 (n : Int)) ∧ (bt = false → ∀ y, y ∈ E → ∃ e, e ∈ nx c sky x ∧ e.2 = y) ∧ ∀ d Q o5 o6 o7, WP (d + 6) 242 48 [some (vr 71), some (vi b), some (vi (if bt then 1 else 0)), some (vi k), some (vi m), o5, o6, o7] [] (mdH h i A) Q = WP (d + 6) 242 48 [some (vr 71), some (vi b), some (vi (if bt then 1 else 0)), some (vi k), some (vi ((m + 1 : Nat) : Int)), l5, l6, l7] [] (mdH h i' B) Q := by
  have hK := hO.1
  have hN := hK.2.2
  have hxo := hL.2.1 x (List.mem_of_getElem? hx)
  have hkl := (List.getElem?_eq_some_iff.mp hx).1
  have hlen := stkR_len hK hL
  have e1 : (19 : Int) * (k : Int) + (m : Int) = ((19 * k + m : Nat) : Int) := by omega
  obtain ⟨B1, s1, g1⟩ := r_laysC (h := h) (be := if bt then 1 else 0) hO hR hS hsky hb hL hx hm
  have e72 : B1 72 = A 72 := s1 72 (by omega) (by omega)
  have e79 : B1 79 = A 79 := s1 79 (by omega) (by omega)
  have e80 : B1 80 = A 80 := s1 80 (by omega) (by omega)
  have e82 : B1 82 = A 82 := s1 82 (by omega) (by omega)
  have hL1 : stkR c L i B1 := stkR_x hL e79 e82
  have hR1 : ctyR (B1 72) c := ctyR_x hR e72
  have h79 := (hL1.2.2.1 k x hx).1
  have h29 : B1 72 29 = sky := by rw [e72]; exact hS.2.2.1
  by_cases ha : alwM c sky b x m = true
  · have hi : isMv c m = true := canM_mv (alw_can ha)
    obtain ⟨B2, s2, g2⟩ := r_hourTo (h := h) (i := i) (A := B1) hO hR1 hxo hsky hi hm
    have f79 : B2 79 = A 79 := by rw [s2 79 (by omega) (by omega), e79]
    have f80 : B2 80 = A 80 := by rw [s2 80 (by omega) (by omega), e80]
    have f82 : B2 82 = A 82 := by rw [s2 82 (by omega) (by omega), e82]
    have f72 : B2 72 = A 72 := by rw [s2 72 (by omega) (by omega), e72]
    have hto := toM_ok (sky := sky) hxo hi
    obtain ⟨E, j, i3, B3, hE, hj, hL3, f3, f4, g3⟩ := r_adds (h := h) hK (stkR_x hL f79 f82) hto
    have hjl := (List.getElem?_eq_some_iff.mp hj).1
    have hlen3 := stkR_len hK hL3
    have k80 : B3 80 = A 80 := by rw [f4 80 (by decide), f80]
    have k72 : B3 72 = A 72 := by rw [f4 72 (by decide), f72]
    have hn : B3 72 2 = kN c := by rw [k72]; exact hR.2.2.1
    have hL4 : stkR c (L ++ E) i3 (aup B3 80 (fset (B3 80) ((19 * k + m : Nat) : Int) j)) := stkR_x hL3 (aup_n (by omega)) (aup_n (by omega))
    have F4 : frA [76, 77, 79, 80, 82] A (aup B3 80 (fset (B3 80) ((19 * k + m : Nat) : Int) j)) :=
      frA_t (frA_t (frA_t (frA_s s1 (by decide) (by decide)) (frA_s s2 (by decide) (by decide))) (frA_w f4 (by decide))) (frA_u (by decide))
    have step : ∀ d Q o5 o6 o7, WP (d + 6) 242 48 [some (vr 71), some (vi b), some (vi (if bt then 1 else 0)), some (vi k), some (vi m), o5, o6, o7] [] (mdH h i A) Q = WP (d + 6) 242 180 [some (vr 71), some (vi b), some (vi (if bt then 1 else 0)), some (vi k), some (vi m), some (vi (if needM m b then 1 else 0)), some (vi 1), some (vi 0)] [] (mdH h i3 (aup B3 80 (fset (B3 80) ((19 * k + m : Nat) : Int) j))) Q := by
      intro d Q o5 o6 o7
      rw [g1, ha]
      simp (disch := omega) only [e_242_133, e_242_134, e_242_137, e_242_139, e_242_140, e_242_141, e_242_143, e_242_144, e_242_146, e_242_149, e_242_150, e_242_151, e_242_152, e_242_155, e_242_156, e_242_157, e_242_159, e_242_160, e_242_163, e_242_165, e_242_166, e_242_169, e_242_172, e_242_175, e_242_176, e_242_177, e_242_178, e1, h79, h29, g2, g3, mdO_c, mdO_g0, mdO_k0, mdO_g1, mdO_k1, mdO_g2, mdO_k2, mdO_g3, mdO_k3, mdO_g4, mdO_k4, mdO_g5, mdO_k5, mdO_g6, mdO_k6, mdO_g7, mdO_k7, mdO_g8, mdO_k8, mdO_g9, mdO_k9, mdO_g10, mdO_k10, mdO_g11, mdO_k11, mdO_g12, mdO_k12, mdO_g13, mdO_k13, mdO_g14, mdO_k14, mdO_g15, mdO_k15, mdO_g16, mdO_k16, mdO_g17, mdO_k17, mdO_g18, mdO_k18, mdO_g19, mdO_k19, mdO_g20, mdO_k20, mdO_g21, mdO_k21, mdO_g22, mdO_k22, mdO_g23, mdO_k23, mdO_g24, mdO_k24, mdO_g25, mdO_k25, mdO_g26, mdO_k26, mdO_g27, mdO_k27, mdO_g28, mdO_k28, mdO_g29, mdO_k29, mdO_g30, mdO_k30, mdO_g31, mdO_k31, mdO_g32, mdO_k32, mdO_g33, mdO_k33, mdO_g34, mdO_k34, mdO_g35, mdO_k35, mdO_s0, mdO_s5, mdO_s6, mdO_s7, mdO_s8, mdO_s9, mdO_s10, mdO_s11, mdO_s12, mdO_s13, mdO_s14, mdO_s15, mdO_s19, mdO_s20, mdO_s25, mdO_s26, mdO_s31, mdO_s32, md_1, md_2, md_g71, md_g72, md_g73, md_g74, md_g75, md_g76, md_g77, md_g78, md_g79, md_g80, md_g81, md_g82, md_g83, md_g84, md_g85, md_g86, md_g87, md_g88, md_g89, md_out, md_u71, md_u72, md_u73, md_u74, md_u75, md_u76, md_u77, md_u78, md_u79, md_u80, md_u81, md_u82, md_u83, md_u84, md_u85, md_u86, md_u87, md_u88, md_u89, md_uo, iup_s, iup_n, aup_s, aup_n, ne_eq, not_false_eq_true, sh_0, sh_1, sh_2, sh_3, sh_4, sh_5, sh_8, sh_15, sh_16, sh_24, Int.reducePow, Int.cast_ofNat_Int, w_of, wl_of, ltT, ltF, leT, leF, eqT, eqF, okF_0, okF_s, gF_0, gF_s, consC_o, sF_0, sF_s, clsO_o, inA_i, ldA_i, stA_i, inJ_l, ldJ_l, stJ_l, inR_r, ldR_r, stR_r, tgR_r, lenA_i, lenA_l, lenA_r, lenA_ex, nl_i, nl_o, nl_l, nl_n, wd_n, wd_i, wd_l, wd_o, fit_i, fit_l, fit_o, K_v, K_n, true_and, and_true, Nat.reduceAdd, Nat.reduceLeDiff, Nat.reduceEqDiff, Nat.reduceMul, Nat.reduceLT, reduceIte, true_or, or_true, cmp_lt, cmp_gt, cmp_eq, wb_0, b_01, cmp_lt', cmp_gt', cmp_eq', b_0, b_1, wb_1, Int.reduceSub, Int.reduceToNat, List.getD_cons_succ, List.getD_cons_zero, Int.reduceLE, Int.reduceLT, Int.reduceEq, Int.reduceNeg, Int.reduceAdd, Int.reduceMul, and_self, em_b, ne_eq, not_false_eq_true, not_true_eq_false]
    have mem : ∀ y, y ∈ E → ∃ e, e ∈ nx c sky x ∧ e.2 = y := fun y hy => by
      rcases hE with z | z
      · rw [z] at hy; cases hy
      · rw [z, List.mem_singleton] at hy
        exact ⟨(deedM m, toM c sky x m), nx_mem.mpr ⟨m, hm, alw_can ha, rfl⟩, hy.symm⟩
    cases bt with
    | false =>
      refine ⟨E, i3, _, some (vi (if needM m b then 1 else 0)), some (vi 1), some (vi 0), hL4, f3, F4, ?_, ?_, fun _ => mem, fun d Q o5 o6 o7 => ?_⟩
      · intro y hy
        rw [app_some hx] at hy
        cases hy
        exact Or.inl ⟨ha, j, by rw [aup_s, fs_same], hj, fun z => by cases z⟩
      · intro n hn'
        rw [aup_s, fs_ne (by omega), k80]
      · rw [step]
        simp only [if_false, Bool.false_eq_true]
        rw [e_242_180]
        rcases Nat.eq_zero_or_pos (kN c) with q | q
        · simp (disch := omega) only [e_242_182, e_242_183, e_242_186, e_242_187, e_242_188, e_242_191, e_242_192, e_242_195, e_242_197, e_242_200, e_242_201, e_242_202, e_242_203, e_242_206, e_242_207, e_242_210, e_242_212, e_242_213, e_242_214, e_242_216, e_242_217, e_242_218, e_242_219, e_242_221, e_242_224, e_242_227i, e_242_227a, e_242_228, e_242_231, e_242_234, e_242_237, hn, mdO_c, mdO_g0, mdO_k0, mdO_g1, mdO_k1, mdO_g2, mdO_k2, mdO_g3, mdO_k3, mdO_g4, mdO_k4, mdO_g5, mdO_k5, mdO_g6, mdO_k6, mdO_g7, mdO_k7, mdO_g8, mdO_k8, mdO_g9, mdO_k9, mdO_g10, mdO_k10, mdO_g11, mdO_k11, mdO_g12, mdO_k12, mdO_g13, mdO_k13, mdO_g14, mdO_k14, mdO_g15, mdO_k15, mdO_g16, mdO_k16, mdO_g17, mdO_k17, mdO_g18, mdO_k18, mdO_g19, mdO_k19, mdO_g20, mdO_k20, mdO_g21, mdO_k21, mdO_g22, mdO_k22, mdO_g23, mdO_k23, mdO_g24, mdO_k24, mdO_g25, mdO_k25, mdO_g26, mdO_k26, mdO_g27, mdO_k27, mdO_g28, mdO_k28, mdO_g29, mdO_k29, mdO_g30, mdO_k30, mdO_g31, mdO_k31, mdO_g32, mdO_k32, mdO_g33, mdO_k33, mdO_g34, mdO_k34, mdO_g35, mdO_k35, mdO_s0, mdO_s5, mdO_s6, mdO_s7, mdO_s8, mdO_s9, mdO_s10, mdO_s11, mdO_s12, mdO_s13, mdO_s14, mdO_s15, mdO_s19, mdO_s20, mdO_s25, mdO_s26, mdO_s31, mdO_s32, md_1, md_2, md_g71, md_g72, md_g73, md_g74, md_g75, md_g76, md_g77, md_g78, md_g79, md_g80, md_g81, md_g82, md_g83, md_g84, md_g85, md_g86, md_g87, md_g88, md_g89, md_out, md_u71, md_u72, md_u73, md_u74, md_u75, md_u76, md_u77, md_u78, md_u79, md_u80, md_u81, md_u82, md_u83, md_u84, md_u85, md_u86, md_u87, md_u88, md_u89, md_uo, iup_s, iup_n, aup_s, aup_n, ne_eq, not_false_eq_true, sh_0, sh_1, sh_2, sh_3, sh_4, sh_5, sh_8, sh_15, sh_16, sh_24, Int.reducePow, Int.cast_ofNat_Int, w_of, wl_of, ltT, ltF, leT, leF, eqT, eqF, okF_0, okF_s, gF_0, gF_s, consC_o, sF_0, sF_s, clsO_o, inA_i, ldA_i, stA_i, inJ_l, ldJ_l, stJ_l, inR_r, ldR_r, stR_r, tgR_r, lenA_i, lenA_l, lenA_r, lenA_ex, nl_i, nl_o, nl_l, nl_n, wd_n, wd_i, wd_l, wd_o, fit_i, fit_l, fit_o, K_v, K_n, true_and, and_true, Nat.reduceAdd, Nat.reduceLeDiff, Nat.reduceEqDiff, Nat.reduceMul, Nat.reduceLT, reduceIte, true_or, or_true, cmp_lt, cmp_gt, cmp_eq, wb_0, b_01, cmp_lt', cmp_gt', cmp_eq', b_0, b_1, wb_1, Int.reduceSub, Int.reduceToNat, List.getD_cons_succ, List.getD_cons_zero, Int.reduceLE, Int.reduceLT, Int.reduceEq, Int.reduceNeg, Int.reduceAdd, Int.reduceMul, and_self, em_b, ne_eq, not_false_eq_true, not_true_eq_false]
          try rfl
        · simp (disch := omega) only [e_242_182, e_242_183, e_242_186, e_242_187, e_242_188, e_242_191, e_242_192, e_242_195, e_242_197, e_242_200, e_242_201, e_242_202, e_242_203, e_242_206, e_242_207, e_242_210, e_242_212, e_242_213, e_242_214, e_242_216, e_242_217, e_242_218, e_242_219, e_242_221, e_242_224, e_242_227i, e_242_227a, e_242_228, e_242_231, e_242_234, e_242_237, hn, mdO_c, mdO_g0, mdO_k0, mdO_g1, mdO_k1, mdO_g2, mdO_k2, mdO_g3, mdO_k3, mdO_g4, mdO_k4, mdO_g5, mdO_k5, mdO_g6, mdO_k6, mdO_g7, mdO_k7, mdO_g8, mdO_k8, mdO_g9, mdO_k9, mdO_g10, mdO_k10, mdO_g11, mdO_k11, mdO_g12, mdO_k12, mdO_g13, mdO_k13, mdO_g14, mdO_k14, mdO_g15, mdO_k15, mdO_g16, mdO_k16, mdO_g17, mdO_k17, mdO_g18, mdO_k18, mdO_g19, mdO_k19, mdO_g20, mdO_k20, mdO_g21, mdO_k21, mdO_g22, mdO_k22, mdO_g23, mdO_k23, mdO_g24, mdO_k24, mdO_g25, mdO_k25, mdO_g26, mdO_k26, mdO_g27, mdO_k27, mdO_g28, mdO_k28, mdO_g29, mdO_k29, mdO_g30, mdO_k30, mdO_g31, mdO_k31, mdO_g32, mdO_k32, mdO_g33, mdO_k33, mdO_g34, mdO_k34, mdO_g35, mdO_k35, mdO_s0, mdO_s5, mdO_s6, mdO_s7, mdO_s8, mdO_s9, mdO_s10, mdO_s11, mdO_s12, mdO_s13, mdO_s14, mdO_s15, mdO_s19, mdO_s20, mdO_s25, mdO_s26, mdO_s31, mdO_s32, md_1, md_2, md_g71, md_g72, md_g73, md_g74, md_g75, md_g76, md_g77, md_g78, md_g79, md_g80, md_g81, md_g82, md_g83, md_g84, md_g85, md_g86, md_g87, md_g88, md_g89, md_out, md_u71, md_u72, md_u73, md_u74, md_u75, md_u76, md_u77, md_u78, md_u79, md_u80, md_u81, md_u82, md_u83, md_u84, md_u85, md_u86, md_u87, md_u88, md_u89, md_uo, iup_s, iup_n, aup_s, aup_n, ne_eq, not_false_eq_true, sh_0, sh_1, sh_2, sh_3, sh_4, sh_5, sh_8, sh_15, sh_16, sh_24, Int.reducePow, Int.cast_ofNat_Int, w_of, wl_of, ltT, ltF, leT, leF, eqT, eqF, okF_0, okF_s, gF_0, gF_s, consC_o, sF_0, sF_s, clsO_o, inA_i, ldA_i, stA_i, inJ_l, ldJ_l, stJ_l, inR_r, ldR_r, stR_r, tgR_r, lenA_i, lenA_l, lenA_r, lenA_ex, nl_i, nl_o, nl_l, nl_n, wd_n, wd_i, wd_l, wd_o, fit_i, fit_l, fit_o, K_v, K_n, true_and, and_true, Nat.reduceAdd, Nat.reduceLeDiff, Nat.reduceEqDiff, Nat.reduceMul, Nat.reduceLT, reduceIte, true_or, or_true, cmp_lt, cmp_gt, cmp_eq, wb_0, b_01, cmp_lt', cmp_gt', cmp_eq', b_0, b_1, wb_1, Int.reduceSub, Int.reduceToNat, List.getD_cons_succ, List.getD_cons_zero, Int.reduceLE, Int.reduceLT, Int.reduceEq, Int.reduceNeg, Int.reduceAdd, Int.reduceMul, and_self, em_b, ne_eq, not_false_eq_true, not_true_eq_false]
          try rfl
    | true =>
      obtain ⟨E2, i4, B4, hL5, f5, f6, hq, g4⟩ := r_laysB (h := h) (b := b) (k := k) (m := m) (t := j) hO hto (show k < 24000 by omega) hm (kN c) 0 (L ++ E) i3 (aup B3 80 (fset (B3 80) ((19 * k + m : Nat) : Int) j)) (by omega) (ctyR_x hR (by rw [aup_n (by omega), k72])) hL4 hj (by rw [aup_s, fs_same]) (fun q hq => absurd hq (by omega))
      rw [List.append_assoc] at hL5 hq
      refine ⟨E ++ E2, i4, B4, some (vi (if needM m b then 1 else 0)), some (vi 1), some (vi (kN c)), hL5, frI_t f3 f5, frA_t F4 (frA_w f6 (by decide)), ?_, ?_, (fun z => by cases z), fun d Q o5 o6 o7 => ?_⟩
      · intro y hy
        rw [app_some hx] at hy
        cases hy
        exact Or.inl ⟨ha, j, by rw [f6 80 (by decide), aup_s, fs_same], by rw [← List.append_assoc]; exact app_some hj, fun _ => hq⟩
      · intro n hn'
        rw [f6 80 (by decide), aup_s, fs_ne (by omega), k80]
      · rw [step]
        simp only [if_true]
        have g4' := g4 d Q (some (vi (if needM m b then 1 else 0)))
        refine Eq.trans g4' ?_
        simp (disch := omega) only [e_242_234, e_242_237, mdO_c, mdO_g0, mdO_k0, mdO_g1, mdO_k1, mdO_g2, mdO_k2, mdO_g3, mdO_k3, mdO_g4, mdO_k4, mdO_g5, mdO_k5, mdO_g6, mdO_k6, mdO_g7, mdO_k7, mdO_g8, mdO_k8, mdO_g9, mdO_k9, mdO_g10, mdO_k10, mdO_g11, mdO_k11, mdO_g12, mdO_k12, mdO_g13, mdO_k13, mdO_g14, mdO_k14, mdO_g15, mdO_k15, mdO_g16, mdO_k16, mdO_g17, mdO_k17, mdO_g18, mdO_k18, mdO_g19, mdO_k19, mdO_g20, mdO_k20, mdO_g21, mdO_k21, mdO_g22, mdO_k22, mdO_g23, mdO_k23, mdO_g24, mdO_k24, mdO_g25, mdO_k25, mdO_g26, mdO_k26, mdO_g27, mdO_k27, mdO_g28, mdO_k28, mdO_g29, mdO_k29, mdO_g30, mdO_k30, mdO_g31, mdO_k31, mdO_g32, mdO_k32, mdO_g33, mdO_k33, mdO_g34, mdO_k34, mdO_g35, mdO_k35, mdO_s0, mdO_s5, mdO_s6, mdO_s7, mdO_s8, mdO_s9, mdO_s10, mdO_s11, mdO_s12, mdO_s13, mdO_s14, mdO_s15, mdO_s19, mdO_s20, mdO_s25, mdO_s26, mdO_s31, mdO_s32, md_1, md_2, md_g71, md_g72, md_g73, md_g74, md_g75, md_g76, md_g77, md_g78, md_g79, md_g80, md_g81, md_g82, md_g83, md_g84, md_g85, md_g86, md_g87, md_g88, md_g89, md_out, md_u71, md_u72, md_u73, md_u74, md_u75, md_u76, md_u77, md_u78, md_u79, md_u80, md_u81, md_u82, md_u83, md_u84, md_u85, md_u86, md_u87, md_u88, md_u89, md_uo, iup_s, iup_n, aup_s, aup_n, ne_eq, not_false_eq_true, sh_0, sh_1, sh_2, sh_3, sh_4, sh_5, sh_8, sh_15, sh_16, sh_24, Int.reducePow, Int.cast_ofNat_Int, w_of, wl_of, ltT, ltF, leT, leF, eqT, eqF, okF_0, okF_s, gF_0, gF_s, consC_o, sF_0, sF_s, clsO_o, inA_i, ldA_i, stA_i, inJ_l, ldJ_l, stJ_l, inR_r, ldR_r, stR_r, tgR_r, lenA_i, lenA_l, lenA_r, lenA_ex, nl_i, nl_o, nl_l, nl_n, wd_n, wd_i, wd_l, wd_o, fit_i, fit_l, fit_o, K_v, K_n, true_and, and_true, Nat.reduceAdd, Nat.reduceLeDiff, Nat.reduceEqDiff, Nat.reduceMul, Nat.reduceLT, reduceIte, true_or, or_true, cmp_lt, cmp_gt, cmp_eq, wb_0, b_01, cmp_lt', cmp_gt', cmp_eq', b_0, b_1, wb_1, Int.reduceSub, Int.reduceToNat, List.getD_cons_succ, List.getD_cons_zero, Int.reduceLE, Int.reduceLT, Int.reduceEq, Int.reduceNeg, Int.reduceAdd, Int.reduceMul, and_self, em_b, ne_eq, not_false_eq_true, not_true_eq_false]
        try rfl
  · have ha' : alwM c sky b x m = false := by simpa using ha
    refine ⟨[], i, aup B1 80 (fset (B1 80) ((19 * k + m : Nat) : Int) (-1)), some (vi (if needM m b then 1 else 0)), some (vi 0), some (vi 0), ?_, frI_r, ?_, ?_, ?_, (fun _ y hy => by cases hy), fun d Q o5 o6 o7 => ?_⟩
    · rw [List.append_nil]; exact stkR_x hL1 (aup_n (by omega)) (aup_n (by omega))
    · exact frA_t (frA_s s1 (by decide) (by decide)) (frA_u (by decide))
    · intro y hy
      rw [List.append_nil, hx] at hy
      cases hy
      exact Or.inr ⟨ha', by rw [aup_s, fs_same]⟩
    · intro n hn'
      rw [aup_s, fs_ne (by omega), e80]
    · rw [g1, ha']
      simp only [if_false, Bool.false_eq_true]
      have hn : B1 72 2 = kN c := by rw [e72]; exact hR.2.2.1
      rcases Nat.eq_zero_or_pos (kN c) with q | q <;> cases bt <;> simp only [if_true, if_false, Bool.false_eq_true]
      all_goals simp (disch := omega) only [e_242_133, e_242_134, e_242_137, e_242_139, e_242_140, e_242_141, e_242_143, e_242_144, e_242_146, e_242_149, e_242_150, e_242_151, e_242_152, e_242_155, e_242_156, e_242_157, e_242_159, e_242_160, e_242_163, e_242_165, e_242_166, e_242_169, e_242_172, e_242_175, e_242_176, e_242_177, e_242_178, e_242_180, e_242_182, e_242_183, e_242_186, e_242_187, e_242_188, e_242_191, e_242_192, e_242_195, e_242_197, e_242_200, e_242_201, e_242_202, e_242_203, e_242_206, e_242_207, e_242_210, e_242_212, e_242_213, e_242_214, e_242_216, e_242_217, e_242_218, e_242_219, e_242_221, e_242_224, e_242_227i, e_242_227a, e_242_228, e_242_231, e_242_234, e_242_237, e1, hn, mdO_c, mdO_g0, mdO_k0, mdO_g1, mdO_k1, mdO_g2, mdO_k2, mdO_g3, mdO_k3, mdO_g4, mdO_k4, mdO_g5, mdO_k5, mdO_g6, mdO_k6, mdO_g7, mdO_k7, mdO_g8, mdO_k8, mdO_g9, mdO_k9, mdO_g10, mdO_k10, mdO_g11, mdO_k11, mdO_g12, mdO_k12, mdO_g13, mdO_k13, mdO_g14, mdO_k14, mdO_g15, mdO_k15, mdO_g16, mdO_k16, mdO_g17, mdO_k17, mdO_g18, mdO_k18, mdO_g19, mdO_k19, mdO_g20, mdO_k20, mdO_g21, mdO_k21, mdO_g22, mdO_k22, mdO_g23, mdO_k23, mdO_g24, mdO_k24, mdO_g25, mdO_k25, mdO_g26, mdO_k26, mdO_g27, mdO_k27, mdO_g28, mdO_k28, mdO_g29, mdO_k29, mdO_g30, mdO_k30, mdO_g31, mdO_k31, mdO_g32, mdO_k32, mdO_g33, mdO_k33, mdO_g34, mdO_k34, mdO_g35, mdO_k35, mdO_s0, mdO_s5, mdO_s6, mdO_s7, mdO_s8, mdO_s9, mdO_s10, mdO_s11, mdO_s12, mdO_s13, mdO_s14, mdO_s15, mdO_s19, mdO_s20, mdO_s25, mdO_s26, mdO_s31, mdO_s32, md_1, md_2, md_g71, md_g72, md_g73, md_g74, md_g75, md_g76, md_g77, md_g78, md_g79, md_g80, md_g81, md_g82, md_g83, md_g84, md_g85, md_g86, md_g87, md_g88, md_g89, md_out, md_u71, md_u72, md_u73, md_u74, md_u75, md_u76, md_u77, md_u78, md_u79, md_u80, md_u81, md_u82, md_u83, md_u84, md_u85, md_u86, md_u87, md_u88, md_u89, md_uo, iup_s, iup_n, aup_s, aup_n, ne_eq, not_false_eq_true, sh_0, sh_1, sh_2, sh_3, sh_4, sh_5, sh_8, sh_15, sh_16, sh_24, Int.reducePow, Int.cast_ofNat_Int, w_of, wl_of, ltT, ltF, leT, leF, eqT, eqF, okF_0, okF_s, gF_0, gF_s, consC_o, sF_0, sF_s, clsO_o, inA_i, ldA_i, stA_i, inJ_l, ldJ_l, stJ_l, inR_r, ldR_r, stR_r, tgR_r, lenA_i, lenA_l, lenA_r, lenA_ex, nl_i, nl_o, nl_l, nl_n, wd_n, wd_i, wd_l, wd_o, fit_i, fit_l, fit_o, K_v, K_n, true_and, and_true, Nat.reduceAdd, Nat.reduceLeDiff, Nat.reduceEqDiff, Nat.reduceMul, Nat.reduceLT, reduceIte, true_or, or_true, cmp_lt, cmp_gt, cmp_eq, wb_0, b_01, cmp_lt', cmp_gt', cmp_eq', b_0, b_1, wb_1, Int.reduceSub, Int.reduceToNat, List.getD_cons_succ, List.getD_cons_zero, Int.reduceLE, Int.reduceLT, Int.reduceEq, Int.reduceNeg, Int.reduceAdd, Int.reduceMul, and_self, em_b, ne_eq, not_false_eq_true, not_true_eq_false]
      all_goals rfl
theorem r_laysK {h : PH} {c : KC} {x : ST} {sky hrs b k : Nat} {s : ST} {bt : Bool} (hO : okC c) (hsky : sky < 10) (hb : b ≤ 3) :
    ∀ (r m : Nat) (L : List ST) (i : Nat → Int) (A : Nat → Int → Int) (o5 o6 o7 : Option PV), m + r = 19 → ctyR (A 72) c → stdR (A 72) s sky hrs → stkR c L i A → L[k]? = some x → (∀ m', m' < m → thOK c sky b bt L A k m') →
    ∃ (E : List ST) (i' : Nat → Int) (B : Nat → Int → Int) (l4 l5 l6 l7 : Option PV), stkR c (L ++ E) i' B ∧ frI [25] i i' ∧ frA [76, 77, 79, 80, 82] A B ∧ (∀ m', m' < 19 → thOK c sky b bt (L ++ E) B k m') ∧ (∀ n : Nat, (n < 19 * k ∨ 19 * k + 19 ≤ n) → B 80 (n : Int) = A 80 (n : Int)) ∧ (bt = false → ∀ y, y ∈ E → ∃ e, e ∈ nx c sky x ∧ e.2 = y) ∧ ∀ d Q, WP (d + 6) 242 48 [some (vr 71), some (vi b), some (vi (if bt then 1 else 0)), some (vi k), some (vi m), o5, o6, o7] [] (mdH h i A) Q = WP (d + 6) 242 37 [some (vr 71), some (vi b), some (vi (if bt then 1 else 0)), some (vi ((k + 1 : Nat) : Int)), l4, l5, l6, l7] [] (mdH h i' B) Q := by
  intro r
  induction r with
  | zero =>
    intro m L i A o5 o6 o7 hm hR hS hL hx ht
    have hm' : m = 19 := by omega
    subst hm'
    refine ⟨[], i, A, some (vi 19), o5, o6, o7, by rw [List.append_nil]; exact hL, frI_r, frA_r, by rw [List.append_nil]; exact ht, fun _ _ => rfl, (fun _ y hy => by cases hy), fun d Q => ?_⟩
    rw [e_242_48]
    simp (disch := omega) only [e_242_50, e_242_52, e_242_240, e_242_243, mdO_c, mdO_g0, mdO_k0, mdO_g1, mdO_k1, mdO_g2, mdO_k2, mdO_g3, mdO_k3, mdO_g4, mdO_k4, mdO_g5, mdO_k5, mdO_g6, mdO_k6, mdO_g7, mdO_k7, mdO_g8, mdO_k8, mdO_g9, mdO_k9, mdO_g10, mdO_k10, mdO_g11, mdO_k11, mdO_g12, mdO_k12, mdO_g13, mdO_k13, mdO_g14, mdO_k14, mdO_g15, mdO_k15, mdO_g16, mdO_k16, mdO_g17, mdO_k17, mdO_g18, mdO_k18, mdO_g19, mdO_k19, mdO_g20, mdO_k20, mdO_g21, mdO_k21, mdO_g22, mdO_k22, mdO_g23, mdO_k23, mdO_g24, mdO_k24, mdO_g25, mdO_k25, mdO_g26, mdO_k26, mdO_g27, mdO_k27, mdO_g28, mdO_k28, mdO_g29, mdO_k29, mdO_g30, mdO_k30, mdO_g31, mdO_k31, mdO_g32, mdO_k32, mdO_g33, mdO_k33, mdO_g34, mdO_k34, mdO_g35, mdO_k35, mdO_s0, mdO_s5, mdO_s6, mdO_s7, mdO_s8, mdO_s9, mdO_s10, mdO_s11, mdO_s12, mdO_s13, mdO_s14, mdO_s15, mdO_s19, mdO_s20, mdO_s25, mdO_s26, mdO_s31, mdO_s32, md_1, md_2, md_g71, md_g72, md_g73, md_g74, md_g75, md_g76, md_g77, md_g78, md_g79, md_g80, md_g81, md_g82, md_g83, md_g84, md_g85, md_g86, md_g87, md_g88, md_g89, md_out, md_u71, md_u72, md_u73, md_u74, md_u75, md_u76, md_u77, md_u78, md_u79, md_u80, md_u81, md_u82, md_u83, md_u84, md_u85, md_u86, md_u87, md_u88, md_u89, md_uo, iup_s, iup_n, aup_s, aup_n, ne_eq, not_false_eq_true, sh_0, sh_1, sh_2, sh_3, sh_4, sh_5, sh_8, sh_15, sh_16, sh_24, Int.reducePow, Int.cast_ofNat_Int, w_of, wl_of, ltT, ltF, leT, leF, eqT, eqF, okF_0, okF_s, gF_0, gF_s, consC_o, sF_0, sF_s, clsO_o, inA_i, ldA_i, stA_i, inJ_l, ldJ_l, stJ_l, inR_r, ldR_r, stR_r, tgR_r, lenA_i, lenA_l, lenA_r, lenA_ex, nl_i, nl_o, nl_l, nl_n, wd_n, wd_i, wd_l, wd_o, fit_i, fit_l, fit_o, K_v, K_n, true_and, and_true, Nat.reduceAdd, Nat.reduceLeDiff, Nat.reduceEqDiff, Nat.reduceMul, Nat.reduceLT, reduceIte, true_or, or_true, cmp_lt, cmp_gt, cmp_eq, wb_0, b_01, cmp_lt', cmp_gt', cmp_eq', b_0, b_1, wb_1, Int.reduceSub, Int.reduceToNat, List.getD_cons_succ, List.getD_cons_zero, Int.reduceLE, Int.reduceLT, Int.reduceEq, Int.reduceNeg, Int.reduceAdd, Int.reduceMul, and_self, em_b, ne_eq, not_false_eq_true, not_true_eq_false]
    try rfl
  | succ r ih =>
    intro m L i A o5 o6 o7 hm hR hS hL hx ht
    have hkl := (List.getElem?_eq_some_iff.mp hx).1
    obtain ⟨E1, i1, B1, l5, l6, l7, hL1, f1, f2, t1, t2, t3, g1⟩ := r_laysM (h := h) (bt := bt) hO hR hS hsky hb hL hx (show m < 19 by omega)
    obtain ⟨E2, i2, B2, m4, m5, m6, m7, hL2, f3, f4, t4, t5, t6, g2⟩ := ih (m + 1) (L ++ E1) i1 B1 l5 l6 l7 (by omega) (ctyR_x hR (f2 72 (by decide))) (stdR_x hS (f2 72 (by decide))) hL1 (app_some hx) (fun m' hm' => by
      by_cases z : m' = m
      · rw [z]; exact t1
      · exact thOK_ext (ht m' (by omega)) hkl (t2 _ (by omega)))
    rw [List.append_assoc] at hL2 t4
    refine ⟨E1 ++ E2, i2, B2, m4, m5, m6, m7, hL2, frI_t f1 f3, frA_t f2 f4, t4, fun n hn => by rw [t5 n hn, t2 n (by omega)], fun z y hy => ?_, fun d Q => by rw [g1, g2]⟩
    rcases List.mem_append.mp hy with q | q
    · exact t3 z y q
    · exact t6 z y q
theorem r_laysF {h : PH} {i : Nat → Int} {b be : Int} : ∀ (r k : Nat) (A : Nat → Int → Int), k + r = 98304 → (∀ j : Nat, j < k → A 82 (j : Int) = -1) →
    ∃ f : Int → Int, (∀ j : Nat, j < 98304 → f (j : Int) = -1) ∧ ∀ d Q l4 l5 l6 l7, WP d 242 2 [some (vr 71), some (vi b), some (vi be), some (vi k), l4, l5, l6, l7] [] (mdH h i A) Q = WP d 242 21 [some (vr 71), some (vi b), some (vi be), some (vi 98304), l4, l5, l6, l7] [] (mdH h i (aup A 82 f)) Q := by
  intro r
  induction r with
  | zero =>
    intro k A hk hA
    have hk' : k = 98304 := by omega
    refine ⟨A 82, fun j hj => hA j (by omega), fun d Q l4 l5 l6 l7 => ?_⟩
    rw [e_242_2]
    simp (disch := omega) only [e_242_3, e_242_5, hk', aup_id, mdO_c, mdO_g0, mdO_k0, mdO_g1, mdO_k1, mdO_g2, mdO_k2, mdO_g3, mdO_k3, mdO_g4, mdO_k4, mdO_g5, mdO_k5, mdO_g6, mdO_k6, mdO_g7, mdO_k7, mdO_g8, mdO_k8, mdO_g9, mdO_k9, mdO_g10, mdO_k10, mdO_g11, mdO_k11, mdO_g12, mdO_k12, mdO_g13, mdO_k13, mdO_g14, mdO_k14, mdO_g15, mdO_k15, mdO_g16, mdO_k16, mdO_g17, mdO_k17, mdO_g18, mdO_k18, mdO_g19, mdO_k19, mdO_g20, mdO_k20, mdO_g21, mdO_k21, mdO_g22, mdO_k22, mdO_g23, mdO_k23, mdO_g24, mdO_k24, mdO_g25, mdO_k25, mdO_g26, mdO_k26, mdO_g27, mdO_k27, mdO_g28, mdO_k28, mdO_g29, mdO_k29, mdO_g30, mdO_k30, mdO_g31, mdO_k31, mdO_g32, mdO_k32, mdO_g33, mdO_k33, mdO_g34, mdO_k34, mdO_g35, mdO_k35, mdO_s0, mdO_s5, mdO_s6, mdO_s7, mdO_s8, mdO_s9, mdO_s10, mdO_s11, mdO_s12, mdO_s13, mdO_s14, mdO_s15, mdO_s19, mdO_s20, mdO_s25, mdO_s26, mdO_s31, mdO_s32, md_1, md_2, md_g71, md_g72, md_g73, md_g74, md_g75, md_g76, md_g77, md_g78, md_g79, md_g80, md_g81, md_g82, md_g83, md_g84, md_g85, md_g86, md_g87, md_g88, md_g89, md_out, md_u71, md_u72, md_u73, md_u74, md_u75, md_u76, md_u77, md_u78, md_u79, md_u80, md_u81, md_u82, md_u83, md_u84, md_u85, md_u86, md_u87, md_u88, md_u89, md_uo, iup_s, iup_n, aup_s, aup_n, ne_eq, not_false_eq_true, sh_0, sh_1, sh_2, sh_3, sh_4, sh_5, sh_8, sh_15, sh_16, sh_24, Int.reducePow, Int.cast_ofNat_Int, w_of, wl_of, ltT, ltF, leT, leF, eqT, eqF, okF_0, okF_s, gF_0, gF_s, consC_o, sF_0, sF_s, clsO_o, inA_i, ldA_i, stA_i, inJ_l, ldJ_l, stJ_l, inR_r, ldR_r, stR_r, tgR_r, lenA_i, lenA_l, lenA_r, lenA_ex, nl_i, nl_o, nl_l, nl_n, wd_n, wd_i, wd_l, wd_o, fit_i, fit_l, fit_o, K_v, K_n, true_and, and_true, Nat.reduceAdd, Nat.reduceLeDiff, Nat.reduceEqDiff, Nat.reduceMul, Nat.reduceLT, reduceIte, true_or, or_true, cmp_lt, cmp_gt, cmp_eq, wb_0, b_01, cmp_lt', cmp_gt', cmp_eq', b_0, b_1, wb_1, Int.reduceSub, Int.reduceToNat, List.getD_cons_succ, List.getD_cons_zero, Int.reduceLE, Int.reduceLT, Int.reduceEq, Int.reduceNeg, Int.reduceAdd, Int.reduceMul, and_self, em_b, ne_eq, not_false_eq_true, not_true_eq_false]
    try rfl
  | succ r ih =>
    intro k A hk hA
    obtain ⟨f, h1, h2⟩ := ih (k + 1) (aup A 82 (fset (A 82) (k : Int) (-1))) (by omega) (fun j hj => by
      rw [aup_s]
      by_cases z : j = k
      · rw [z, fs_same]
      · rw [fs_ne (by omega)]; exact hA j (by omega))
    refine ⟨f, h1, fun d Q l4 l5 l6 l7 => ?_⟩
    have h2' := h2 d Q l4 l5 l6 l7
    rw [aup_aup] at h2'
    rw [← h2']
    rw [e_242_2]
    simp (disch := omega) only [e_242_3, e_242_5, e_242_8, e_242_9, e_242_12, e_242_13, e_242_14, e_242_15, e_242_18, mdO_c, mdO_g0, mdO_k0, mdO_g1, mdO_k1, mdO_g2, mdO_k2, mdO_g3, mdO_k3, mdO_g4, mdO_k4, mdO_g5, mdO_k5, mdO_g6, mdO_k6, mdO_g7, mdO_k7, mdO_g8, mdO_k8, mdO_g9, mdO_k9, mdO_g10, mdO_k10, mdO_g11, mdO_k11, mdO_g12, mdO_k12, mdO_g13, mdO_k13, mdO_g14, mdO_k14, mdO_g15, mdO_k15, mdO_g16, mdO_k16, mdO_g17, mdO_k17, mdO_g18, mdO_k18, mdO_g19, mdO_k19, mdO_g20, mdO_k20, mdO_g21, mdO_k21, mdO_g22, mdO_k22, mdO_g23, mdO_k23, mdO_g24, mdO_k24, mdO_g25, mdO_k25, mdO_g26, mdO_k26, mdO_g27, mdO_k27, mdO_g28, mdO_k28, mdO_g29, mdO_k29, mdO_g30, mdO_k30, mdO_g31, mdO_k31, mdO_g32, mdO_k32, mdO_g33, mdO_k33, mdO_g34, mdO_k34, mdO_g35, mdO_k35, mdO_s0, mdO_s5, mdO_s6, mdO_s7, mdO_s8, mdO_s9, mdO_s10, mdO_s11, mdO_s12, mdO_s13, mdO_s14, mdO_s15, mdO_s19, mdO_s20, mdO_s25, mdO_s26, mdO_s31, mdO_s32, md_1, md_2, md_g71, md_g72, md_g73, md_g74, md_g75, md_g76, md_g77, md_g78, md_g79, md_g80, md_g81, md_g82, md_g83, md_g84, md_g85, md_g86, md_g87, md_g88, md_g89, md_out, md_u71, md_u72, md_u73, md_u74, md_u75, md_u76, md_u77, md_u78, md_u79, md_u80, md_u81, md_u82, md_u83, md_u84, md_u85, md_u86, md_u87, md_u88, md_u89, md_uo, iup_s, iup_n, aup_s, aup_n, ne_eq, not_false_eq_true, sh_0, sh_1, sh_2, sh_3, sh_4, sh_5, sh_8, sh_15, sh_16, sh_24, Int.reducePow, Int.cast_ofNat_Int, w_of, wl_of, ltT, ltF, leT, leF, eqT, eqF, okF_0, okF_s, gF_0, gF_s, consC_o, sF_0, sF_s, clsO_o, inA_i, ldA_i, stA_i, inJ_l, ldJ_l, stJ_l, inR_r, ldR_r, stR_r, tgR_r, lenA_i, lenA_l, lenA_r, lenA_ex, nl_i, nl_o, nl_l, nl_n, wd_n, wd_i, wd_l, wd_o, fit_i, fit_l, fit_o, K_v, K_n, true_and, and_true, Nat.reduceAdd, Nat.reduceLeDiff, Nat.reduceEqDiff, Nat.reduceMul, Nat.reduceLT, reduceIte, true_or, or_true, cmp_lt, cmp_gt, cmp_eq, wb_0, b_01, cmp_lt', cmp_gt', cmp_eq', b_0, b_1, wb_1, Int.reduceSub, Int.reduceToNat, List.getD_cons_succ, List.getD_cons_zero, Int.reduceLE, Int.reduceLT, Int.reduceEq, Int.reduceNeg, Int.reduceAdd, Int.reduceMul, and_self, em_b, ne_eq, not_false_eq_true, not_true_eq_false]
    try rfl
theorem r_laysO {h : PH} {c : KC} {sky hrs b : Nat} {s : ST} {bt : Bool} (hO : okC c) (hsky : sky < 10) (hb : b ≤ 3) :
    ∀ (r k : Nat) (L : List ST) (i : Nat → Int) (A : Nat → Int → Int) (o4 o5 o6 o7 : Option PV), k + r = 24001 → k ≤ L.length → ctyR (A 72) c → stdR (A 72) s sky hrs → stkR c L i A → L[0]? = some s → (∀ j m, j < k → m < 19 → thOK c sky b bt L A j m) → (bt = false → ∀ x, x ∈ L → ∃ n, pth c sky n s x) →
    ∃ (L' : List ST) (i' : Nat → Int) (B : Nat → Int → Int), laidR c sky b bt s L' i' B ∧ frI [25] i i' ∧ frA [76, 77, 79, 80, 82] A B ∧ ∀ d Q, WP (d + 6) 242 37 [some (vr 71), some (vi b), some (vi (if bt then 1 else 0)), some (vi k), o4, o5, o6, o7] [] (mdH h i A) Q = Q none (mdH h i' B) := by
  intro r
  induction r with
  | zero =>
    intro k L i A o4 o5 o6 o7 hk hkl hR hS hL h0 ht hp
    have := stkR_len hO.1 hL
    omega
  | succ r ih =>
    intro k L i A o4 o5 o6 o7 hk hkl hR hS hL h0 ht hp
    have hlen := stkR_len hO.1 hL
    have h25 := hL.1
    by_cases q : k = L.length
    · refine ⟨L, i, A, ⟨hL, h0, fun j m hj hm => ht j m (by omega) hm, hp⟩, frI_r, frA_r, fun d Q => ?_⟩
      rw [e_242_37]
      simp (disch := omega) only [e_242_38, e_242_39, e_242_42, e_242_246, h25, mdO_c, mdO_g0, mdO_k0, mdO_g1, mdO_k1, mdO_g2, mdO_k2, mdO_g3, mdO_k3, mdO_g4, mdO_k4, mdO_g5, mdO_k5, mdO_g6, mdO_k6, mdO_g7, mdO_k7, mdO_g8, mdO_k8, mdO_g9, mdO_k9, mdO_g10, mdO_k10, mdO_g11, mdO_k11, mdO_g12, mdO_k12, mdO_g13, mdO_k13, mdO_g14, mdO_k14, mdO_g15, mdO_k15, mdO_g16, mdO_k16, mdO_g17, mdO_k17, mdO_g18, mdO_k18, mdO_g19, mdO_k19, mdO_g20, mdO_k20, mdO_g21, mdO_k21, mdO_g22, mdO_k22, mdO_g23, mdO_k23, mdO_g24, mdO_k24, mdO_g25, mdO_k25, mdO_g26, mdO_k26, mdO_g27, mdO_k27, mdO_g28, mdO_k28, mdO_g29, mdO_k29, mdO_g30, mdO_k30, mdO_g31, mdO_k31, mdO_g32, mdO_k32, mdO_g33, mdO_k33, mdO_g34, mdO_k34, mdO_g35, mdO_k35, mdO_s0, mdO_s5, mdO_s6, mdO_s7, mdO_s8, mdO_s9, mdO_s10, mdO_s11, mdO_s12, mdO_s13, mdO_s14, mdO_s15, mdO_s19, mdO_s20, mdO_s25, mdO_s26, mdO_s31, mdO_s32, md_1, md_2, md_g71, md_g72, md_g73, md_g74, md_g75, md_g76, md_g77, md_g78, md_g79, md_g80, md_g81, md_g82, md_g83, md_g84, md_g85, md_g86, md_g87, md_g88, md_g89, md_out, md_u71, md_u72, md_u73, md_u74, md_u75, md_u76, md_u77, md_u78, md_u79, md_u80, md_u81, md_u82, md_u83, md_u84, md_u85, md_u86, md_u87, md_u88, md_u89, md_uo, iup_s, iup_n, aup_s, aup_n, ne_eq, not_false_eq_true, sh_0, sh_1, sh_2, sh_3, sh_4, sh_5, sh_8, sh_15, sh_16, sh_24, Int.reducePow, Int.cast_ofNat_Int, w_of, wl_of, ltT, ltF, leT, leF, eqT, eqF, okF_0, okF_s, gF_0, gF_s, consC_o, sF_0, sF_s, clsO_o, inA_i, ldA_i, stA_i, inJ_l, ldJ_l, stJ_l, inR_r, ldR_r, stR_r, tgR_r, lenA_i, lenA_l, lenA_r, lenA_ex, nl_i, nl_o, nl_l, nl_n, wd_n, wd_i, wd_l, wd_o, fit_i, fit_l, fit_o, K_v, K_n, true_and, and_true, Nat.reduceAdd, Nat.reduceLeDiff, Nat.reduceEqDiff, Nat.reduceMul, Nat.reduceLT, reduceIte, true_or, or_true, cmp_lt, cmp_gt, cmp_eq, wb_0, b_01, cmp_lt', cmp_gt', cmp_eq', b_0, b_1, wb_1, Int.reduceSub, Int.reduceToNat, List.getD_cons_succ, List.getD_cons_zero, Int.reduceLE, Int.reduceLT, Int.reduceEq, Int.reduceNeg, Int.reduceAdd, Int.reduceMul, and_self, em_b, ne_eq, not_false_eq_true, not_true_eq_false]
    · have hkl' : k < L.length := by omega
      have hx : L[k]? = some L[k] := List.getElem?_eq_getElem hkl'
      obtain ⟨E1, i1, B1, l4, l5, l6, l7, hL1, f1, f2, t1, t2, t3, g1⟩ := r_laysK (h := h) (bt := bt) (s := s) (hrs := hrs) hO hsky hb 19 0 L i A o5 o6 o7 (by omega) hR hS hL hx (fun m' hm' => absurd hm' (by omega))
      obtain ⟨L2, i2, B2, hl, f3, f4, g2⟩ := ih (k + 1) (L ++ E1) i1 B1 l4 l5 l6 l7 (by omega) (by rw [List.length_append]; omega) (ctyR_x hR (f2 72 (by decide))) (stdR_x hS (f2 72 (by decide))) hL1 (app_some h0) (fun j m hj hm => by
        by_cases z : j = k
        · rw [z]; exact t1 m hm
        · exact thOK_ext (ht j m (by omega) hm) (by omega) (t2 _ (by omega))) (fun z x hx' => by
        rcases List.mem_append.mp hx' with w | w
        · exact hp z x w
        · obtain ⟨e, e1, e2⟩ := t3 z x w
          obtain ⟨n, hn⟩ := hp z L[k] (List.getElem_mem hkl')
          exact ⟨n + 1, L[k], e, hn, e1, e2⟩)
      refine ⟨L2, i2, B2, hl, frI_t f1 f3, frA_t f2 f4, fun d Q => ?_⟩
      rw [← g2 d Q, ← g1 d Q]
      rw [e_242_37]
      simp (disch := omega) only [e_242_38, e_242_39, e_242_42, e_242_45, e_242_46, h25, mdO_c, mdO_g0, mdO_k0, mdO_g1, mdO_k1, mdO_g2, mdO_k2, mdO_g3, mdO_k3, mdO_g4, mdO_k4, mdO_g5, mdO_k5, mdO_g6, mdO_k6, mdO_g7, mdO_k7, mdO_g8, mdO_k8, mdO_g9, mdO_k9, mdO_g10, mdO_k10, mdO_g11, mdO_k11, mdO_g12, mdO_k12, mdO_g13, mdO_k13, mdO_g14, mdO_k14, mdO_g15, mdO_k15, mdO_g16, mdO_k16, mdO_g17, mdO_k17, mdO_g18, mdO_k18, mdO_g19, mdO_k19, mdO_g20, mdO_k20, mdO_g21, mdO_k21, mdO_g22, mdO_k22, mdO_g23, mdO_k23, mdO_g24, mdO_k24, mdO_g25, mdO_k25, mdO_g26, mdO_k26, mdO_g27, mdO_k27, mdO_g28, mdO_k28, mdO_g29, mdO_k29, mdO_g30, mdO_k30, mdO_g31, mdO_k31, mdO_g32, mdO_k32, mdO_g33, mdO_k33, mdO_g34, mdO_k34, mdO_g35, mdO_k35, mdO_s0, mdO_s5, mdO_s6, mdO_s7, mdO_s8, mdO_s9, mdO_s10, mdO_s11, mdO_s12, mdO_s13, mdO_s14, mdO_s15, mdO_s19, mdO_s20, mdO_s25, mdO_s26, mdO_s31, mdO_s32, md_1, md_2, md_g71, md_g72, md_g73, md_g74, md_g75, md_g76, md_g77, md_g78, md_g79, md_g80, md_g81, md_g82, md_g83, md_g84, md_g85, md_g86, md_g87, md_g88, md_g89, md_out, md_u71, md_u72, md_u73, md_u74, md_u75, md_u76, md_u77, md_u78, md_u79, md_u80, md_u81, md_u82, md_u83, md_u84, md_u85, md_u86, md_u87, md_u88, md_u89, md_uo, iup_s, iup_n, aup_s, aup_n, ne_eq, not_false_eq_true, sh_0, sh_1, sh_2, sh_3, sh_4, sh_5, sh_8, sh_15, sh_16, sh_24, Int.reducePow, Int.cast_ofNat_Int, w_of, wl_of, ltT, ltF, leT, leF, eqT, eqF, okF_0, okF_s, gF_0, gF_s, consC_o, sF_0, sF_s, clsO_o, inA_i, ldA_i, stA_i, inJ_l, ldJ_l, stJ_l, inR_r, ldR_r, stR_r, tgR_r, lenA_i, lenA_l, lenA_r, lenA_ex, nl_i, nl_o, nl_l, nl_n, wd_n, wd_i, wd_l, wd_o, fit_i, fit_l, fit_o, K_v, K_n, true_and, and_true, Nat.reduceAdd, Nat.reduceLeDiff, Nat.reduceEqDiff, Nat.reduceMul, Nat.reduceLT, reduceIte, true_or, or_true, cmp_lt, cmp_gt, cmp_eq, wb_0, b_01, cmp_lt', cmp_gt', cmp_eq', b_0, b_1, wb_1, Int.reduceSub, Int.reduceToNat, List.getD_cons_succ, List.getD_cons_zero, Int.reduceLE, Int.reduceLT, Int.reduceEq, Int.reduceNeg, Int.reduceAdd, Int.reduceMul, and_self, em_b, ne_eq, not_false_eq_true, not_true_eq_false]
      try rfl
theorem r_lays {h : PH} {c : KC} {sky hrs b : Nat} {s : ST} {bt : Bool} {i : Nat → Int} {A : Nat → Int → Int} (hO : okC c) (hsky : sky < 10) (hb : b ≤ 3) (hR : ctyR (A 72) c) (hS : stdR (A 72) s sky hrs) (hs : okS c s) :
    ∃ (L : List ST) (i' : Nat → Int) (B : Nat → Int → Int), laidR c sky b bt s L i' B ∧ frI [25] i i' ∧ frA [76, 77, 79, 80, 82] A B ∧ ∀ d Q, WP (d + 6) 242 0 [some (vr 71), some (vi b), some (vi (if bt then 1 else 0)), none, none, none, none, none] [] (mdH h i A) Q = Q none (mdH h i' B) := by
  have hK := hO.1
  obtain ⟨f, hf, g0⟩ := r_laysF (h := h) (i := i) (b := b) (be := if bt then 1 else 0) 98304 0 A (by omega) (fun j hj => absurd hj (by omega))
  have hL0 : stkR c [] (iup i 25 0) (aup A 82 f) := ⟨(by rw [iup_s]; rfl), (fun x hx => by cases hx), (fun j x hx => by simp at hx), (fun x hx _ => by rw [aup_s]; exact hf _ (encR_lt (okS_R hK hx)).2)⟩
  obtain ⟨E, j, i1, B1, hE, hj, hL1, f1, f2, g1⟩ := r_adds (h := h) hK hL0 hs
  have hE' : E = [s] := by
    rcases hE with z | z
    · rw [z] at hj; simp at hj
    · exact z
  subst hE'
  have hB1 : frA [76, 77, 79, 80, 82] A B1 := frA_t (frA_u (by decide)) (frA_w f2 (by decide))
  obtain ⟨L, i2, B2, hl, f3, f4, g2⟩ := r_laysO (h := h) (bt := bt) (s := s) (hrs := hrs) (sky := sky) hO hsky hb 24001 0 ([] ++ [s]) i1 B1 none none none none (by omega) (by omega) (ctyR_x hR (hB1 72 (by decide))) (stdR_x hS (hB1 72 (by decide))) hL1 rfl (fun j m hj => absurd hj (by omega)) (fun _ x hx => by
    simp only [List.nil_append, List.mem_singleton] at hx
    exact ⟨0, hx⟩)
  refine ⟨L, i2, B2, hl, frI_t (frI_t (frI_u (by decide)) f1) f3, frA_t hB1 f4, fun d Q => ?_⟩
  rw [← g2 d Q]
  have sn := fun (d : Nat) (Q : PQ) (i : Nat → Int) => r_standNow (d := d) (h := h) (i := i) (A := aup A 82 f) (Q := Q) hK (ctyR_x hR (aup_n (by omega))) (stdR_x hS (aup_n (by omega))) hs
  have g0' := g0 (d + 6) Q none none none none
  simp (disch := omega) only [e_242_0, e_242_1, mdO_c, mdO_g0, mdO_k0, mdO_g1, mdO_k1, mdO_g2, mdO_k2, mdO_g3, mdO_k3, mdO_g4, mdO_k4, mdO_g5, mdO_k5, mdO_g6, mdO_k6, mdO_g7, mdO_k7, mdO_g8, mdO_k8, mdO_g9, mdO_k9, mdO_g10, mdO_k10, mdO_g11, mdO_k11, mdO_g12, mdO_k12, mdO_g13, mdO_k13, mdO_g14, mdO_k14, mdO_g15, mdO_k15, mdO_g16, mdO_k16, mdO_g17, mdO_k17, mdO_g18, mdO_k18, mdO_g19, mdO_k19, mdO_g20, mdO_k20, mdO_g21, mdO_k21, mdO_g22, mdO_k22, mdO_g23, mdO_k23, mdO_g24, mdO_k24, mdO_g25, mdO_k25, mdO_g26, mdO_k26, mdO_g27, mdO_k27, mdO_g28, mdO_k28, mdO_g29, mdO_k29, mdO_g30, mdO_k30, mdO_g31, mdO_k31, mdO_g32, mdO_k32, mdO_g33, mdO_k33, mdO_g34, mdO_k34, mdO_g35, mdO_k35, mdO_s0, mdO_s5, mdO_s6, mdO_s7, mdO_s8, mdO_s9, mdO_s10, mdO_s11, mdO_s12, mdO_s13, mdO_s14, mdO_s15, mdO_s19, mdO_s20, mdO_s25, mdO_s26, mdO_s31, mdO_s32, md_1, md_2, md_g71, md_g72, md_g73, md_g74, md_g75, md_g76, md_g77, md_g78, md_g79, md_g80, md_g81, md_g82, md_g83, md_g84, md_g85, md_g86, md_g87, md_g88, md_g89, md_out, md_u71, md_u72, md_u73, md_u74, md_u75, md_u76, md_u77, md_u78, md_u79, md_u80, md_u81, md_u82, md_u83, md_u84, md_u85, md_u86, md_u87, md_u88, md_u89, md_uo, iup_s, iup_n, aup_s, aup_n, ne_eq, not_false_eq_true, sh_0, sh_1, sh_2, sh_3, sh_4, sh_5, sh_8, sh_15, sh_16, sh_24, Int.reducePow, Int.cast_ofNat_Int, w_of, wl_of, ltT, ltF, leT, leF, eqT, eqF, okF_0, okF_s, gF_0, gF_s, consC_o, sF_0, sF_s, clsO_o, inA_i, ldA_i, stA_i, inJ_l, ldJ_l, stJ_l, inR_r, ldR_r, stR_r, tgR_r, lenA_i, lenA_l, lenA_r, lenA_ex, nl_i, nl_o, nl_l, nl_n, wd_n, wd_i, wd_l, wd_o, fit_i, fit_l, fit_o, K_v, K_n, true_and, and_true, Nat.reduceAdd, Nat.reduceLeDiff, Nat.reduceEqDiff, Nat.reduceMul, Nat.reduceLT, reduceIte, true_or, or_true, cmp_lt, cmp_gt, cmp_eq, wb_0, b_01, cmp_lt', cmp_gt', cmp_eq', b_0, b_1, wb_1, Int.reduceSub, Int.reduceToNat, List.getD_cons_succ, List.getD_cons_zero, Int.reduceLE, Int.reduceLT, Int.reduceEq, Int.reduceNeg, Int.reduceAdd, Int.reduceMul, and_self, em_b, ne_eq, not_false_eq_true, not_true_eq_false]
  refine Eq.trans g0' ?_
  simp (disch := omega) only [e_242_21, e_242_22, e_242_23, e_242_26, e_242_27, e_242_28, e_242_31, e_242_34i, e_242_34a, e_242_35, e_242_36, sn, g1, mdO_c, mdO_g0, mdO_k0, mdO_g1, mdO_k1, mdO_g2, mdO_k2, mdO_g3, mdO_k3, mdO_g4, mdO_k4, mdO_g5, mdO_k5, mdO_g6, mdO_k6, mdO_g7, mdO_k7, mdO_g8, mdO_k8, mdO_g9, mdO_k9, mdO_g10, mdO_k10, mdO_g11, mdO_k11, mdO_g12, mdO_k12, mdO_g13, mdO_k13, mdO_g14, mdO_k14, mdO_g15, mdO_k15, mdO_g16, mdO_k16, mdO_g17, mdO_k17, mdO_g18, mdO_k18, mdO_g19, mdO_k19, mdO_g20, mdO_k20, mdO_g21, mdO_k21, mdO_g22, mdO_k22, mdO_g23, mdO_k23, mdO_g24, mdO_k24, mdO_g25, mdO_k25, mdO_g26, mdO_k26, mdO_g27, mdO_k27, mdO_g28, mdO_k28, mdO_g29, mdO_k29, mdO_g30, mdO_k30, mdO_g31, mdO_k31, mdO_g32, mdO_k32, mdO_g33, mdO_k33, mdO_g34, mdO_k34, mdO_g35, mdO_k35, mdO_s0, mdO_s5, mdO_s6, mdO_s7, mdO_s8, mdO_s9, mdO_s10, mdO_s11, mdO_s12, mdO_s13, mdO_s14, mdO_s15, mdO_s19, mdO_s20, mdO_s25, mdO_s26, mdO_s31, mdO_s32, md_1, md_2, md_g71, md_g72, md_g73, md_g74, md_g75, md_g76, md_g77, md_g78, md_g79, md_g80, md_g81, md_g82, md_g83, md_g84, md_g85, md_g86, md_g87, md_g88, md_g89, md_out, md_u71, md_u72, md_u73, md_u74, md_u75, md_u76, md_u77, md_u78, md_u79, md_u80, md_u81, md_u82, md_u83, md_u84, md_u85, md_u86, md_u87, md_u88, md_u89, md_uo, iup_s, iup_n, aup_s, aup_n, ne_eq, not_false_eq_true, sh_0, sh_1, sh_2, sh_3, sh_4, sh_5, sh_8, sh_15, sh_16, sh_24, Int.reducePow, Int.cast_ofNat_Int, w_of, wl_of, ltT, ltF, leT, leF, eqT, eqF, okF_0, okF_s, gF_0, gF_s, consC_o, sF_0, sF_s, clsO_o, inA_i, ldA_i, stA_i, inJ_l, ldJ_l, stJ_l, inR_r, ldR_r, stR_r, tgR_r, lenA_i, lenA_l, lenA_r, lenA_ex, nl_i, nl_o, nl_l, nl_n, wd_n, wd_i, wd_l, wd_o, fit_i, fit_l, fit_o, K_v, K_n, true_and, and_true, Nat.reduceAdd, Nat.reduceLeDiff, Nat.reduceEqDiff, Nat.reduceMul, Nat.reduceLT, reduceIte, true_or, or_true, cmp_lt, cmp_gt, cmp_eq, wb_0, b_01, cmp_lt', cmp_gt', cmp_eq', b_0, b_1, wb_1, Int.reduceSub, Int.reduceToNat, List.getD_cons_succ, List.getD_cons_zero, Int.reduceLE, Int.reduceLT, Int.reduceEq, Int.reduceNeg, Int.reduceAdd, Int.reduceMul, and_self, em_b, ne_eq, not_false_eq_true, not_true_eq_false]
  try rfl
