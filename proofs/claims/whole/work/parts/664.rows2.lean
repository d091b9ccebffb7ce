/-! THE CLASS: Rows, one hour -/
def chs (X : List Nat) (h h' : PH) : Prop := h'.1 = h.1 ∧ h'.2.1 = h.2.1 ∧ ∀ k, ¬ k ∈ X → hp h' k = hp h k
theorem chs_r {X : List Nat} {h : PH} : chs X h h := ⟨rfl, rfl, fun _ _ => rfl⟩
theorem chs_t {X : List Nat} {h h1 h2 : PH} (a : chs X h h1) (b : chs X h1 h2) : chs X h h2 := ⟨by rw [b.1, a.1], by rw [b.2.1, a.2.1], fun k hk => by rw [b.2.2 k hk, a.2.2 k hk]⟩
theorem chs_w {X Y : List Nat} {h h' : PH} (a : chs X h h') (hs : ∀ t, t ∈ X → t ∈ Y) : chs Y h h' := ⟨a.1, a.2.1, fun k h2 => a.2.2 k (fun z => h2 (hs _ z))⟩
theorem chs_up {X : List Nat} {h : PH} {a : Nat} {c : PC} (ha : a ∈ X) : chs X h (hup h a c) := ⟨rfl, rfl, fun k hk => hp_upn (fun e => hk (by rw [e]; exact ha))⟩
theorem chs_c {ow : Nat → Nat} {X T : List Nat} {h h' : PH} (a : chs X h h') (ht : ∀ x, x ∈ X → ow x ∈ T) : chg ow T h h' := ⟨a.1, a.2.1, fun k hk => a.2.2 k (fun z => hk (ht k z))⟩
theorem chs_x {ow : Nat → Nat} {X : List Nat} {h h' : PH} (a : chs X h h') : chx ow X h h' := ⟨a.1, a.2.1, fun k _ hk => a.2.2 k hk⟩
theorem Ro_fits {d lev : Nat} {h : PH} {ca : Nat} {c : KC} {s : ST} {l : List Int} {fw : Int → Int} {i : Nat → Int} {pa pb : PV} {Q : PQ} {x2 : Int} (hK : okK c) (hC : CtyAt h ca c) (hs : okS c s) (hx : x2 = (encC c s : Int)) (h45 : hp h 45 = rwO i pa pb) (h48 : hp h 48 = aI 0 8 fw) (hlev : lev < 8) (hfw : fw lev = l.getD lev 0) (hb : -1 ≤ l.getD lev 0 ∧ l.getD lev 0 < 5) :
    WP (d + 2) 80 0 [some (vr 45), some (vr ca), some (vi x2), some (vi lev)] [] h Q = Q (some (vi (if fitB c l lev s then 1 else 0))) h := by
  subst hx
  have dn := fun (d : Nat) (Q : PQ) => c_isDown (d := d) (Q := Q) hK hC hs
  have wh := fun (d : Nat) (Q : PQ) => c_where (d := d) (Q := Q) hK hC hs
  have hb8 := ((okS_R hK hs).1 s.1).1
  obtain ⟨tf, tt, mf, mt, n, fh, fw', fa, fc, fg, fp, hA, -⟩ := hC
  unfold fitB
  by_cases hd : downB c s = true
  · simp only [hd, if_true] at dn
    simp only [hd, Bool.not_true, Bool.false_and, Bool.false_eq_true, if_false]
    simp (disch := omega) only [e_80_0, e_80_1, e_80_2, e_80_5, e_80_8, e_80_9, e_80_12, e_80_13, e_80_14, e_80_15, e_80_18, e_80_19, e_80_20, e_80_23, e_80_24, e_80_27, e_80_28, e_80_29, e_80_32, e_80_33, e_80_36, e_80_37, hA, dn, rwO_c, rwO_g0, rwO_k0, rwO_g1, rwO_k1, rwO_s1, rwO_g2, rwO_k2, rwO_s2, rwO_g3, rwO_k3, rwO_g4, rwO_k4, rwO_s4, rwO_g5, rwO_k5, rwO_g6, rwO_k6, dkO_c, dkO_g0, dkO_k0, dkO_s0, dkO_g1, dkO_k1, dkO_s1, dkO_g2, dkO_k2, dkO_s2, hoO_c, hoO_g0, hoO_k0, hoO_s0, hoO_g1, hoO_k1, hoO_s1, hoO_g2, hoO_k2, hoO_s2, hoO_g3, hoO_k3, hoO_g4, hoO_k4, hoO_g5, hoO_k5, hoO_g6, hoO_k6, hoO_g7, hoO_k7, hoO_g8, hoO_k8, hoO_g9, hoO_k9, hoO_s9, iup_s, iup_n, hp_up1, hp_upn, ne_eq, not_false_eq_true, sh_0, sh_1, sh_2, sh_3, sh_4, sh_5, sh_8, sh_15, sh_16, sh_24, Int.reducePow, Int.cast_ofNat_Int, w_of, wl_of, ltT, ltF, leT, leF, eqT, eqF, okF_0, okF_s, gF_0, gF_s, consC_o, sF_0, sF_s, clsO_o, inA_i, ldA_i, stA_i, inJ_l, ldJ_l, stJ_l, inR_r, ldR_r, stR_r, tgR_r, lenA_i, lenA_l, lenA_r, lenA_ex, nl_i, nl_o, nl_l, nl_n, wd_n, wd_i, wd_l, wd_o, fit_i, fit_l, fit_o, K_v, K_n, true_and, and_true, Nat.reduceAdd, Nat.reduceLeDiff, Nat.reduceEqDiff, Nat.reduceMul, Nat.reduceLT, reduceIte, true_or, or_true, cmp_lt, cmp_gt, cmp_eq, wb_0, b_01, cmp_lt', cmp_gt', cmp_eq', b_0, b_1, wb_1, Int.reduceSub, Int.reduceToNat, List.getD_cons_succ, List.getD_cons_zero, Int.reduceLE, Int.reduceLT, Int.reduceEq, Int.reduceNeg, Int.reduceAdd, Int.reduceMul, and_self, em_b, ne_eq, not_false_eq_true, not_true_eq_false]
    try rfl
  · have hd' : downB c s = false := by simpa using hd
    have hkn := up_kn hd'
    have ew : whereS c s = (s.2.1 s.1 : Int) := by unfold whereS; rw [if_neg hkn]
    rw [ew] at wh
    simp only [hd', if_false, Bool.false_eq_true] at dn
    simp only [hd', Bool.not_false, Bool.true_and]
    by_cases h1 : l.getD lev 0 = -1
    · rw [decide_eq_true h1, Bool.true_or, if_pos rfl]
      rw [h1] at hfw
      simp (disch := omega) only [e_80_0, e_80_1, e_80_2, e_80_5, e_80_8, e_80_9, e_80_12, e_80_13, e_80_14, e_80_15, e_80_18, e_80_19, e_80_20, e_80_23, e_80_24, e_80_27, e_80_28, e_80_29, e_80_32, e_80_33, e_80_36, e_80_37, hA, dn, h45, h48, hfw, rwO_c, rwO_g0, rwO_k0, rwO_g1, rwO_k1, rwO_s1, rwO_g2, rwO_k2, rwO_s2, rwO_g3, rwO_k3, rwO_g4, rwO_k4, rwO_s4, rwO_g5, rwO_k5, rwO_g6, rwO_k6, dkO_c, dkO_g0, dkO_k0, dkO_s0, dkO_g1, dkO_k1, dkO_s1, dkO_g2, dkO_k2, dkO_s2, hoO_c, hoO_g0, hoO_k0, hoO_s0, hoO_g1, hoO_k1, hoO_s1, hoO_g2, hoO_k2, hoO_s2, hoO_g3, hoO_k3, hoO_g4, hoO_k4, hoO_g5, hoO_k5, hoO_g6, hoO_k6, hoO_g7, hoO_k7, hoO_g8, hoO_k8, hoO_g9, hoO_k9, hoO_s9, iup_s, iup_n, hp_up1, hp_upn, ne_eq, not_false_eq_true, sh_0, sh_1, sh_2, sh_3, sh_4, sh_5, sh_8, sh_15, sh_16, sh_24, Int.reducePow, Int.cast_ofNat_Int, w_of, wl_of, ltT, ltF, leT, leF, eqT, eqF, okF_0, okF_s, gF_0, gF_s, consC_o, sF_0, sF_s, clsO_o, inA_i, ldA_i, stA_i, inJ_l, ldJ_l, stJ_l, inR_r, ldR_r, stR_r, tgR_r, lenA_i, lenA_l, lenA_r, lenA_ex, nl_i, nl_o, nl_l, nl_n, wd_n, wd_i, wd_l, wd_o, fit_i, fit_l, fit_o, K_v, K_n, true_and, and_true, Nat.reduceAdd, Nat.reduceLeDiff, Nat.reduceEqDiff, Nat.reduceMul, Nat.reduceLT, reduceIte, true_or, or_true, cmp_lt, cmp_gt, cmp_eq, wb_0, b_01, cmp_lt', cmp_gt', cmp_eq', b_0, b_1, wb_1, Int.reduceSub, Int.reduceToNat, List.getD_cons_succ, List.getD_cons_zero, Int.reduceLE, Int.reduceLT, Int.reduceEq, Int.reduceNeg, Int.reduceAdd, Int.reduceMul, and_self, em_b, ne_eq, not_false_eq_true, not_true_eq_false]
      try rfl
    · rw [decide_eq_false h1, Bool.false_or]
      generalize l.getD lev 0 = v at *
      by_cases h2 : (s.2.1 s.1 : Int) = v
      · rw [decide_eq_true h2, if_pos rfl]
        simp (disch := omega) only [e_80_0, e_80_1, e_80_2, e_80_5, e_80_8, e_80_9, e_80_12, e_80_13, e_80_14, e_80_15, e_80_18, e_80_19, e_80_20, e_80_23, e_80_24, e_80_27, e_80_28, e_80_29, e_80_32, e_80_33, e_80_36, e_80_37, hA, dn, h45, h48, hfw, wh, rwO_c, rwO_g0, rwO_k0, rwO_g1, rwO_k1, rwO_s1, rwO_g2, rwO_k2, rwO_s2, rwO_g3, rwO_k3, rwO_g4, rwO_k4, rwO_s4, rwO_g5, rwO_k5, rwO_g6, rwO_k6, dkO_c, dkO_g0, dkO_k0, dkO_s0, dkO_g1, dkO_k1, dkO_s1, dkO_g2, dkO_k2, dkO_s2, hoO_c, hoO_g0, hoO_k0, hoO_s0, hoO_g1, hoO_k1, hoO_s1, hoO_g2, hoO_k2, hoO_s2, hoO_g3, hoO_k3, hoO_g4, hoO_k4, hoO_g5, hoO_k5, hoO_g6, hoO_k6, hoO_g7, hoO_k7, hoO_g8, hoO_k8, hoO_g9, hoO_k9, hoO_s9, iup_s, iup_n, hp_up1, hp_upn, ne_eq, not_false_eq_true, sh_0, sh_1, sh_2, sh_3, sh_4, sh_5, sh_8, sh_15, sh_16, sh_24, Int.reducePow, Int.cast_ofNat_Int, w_of, wl_of, ltT, ltF, leT, leF, eqT, eqF, okF_0, okF_s, gF_0, gF_s, consC_o, sF_0, sF_s, clsO_o, inA_i, ldA_i, stA_i, inJ_l, ldJ_l, stJ_l, inR_r, ldR_r, stR_r, tgR_r, lenA_i, lenA_l, lenA_r, lenA_ex, nl_i, nl_o, nl_l, nl_n, wd_n, wd_i, wd_l, wd_o, fit_i, fit_l, fit_o, K_v, K_n, true_and, and_true, Nat.reduceAdd, Nat.reduceLeDiff, Nat.reduceEqDiff, Nat.reduceMul, Nat.reduceLT, reduceIte, true_or, or_true, cmp_lt, cmp_gt, cmp_eq, wb_0, b_01, cmp_lt', cmp_gt', cmp_eq', b_0, b_1, wb_1, Int.reduceSub, Int.reduceToNat, List.getD_cons_succ, List.getD_cons_zero, Int.reduceLE, Int.reduceLT, Int.reduceEq, Int.reduceNeg, Int.reduceAdd, Int.reduceMul, and_self, em_b, ne_eq, not_false_eq_true, not_true_eq_false]
        try rfl
      · rw [decide_eq_false h2, if_neg (by decide)]
        simp (disch := omega) only [e_80_0, e_80_1, e_80_2, e_80_5, e_80_8, e_80_9, e_80_12, e_80_13, e_80_14, e_80_15, e_80_18, e_80_19, e_80_20, e_80_23, e_80_24, e_80_27, e_80_28, e_80_29, e_80_32, e_80_33, e_80_36, e_80_37, hA, dn, h45, h48, hfw, wh, rwO_c, rwO_g0, rwO_k0, rwO_g1, rwO_k1, rwO_s1, rwO_g2, rwO_k2, rwO_s2, rwO_g3, rwO_k3, rwO_g4, rwO_k4, rwO_s4, rwO_g5, rwO_k5, rwO_g6, rwO_k6, dkO_c, dkO_g0, dkO_k0, dkO_s0, dkO_g1, dkO_k1, dkO_s1, dkO_g2, dkO_k2, dkO_s2, hoO_c, hoO_g0, hoO_k0, hoO_s0, hoO_g1, hoO_k1, hoO_s1, hoO_g2, hoO_k2, hoO_s2, hoO_g3, hoO_k3, hoO_g4, hoO_k4, hoO_g5, hoO_k5, hoO_g6, hoO_k6, hoO_g7, hoO_k7, hoO_g8, hoO_k8, hoO_g9, hoO_k9, hoO_s9, iup_s, iup_n, hp_up1, hp_upn, ne_eq, not_false_eq_true, sh_0, sh_1, sh_2, sh_3, sh_4, sh_5, sh_8, sh_15, sh_16, sh_24, Int.reducePow, Int.cast_ofNat_Int, w_of, wl_of, ltT, ltF, leT, leF, eqT, eqF, okF_0, okF_s, gF_0, gF_s, consC_o, sF_0, sF_s, clsO_o, inA_i, ldA_i, stA_i, inJ_l, ldJ_l, stJ_l, inR_r, ldR_r, stR_r, tgR_r, lenA_i, lenA_l, lenA_r, lenA_ex, nl_i, nl_o, nl_l, nl_n, wd_n, wd_i, wd_l, wd_o, fit_i, fit_l, fit_o, K_v, K_n, true_and, and_true, Nat.reduceAdd, Nat.reduceLeDiff, Nat.reduceEqDiff, Nat.reduceMul, Nat.reduceLT, reduceIte, true_or, or_true, cmp_lt, cmp_gt, cmp_eq, wb_0, b_01, cmp_lt', cmp_gt', cmp_eq', b_0, b_1, wb_1, Int.reduceSub, Int.reduceToNat, List.getD_cons_succ, List.getD_cons_zero, Int.reduceLE, Int.reduceLT, Int.reduceEq, Int.reduceNeg, Int.reduceAdd, Int.reduceMul, and_self, em_b, ne_eq, not_false_eq_true, not_true_eq_false]
        try rfl
theorem Ro_hLp {ow : Nat → Nat} {ca : Nat} {c : KC} {sky lev n nd dl dx dm kA sA : Nat} {s : ST} {lw : List Int} {fw : Int → Int} {i : Nat → Int} {a x3 x5 x6 : Int} {L : List (Nat × ST)} (hL : nx c sky s = L) (hO : okC c) (hs : okS c s) (hn : szC c ≤ n) (hn1 : n ≤ 24000) (hn2 : szC c ≤ nd) (hn3 : nd ≤ 24000) (hlev : lev < 8) (hfw : fw lev = lw.getD lev 0) (hb : -1 ≤ lw.getD lev 0 ∧ lw.getD lev 0 < 5) (ha : 0 < a) (os : ow sA = 5) (ox : ow dx = 2) (q1 : 45 < sA) (q2 : 34 < dx) (q3 : sA ≠ 48) :
    ∀ (r j : Nat) (h : PH) (g fo : Int → Int) (N : List ST) (T : (ST → Int) → Int) (R : ST → Prop) (o10 : Option PV), j + r = L.length → owF ow h → KCty ow h ca c → spr h ca c L → hp h 34 = dkO (vr dl) (vr dx) (vr dm) → hp h 45 = rwO i (vr kA) (vr sA) → hp h 48 = aI 0 8 fw → hp h sA = aL n g → hp h dx = aI 0 nd fo → rcI c g N T R → pathA c N fo → T (fun _ => 1) + a * (r : Nat) ≤ 9000000000000000000 →
    ∃ (h' : PH) (g' fo' : Int → Int) (N' : List ST) (p10 : Option PV), chs [sA, dx] h h' ∧ hp h' sA = aL n g' ∧ hp h' dx = aI 0 nd fo' ∧ rcI c g' N' (fun W => T W + a * hsum (fitB c lw lev) W (L.drop j)) (fun z => R z ∨ ∃ x, x ∈ L.drop j ∧ fitB c lw lev x.2 = true ∧ x.2 = z) ∧ pathA c N' fo' ∧ ∀ d Q, WP (d + 3) 84 50 [some (vr 45), some (vr 27), some (vi lev), some (vi x3), some (vi N.length), some (vi x5), some (vi x6), some (vl a), none, some (vi j), o10] [] h Q = WP (d + 3) 84 127 [some (vr 45), some (vr 27), some (vi lev), some (vi x3), some (vi N'.length), some (vi x5), some (vi x6), some (vl a), none, some (vi L.length), p10] [] h' Q := by
  have hK := hO.1
  have h24 := szC_le hK
  have hlen := nx_len (sky := sky) hO hs
  rw [hL] at hlen
  intro r
  induction r with
  | zero =>
    intro j h g fo N T R o10 hj hF hC hS h34 h45 h48 hg hfo hR hP hB
    have e : j = L.length := by omega
    subst e
    obtain ⟨ii, f, g', a1, a2, a3, a4, a5⟩ := hS
    refine ⟨h, g, fo, N, o10, chs_r, hg, hfo, rc_ext hR (fun W => ?_) (fun z => ?_), hP, fun d Q => ?_⟩
    · rw [List.drop_eq_nil_of_le (Nat.le_refl _)]; show T W = T W + a * 0; omega
    · rw [List.drop_eq_nil_of_le (Nat.le_refl _)]; simp
    · rw [e_84_50]
      simp (disch := omega) only [e_84_52, e_84_53, e_84_56, a1, a2, rwO_c, rwO_g0, rwO_k0, rwO_g1, rwO_k1, rwO_s1, rwO_g2, rwO_k2, rwO_s2, rwO_g3, rwO_k3, rwO_g4, rwO_k4, rwO_s4, rwO_g5, rwO_k5, rwO_g6, rwO_k6, dkO_c, dkO_g0, dkO_k0, dkO_s0, dkO_g1, dkO_k1, dkO_s1, dkO_g2, dkO_k2, dkO_s2, hoO_c, hoO_g0, hoO_k0, hoO_s0, hoO_g1, hoO_k1, hoO_s1, hoO_g2, hoO_k2, hoO_s2, hoO_g3, hoO_k3, hoO_g4, hoO_k4, hoO_g5, hoO_k5, hoO_g6, hoO_k6, hoO_g7, hoO_k7, hoO_g8, hoO_k8, hoO_g9, hoO_k9, hoO_s9, iup_s, iup_n, hp_up1, hp_upn, ne_eq, not_false_eq_true, sh_0, sh_1, sh_2, sh_3, sh_4, sh_5, sh_8, sh_15, sh_16, sh_24, Int.reducePow, Int.cast_ofNat_Int, w_of, wl_of, ltT, ltF, leT, leF, eqT, eqF, okF_0, okF_s, gF_0, gF_s, consC_o, sF_0, sF_s, clsO_o, inA_i, ldA_i, stA_i, inJ_l, ldJ_l, stJ_l, inR_r, ldR_r, stR_r, tgR_r, lenA_i, lenA_l, lenA_r, lenA_ex, nl_i, nl_o, nl_l, nl_n, wd_n, wd_i, wd_l, wd_o, fit_i, fit_l, fit_o, K_v, K_n, true_and, and_true, Nat.reduceAdd, Nat.reduceLeDiff, Nat.reduceEqDiff, Nat.reduceMul, Nat.reduceLT, reduceIte, true_or, or_true, cmp_lt, cmp_gt, cmp_eq, wb_0, b_01, cmp_lt', cmp_gt', cmp_eq', b_0, b_1, wb_1, Int.reduceSub, Int.reduceToNat, List.getD_cons_succ, List.getD_cons_zero, Int.reduceLE, Int.reduceLT, Int.reduceEq, Int.reduceNeg, Int.reduceAdd, Int.reduceMul, and_self, em_b, ne_eq, not_false_eq_true, not_true_eq_false]
      try rfl
  | succ r ih =>
    intro j h g fo N T R o10 hj hF hC hS h34 h45 h48 hg hfo hR hP hB
    have hS' := hS
    obtain ⟨ii, f, g', a1, a2, a3, a4, a5⟩ := hS
    obtain ⟨y4, y5, y6, y7, y8, y9, y10, y11, y14, y15, y17, hA⟩ := KCty_sz hC
    have hx : L[j]? = some L[j] := List.getElem?_eq_getElem (by omega)
    generalize L[j] = x at hx
    obtain ⟨x1, x2⟩ := a5 j x hx
    have hxm : x ∈ nx c sky s := by rw [hL]; exact List.mem_of_getElem? hx
    have hxo := nx_ok hs hxm
    have hxl := encC_lt hK hxo
    have hdr := drop_at hx
    have ft := fun (d : Nat) (Q : PQ) => Ro_fits (d := d) (Q := Q) (l := lw) hK hC.1 hxo rfl h45 h48 hlev hfw hb
    have ej : (j : Int) + 1 = ((j + 1 : Nat) : Int) := by omega
    have eB : a * ((r + 1 : Nat) : Int) = a * (r : Nat) + a := by rw [Int.natCast_add, Int.mul_add]; omega
    rw [eB] at hB
    have hrb : 0 ≤ a * (r : Nat) := Int.mul_nonneg (by omega) (by omega)
    by_cases hf : fitB c lw lev x.2 = true
    · simp only [hf, if_true] at ft
      obtain ⟨l1, l2, l3⟩ := rc_b hK hR
      have lb := l3 x.2 hxo
      have t34 := tg_34 hF
      have t45 : ow 45 = 5 := hF.2 45 (by omega)
      have t48 : ow 48 = 18 := hF.2 48 (by omega)
      have sx : sA ≠ dx := fun z => by rw [z, ox] at os; omega
      have x45 : 45 ≠ dx := fun z => by rw [← z, t45] at ox; omega
      have x48 : 48 ≠ dx := fun z => by rw [← z, t48] at ox; omega
      have s34 : 34 ≠ sA := by omega
      by_cases h0 : g (encC c x.2) = 0
      · have hR2 := rc_new hR hxo h0 ha
        have hlN := (rc_b hK hR2).1
        rw [List.length_append] at hlN
        simp only [List.length_singleton] at hlN
        have eN : (N.length : Int) + 1 = ((N ++ [x.2]).length : Int) := by rw [List.length_append]; rfl
        have hch : chs [sA, dx] h (hup (hup h dx (aI 0 nd (fset fo (N.length : Nat) (encC c x.2)))) sA (aL n (fset g (encC c x.2 : Nat) (g (encC c x.2) + a)))) := chs_t (chs_up (by simp)) (chs_up (by simp))
        have hc2 : chg ow [2, 5] h _ := chs_c hch (fun y hy => by
          simp at hy
          rcases hy with z | z
          · rw [z, os]; simp
          · rw [z, ox]; simp)
        obtain ⟨h', g2, fo2, N2, p10, b1, b2, b3, b4, b5, b6⟩ := ih (j + 1) _ _ _ (N ++ [x.2]) _ _ (some (vi (encC c x.2))) (by omega) (chg_F hc2 hF) (KCty_c hc2 (by decide) hC) (spr_c hF hc2 (by decide) hS') (by rw [hch.2.2 34 (by simp; omega)]; exact h34) (by rw [hch.2.2 45 (by simp; omega)]; exact h45) (by rw [hch.2.2 48 (by simp; omega)]; exact h48) hp_up1 (by rw [hp_upn (fun z => sx z.symm), hp_up1]) hR2 (path_push hP) (by show T (fun _ => 1) + a * 1 + a * (r : Nat) ≤ _; omega)
        refine ⟨h', g2, fo2, N2, p10, chs_t hch b1, b2, b3, rc_ext b4 (fun W => ?_) (fun z => ?_), b5, fun d Q => ?_⟩
        · rw [hdr]
          show T W + a * W x.2 + a * hsum _ W (L.drop (j + 1)) = T W + a * ((if fitB c lw lev x.2 then W x.2 else 0) + hsum _ W (L.drop (j + 1)))
          rw [if_pos hf, Int.mul_add]; omega
        · rw [hdr]
          constructor
          · rintro ((w | w) | ⟨y, w1, w2⟩)
            · exact Or.inl w
            · exact Or.inr ⟨x, List.mem_cons_self, hf, w.symm⟩
            · exact Or.inr ⟨y, List.mem_cons_of_mem _ w1, w2⟩
          · rintro (w | ⟨y, w1, w2, w3⟩)
            · exact Or.inl (Or.inl w)
            · rcases List.mem_cons.mp w1 with w | w
              · rw [w] at w3; exact Or.inl (Or.inr w3.symm)
              · exact Or.inr ⟨y, w, w2, w3⟩
        · rw [← b6 d Q]
          have dx10 : 10 ≤ dx := by omega
          have s10 : 10 ≤ sA := by omega
          rw [e_84_50]
          simp (disch := omega) only [e_84_52, e_84_53, e_84_56, e_84_59, e_84_60, e_84_63, e_84_65, e_84_66, e_84_68, e_84_69, e_84_70, e_84_73, e_84_75, e_84_76, e_84_79, e_84_82, e_84_83, e_84_86, e_84_88, e_84_89, e_84_90, e_84_91, e_84_94, e_84_95, e_84_98, e_84_101, e_84_103, e_84_105, e_84_106, e_84_109, e_84_110, e_84_113, e_84_115, e_84_116, e_84_117, e_84_119, e_84_120, e_84_121, e_84_124, a1, a2, a4, x2, hA, ft, h34, h45, hg, hfo, h0, ej, eN, dx10, s10, true_and, rwO_c, rwO_g0, rwO_k0, rwO_g1, rwO_k1, rwO_s1, rwO_g2, rwO_k2, rwO_s2, rwO_g3, rwO_k3, rwO_g4, rwO_k4, rwO_s4, rwO_g5, rwO_k5, rwO_g6, rwO_k6, dkO_c, dkO_g0, dkO_k0, dkO_s0, dkO_g1, dkO_k1, dkO_s1, dkO_g2, dkO_k2, dkO_s2, hoO_c, hoO_g0, hoO_k0, hoO_s0, hoO_g1, hoO_k1, hoO_s1, hoO_g2, hoO_k2, hoO_s2, hoO_g3, hoO_k3, hoO_g4, hoO_k4, hoO_g5, hoO_k5, hoO_g6, hoO_k6, hoO_g7, hoO_k7, hoO_g8, hoO_k8, hoO_g9, hoO_k9, hoO_s9, iup_s, iup_n, hp_up1, hp_upn, ne_eq, not_false_eq_true, sh_0, sh_1, sh_2, sh_3, sh_4, sh_5, sh_8, sh_15, sh_16, sh_24, Int.reducePow, Int.cast_ofNat_Int, w_of, wl_of, ltT, ltF, leT, leF, eqT, eqF, okF_0, okF_s, gF_0, gF_s, consC_o, sF_0, sF_s, clsO_o, inA_i, ldA_i, stA_i, inJ_l, ldJ_l, stJ_l, inR_r, ldR_r, stR_r, tgR_r, lenA_i, lenA_l, lenA_r, lenA_ex, nl_i, nl_o, nl_l, nl_n, wd_n, wd_i, wd_l, wd_o, fit_i, fit_l, fit_o, K_v, K_n, true_and, and_true, Nat.reduceAdd, Nat.reduceLeDiff, Nat.reduceEqDiff, Nat.reduceMul, Nat.reduceLT, reduceIte, true_or, or_true, cmp_lt, cmp_gt, cmp_eq, wb_0, b_01, cmp_lt', cmp_gt', cmp_eq', b_0, b_1, wb_1, Int.reduceSub, Int.reduceToNat, List.getD_cons_succ, List.getD_cons_zero, Int.reduceLE, Int.reduceLT, Int.reduceEq, Int.reduceNeg, Int.reduceAdd, Int.reduceMul, and_self, em_b, ne_eq, not_false_eq_true, not_true_eq_false]
          try rfl
      · have hR2 := rc_old hK hR hxo h0 ha
        have hch : chs [sA, dx] h (hup h sA (aL n (fset g (encC c x.2 : Nat) (g (encC c x.2) + a)))) := chs_up (by simp)
        have hc2 : chg ow [2, 5] h _ := chs_c hch (fun y hy => by
          simp at hy
          rcases hy with z | z
          · rw [z, os]; simp
          · rw [z, ox]; simp)
        obtain ⟨h', g2, fo2, N2, p10, b1, b2, b3, b4, b5, b6⟩ := ih (j + 1) _ _ fo N _ _ (some (vi (encC c x.2))) (by omega) (chg_F hc2 hF) (KCty_c hc2 (by decide) hC) (spr_c hF hc2 (by decide) hS') (by rw [hch.2.2 34 (by simp; omega)]; exact h34) (by rw [hch.2.2 45 (by simp; omega)]; exact h45) (by rw [hch.2.2 48 (by simp; omega)]; exact h48) hp_up1 (by rw [hp_upn (fun z => sx z.symm)]; exact hfo) hR2 hP (by show T (fun _ => 1) + a * 1 + a * (r : Nat) ≤ _; omega)
        refine ⟨h', g2, fo2, N2, p10, chs_t hch b1, b2, b3, rc_ext b4 (fun W => ?_) (fun z => ?_), b5, fun d Q => ?_⟩
        · rw [hdr]
          show T W + a * W x.2 + a * hsum _ W (L.drop (j + 1)) = T W + a * ((if fitB c lw lev x.2 then W x.2 else 0) + hsum _ W (L.drop (j + 1)))
          rw [if_pos hf, Int.mul_add]; omega
        · rw [hdr]
          constructor
          · rintro ((w | w) | ⟨y, w1, w2⟩)
            · exact Or.inl w
            · exact Or.inr ⟨x, List.mem_cons_self, hf, w.symm⟩
            · exact Or.inr ⟨y, List.mem_cons_of_mem _ w1, w2⟩
          · rintro (w | ⟨y, w1, w2, w3⟩)
            · exact Or.inl (Or.inl w)
            · rcases List.mem_cons.mp w1 with w | w
              · rw [w] at w3; exact Or.inl (Or.inr w3.symm)
              · exact Or.inr ⟨y, w, w2, w3⟩
        · rw [← b6 d Q]
          have s10 : 10 ≤ sA := by omega
          rw [e_84_50]
          simp (disch := omega) only [e_84_52, e_84_53, e_84_56, e_84_59, e_84_60, e_84_63, e_84_65, e_84_66, e_84_68, e_84_69, e_84_70, e_84_73, e_84_75, e_84_76, e_84_79, e_84_82, e_84_83, e_84_86, e_84_88, e_84_89, e_84_90, e_84_91, e_84_94, e_84_95, e_84_98, e_84_101, e_84_103, e_84_105, e_84_106, e_84_109, e_84_110, e_84_113, e_84_115, e_84_116, e_84_117, e_84_119, e_84_120, e_84_121, e_84_124, a1, a2, a4, x2, hA, ft, h34, h45, hg, hfo, h0, ej, s10, true_and, rwO_c, rwO_g0, rwO_k0, rwO_g1, rwO_k1, rwO_s1, rwO_g2, rwO_k2, rwO_s2, rwO_g3, rwO_k3, rwO_g4, rwO_k4, rwO_s4, rwO_g5, rwO_k5, rwO_g6, rwO_k6, dkO_c, dkO_g0, dkO_k0, dkO_s0, dkO_g1, dkO_k1, dkO_s1, dkO_g2, dkO_k2, dkO_s2, hoO_c, hoO_g0, hoO_k0, hoO_s0, hoO_g1, hoO_k1, hoO_s1, hoO_g2, hoO_k2, hoO_s2, hoO_g3, hoO_k3, hoO_g4, hoO_k4, hoO_g5, hoO_k5, hoO_g6, hoO_k6, hoO_g7, hoO_k7, hoO_g8, hoO_k8, hoO_g9, hoO_k9, hoO_s9, iup_s, iup_n, hp_up1, hp_upn, ne_eq, not_false_eq_true, sh_0, sh_1, sh_2, sh_3, sh_4, sh_5, sh_8, sh_15, sh_16, sh_24, Int.reducePow, Int.cast_ofNat_Int, w_of, wl_of, ltT, ltF, leT, leF, eqT, eqF, okF_0, okF_s, gF_0, gF_s, consC_o, sF_0, sF_s, clsO_o, inA_i, ldA_i, stA_i, inJ_l, ldJ_l, stJ_l, inR_r, ldR_r, stR_r, tgR_r, lenA_i, lenA_l, lenA_r, lenA_ex, nl_i, nl_o, nl_l, nl_n, wd_n, wd_i, wd_l, wd_o, fit_i, fit_l, fit_o, K_v, K_n, true_and, and_true, Nat.reduceAdd, Nat.reduceLeDiff, Nat.reduceEqDiff, Nat.reduceMul, Nat.reduceLT, reduceIte, true_or, or_true, cmp_lt, cmp_gt, cmp_eq, wb_0, b_01, cmp_lt', cmp_gt', cmp_eq', b_0, b_1, wb_1, Int.reduceSub, Int.reduceToNat, List.getD_cons_succ, List.getD_cons_zero, Int.reduceLE, Int.reduceLT, Int.reduceEq, Int.reduceNeg, Int.reduceAdd, Int.reduceMul, and_self, em_b, ne_eq, not_false_eq_true, not_true_eq_false]
          try rfl
    · simp only [hf, if_false, Bool.false_eq_true] at ft
      obtain ⟨h', g2, fo2, N2, p10, b1, b2, b3, b4, b5, b6⟩ := ih (j + 1) h g fo N T R (some (vi (encC c x.2))) (by omega) hF hC hS' h34 h45 h48 hg hfo hR hP (by omega)
      refine ⟨h', g2, fo2, N2, p10, b1, b2, b3, rc_ext b4 (fun W => ?_) (fun z => ?_), b5, fun d Q => ?_⟩
      · rw [hdr]
        show T W + a * hsum _ W (L.drop (j + 1)) = T W + a * ((if fitB c lw lev x.2 then W x.2 else 0) + hsum _ W (L.drop (j + 1)))
        rw [if_neg hf, Int.zero_add]
      · rw [hdr]
        constructor
        · rintro (w | ⟨y, w1, w2⟩)
          · exact Or.inl w
          · exact Or.inr ⟨y, List.mem_cons_of_mem _ w1, w2⟩
        · rintro (w | ⟨y, w1, w2, w3⟩)
          · exact Or.inl w
          · rcases List.mem_cons.mp w1 with w | w
            · rw [w] at w2; exact absurd w2 hf
            · exact Or.inr ⟨y, w, w2, w3⟩
      · rw [← b6 d Q]
        rw [e_84_50]
        simp (disch := omega) only [e_84_52, e_84_53, e_84_56, e_84_59, e_84_60, e_84_63, e_84_65, e_84_66, e_84_68, e_84_69, e_84_70, e_84_73, e_84_75, e_84_76, e_84_79, e_84_121, e_84_124, a1, a2, a4, x2, hA, ft, h34, h45, ej, true_and, rwO_c, rwO_g0, rwO_k0, rwO_g1, rwO_k1, rwO_s1, rwO_g2, rwO_k2, rwO_s2, rwO_g3, rwO_k3, rwO_g4, rwO_k4, rwO_s4, rwO_g5, rwO_k5, rwO_g6, rwO_k6, dkO_c, dkO_g0, dkO_k0, dkO_s0, dkO_g1, dkO_k1, dkO_s1, dkO_g2, dkO_k2, dkO_s2, hoO_c, hoO_g0, hoO_k0, hoO_s0, hoO_g1, hoO_k1, hoO_s1, hoO_g2, hoO_k2, hoO_s2, hoO_g3, hoO_k3, hoO_g4, hoO_k4, hoO_g5, hoO_k5, hoO_g6, hoO_k6, hoO_g7, hoO_k7, hoO_g8, hoO_k8, hoO_g9, hoO_k9, hoO_s9, iup_s, iup_n, hp_up1, hp_upn, ne_eq, not_false_eq_true, sh_0, sh_1, sh_2, sh_3, sh_4, sh_5, sh_8, sh_15, sh_16, sh_24, Int.reducePow, Int.cast_ofNat_Int, w_of, wl_of, ltT, ltF, leT, leF, eqT, eqF, okF_0, okF_s, gF_0, gF_s, consC_o, sF_0, sF_s, clsO_o, inA_i, ldA_i, stA_i, inJ_l, ldJ_l, stJ_l, inR_r, ldR_r, stR_r, tgR_r, lenA_i, lenA_l, lenA_r, lenA_ex, nl_i, nl_o, nl_l, nl_n, wd_n, wd_i, wd_l, wd_o, fit_i, fit_l, fit_o, K_v, K_n, true_and, and_true, Nat.reduceAdd, Nat.reduceLeDiff, Nat.reduceEqDiff, Nat.reduceMul, Nat.reduceLT, reduceIte, true_or, or_true, cmp_lt, cmp_gt, cmp_eq, wb_0, b_01, cmp_lt', cmp_gt', cmp_eq', b_0, b_1, wb_1, Int.reduceSub, Int.reduceToNat, List.getD_cons_succ, List.getD_cons_zero, Int.reduceLE, Int.reduceLT, Int.reduceEq, Int.reduceNeg, Int.reduceAdd, Int.reduceMul, and_self, em_b, ne_eq, not_false_eq_true, not_true_eq_false]
        try rfl
