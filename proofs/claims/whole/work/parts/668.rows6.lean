/-! THE CLASS: Rows, forget and total; what is told -/
theorem Ro_fgLp {c : KC} {dl dx dm kA sA n nd : Nat} {i : Nat → Int} {fl : Int → Int} {M : List ST} (hK : okK c) (hn : szC c ≤ n) (hn1 : n ≤ 24000) (hMl : M.length ≤ nd) (hn3 : nd ≤ 24000) (hM : ∀ x, x ∈ M → okS c x) (k10 : 45 < kA) (lk : dl ≠ kA) (hP : pathA c M fl) :
    ∀ (r k : Nat) (h : PH) (f : Int → Int), k + r = M.length → hp h 34 = dkO (vr dl) (vr dx) (vr dm) → hp h 45 = rwO i (vr kA) (vr sA) → hp h kA = aL n f → hp h dl = aI 0 nd fl → (∀ j : Nat, (∀ x, x ∈ M.drop k → encC c x ≠ j) → f j = 0) →
    ∃ f' : Int → Int, (∀ j : Nat, f' j = 0) ∧ ∀ d Q, WP d 82 2 [some (vr 45), some (vi M.length), some (vi k)] [] h Q = Q none (hup h kA (aL n f')) := by
  have h24 := szC_le hK
  intro r
  induction r with
  | zero =>
    intro k h f hk h34 h45 hf hfl hz
    have ek : k = M.length := by omega
    subst ek
    rw [List.drop_eq_nil_of_le (Nat.le_refl _)] at hz
    refine ⟨f, fun j => hz j (fun x hx => by cases hx), fun d Q => ?_⟩
    rw [hup_self hf]
    rw [e_82_2]
    simp (disch := omega) only [e_82_3, e_82_4, e_82_28, rwO_c, rwO_g0, rwO_k0, rwO_g1, rwO_k1, rwO_s1, rwO_g2, rwO_k2, rwO_s2, rwO_g3, rwO_k3, rwO_g4, rwO_k4, rwO_s4, rwO_g5, rwO_k5, rwO_g6, rwO_k6, dkO_c, dkO_g0, dkO_k0, dkO_s0, dkO_g1, dkO_k1, dkO_s1, dkO_g2, dkO_k2, dkO_s2, hoO_c, hoO_g0, hoO_k0, hoO_s0, hoO_g1, hoO_k1, hoO_s1, hoO_g2, hoO_k2, hoO_s2, hoO_g3, hoO_k3, hoO_g4, hoO_k4, hoO_g5, hoO_k5, hoO_g6, hoO_k6, hoO_g7, hoO_k7, hoO_g8, hoO_k8, hoO_g9, hoO_k9, hoO_s9, iup_s, iup_n, hp_up1, hp_upn, ne_eq, not_false_eq_true, sh_0, sh_1, sh_2, sh_3, sh_4, sh_5, sh_8, sh_15, sh_16, sh_24, Int.reducePow, Int.cast_ofNat_Int, w_of, wl_of, ltT, ltF, leT, leF, eqT, eqF, okF_0, okF_s, gF_0, gF_s, consC_o, sF_0, sF_s, clsO_o, inA_i, ldA_i, stA_i, inJ_l, ldJ_l, stJ_l, inR_r, ldR_r, stR_r, tgR_r, lenA_i, lenA_l, lenA_r, lenA_ex, nl_i, nl_o, nl_l, nl_n, wd_n, wd_i, wd_l, wd_o, fit_i, fit_l, fit_o, K_v, K_n, true_and, and_true, Nat.reduceAdd, Nat.reduceLeDiff, Nat.reduceEqDiff, Nat.reduceMul, Nat.reduceLT, reduceIte, true_or, or_true, cmp_lt, cmp_gt, cmp_eq, wb_0, b_01, cmp_lt', cmp_gt', cmp_eq', b_0, b_1, wb_1, Int.reduceSub, Int.reduceToNat, List.getD_cons_succ, List.getD_cons_zero, Int.reduceLE, Int.reduceLT, Int.reduceEq, Int.reduceNeg, Int.reduceAdd, Int.reduceMul, and_self, em_b, ne_eq, not_false_eq_true, not_true_eq_false]
    try rfl
  | succ r ih =>
    intro k h f hk h34 h45 hf hfl hz
    have hx : M[k]? = some M[k] := List.getElem?_eq_getElem (by omega)
    generalize M[k] = x at hx
    have hxo := hM x (List.mem_of_getElem? hx)
    have hxl := encC_lt hK hxo
    have hdr := drop_at hx
    have hfx := hP k x hx
    obtain ⟨f', b1, b2⟩ := ih (k + 1) (hup h kA (aL n (fset f (encC c x : Nat) 0))) (fset f (encC c x : Nat) 0) (by omega) (by rw [hp_upn (by omega)]; exact h34) (by rw [hp_upn (by omega)]; exact h45) hp_up1 (by rw [hp_upn lk]; exact hfl) (fun j hj => by
      by_cases z : (j : Int) = (encC c x : Nat)
      · rw [z, fs_same]
      · rw [fs_ne z]
        refine hz j (fun y hy => ?_)
        rw [hdr] at hy
        rcases List.mem_cons.mp hy with w | w
        · rw [w]; omega
        · exact hj y w)
    refine ⟨f', b1, fun d Q => ?_⟩
    have b2' := b2 d Q
    rw [hup_tt] at b2'
    rw [← b2']
    have ek : (k : Int) + 1 = ((k + 1 : Nat) : Int) := by omega
    have k10' : 10 ≤ kA := by omega
    rw [e_82_2]
    simp (disch := omega) only [e_82_3, e_82_4, e_82_7, e_82_8, e_82_11, e_82_12, e_82_15, e_82_18, e_82_19, e_82_20, e_82_21, e_82_22, e_82_25, h34, h45, hf, hfl, hfx, ek, k10', true_and, rwO_c, rwO_g0, rwO_k0, rwO_g1, rwO_k1, rwO_s1, rwO_g2, rwO_k2, rwO_s2, rwO_g3, rwO_k3, rwO_g4, rwO_k4, rwO_s4, rwO_g5, rwO_k5, rwO_g6, rwO_k6, dkO_c, dkO_g0, dkO_k0, dkO_s0, dkO_g1, dkO_k1, dkO_s1, dkO_g2, dkO_k2, dkO_s2, hoO_c, hoO_g0, hoO_k0, hoO_s0, hoO_g1, hoO_k1, hoO_s1, hoO_g2, hoO_k2, hoO_s2, hoO_g3, hoO_k3, hoO_g4, hoO_k4, hoO_g5, hoO_k5, hoO_g6, hoO_k6, hoO_g7, hoO_k7, hoO_g8, hoO_k8, hoO_g9, hoO_k9, hoO_s9, iup_s, iup_n, hp_up1, hp_upn, ne_eq, not_false_eq_true, sh_0, sh_1, sh_2, sh_3, sh_4, sh_5, sh_8, sh_15, sh_16, sh_24, Int.reducePow, Int.cast_ofNat_Int, w_of, wl_of, ltT, ltF, leT, leF, eqT, eqF, okF_0, okF_s, gF_0, gF_s, consC_o, sF_0, sF_s, clsO_o, inA_i, ldA_i, stA_i, inJ_l, ldJ_l, stJ_l, inR_r, ldR_r, stR_r, tgR_r, lenA_i, lenA_l, lenA_r, lenA_ex, nl_i, nl_o, nl_l, nl_n, wd_n, wd_i, wd_l, wd_o, fit_i, fit_l, fit_o, K_v, K_n, true_and, and_true, Nat.reduceAdd, Nat.reduceLeDiff, Nat.reduceEqDiff, Nat.reduceMul, Nat.reduceLT, reduceIte, true_or, or_true, cmp_lt, cmp_gt, cmp_eq, wb_0, b_01, cmp_lt', cmp_gt', cmp_eq', b_0, b_1, wb_1, Int.reduceSub, Int.reduceToNat, List.getD_cons_succ, List.getD_cons_zero, Int.reduceLE, Int.reduceLT, Int.reduceEq, Int.reduceNeg, Int.reduceAdd, Int.reduceMul, and_self, em_b, ne_eq, not_false_eq_true, not_true_eq_false]
    try rfl
theorem Ro_forget {c : KC} {h : PH} {dl dx dm kA sA n nd : Nat} {i : Nat → Int} {f fl : Int → Int} {M : List ST} {T : (ST → Int) → Int} {R : ST → Prop} (hK : okK c) (hn : szC c ≤ n) (hn1 : n ≤ 24000) (hn2 : szC c ≤ nd) (hn3 : nd ≤ 24000) (k10 : 45 < kA) (lk : dl ≠ kA) (hP : pathA c M fl) (h34 : hp h 34 = dkO (vr dl) (vr dx) (vr dm)) (h45 : hp h 45 = rwO i (vr kA) (vr sA)) (hf : hp h kA = aL n f) (hfl : hp h dl = aI 0 nd fl) (hR : rcI c f M T R) :
    ∃ f' : Int → Int, (∀ j : Nat, f' j = 0) ∧ ∀ d Q, WP d 82 0 [some (vr 45), some (vi M.length), none] [] h Q = Q none (hup h kA (aL n f')) := by
  have hl := (rc_b hK hR).1
  obtain ⟨f', b1, b2⟩ := Ro_fgLp hK hn hn1 (show M.length ≤ nd by omega) hn3 (fun x hx => (hR.1 x hx).1) k10 lk hP M.length 0 h f (by omega) h34 h45 hf hfl (by rw [List.drop_zero]; exact hR.2.1)
  refine ⟨f', b1, fun d Q => ?_⟩
  have b2' := b2 d Q
  rw [nc0] at b2'
  rw [← b2']
  simp (disch := omega) only [e_82_0, e_82_1, rwO_c, rwO_g0, rwO_k0, rwO_g1, rwO_k1, rwO_s1, rwO_g2, rwO_k2, rwO_s2, rwO_g3, rwO_k3, rwO_g4, rwO_k4, rwO_s4, rwO_g5, rwO_k5, rwO_g6, rwO_k6, dkO_c, dkO_g0, dkO_k0, dkO_s0, dkO_g1, dkO_k1, dkO_s1, dkO_g2, dkO_k2, dkO_s2, hoO_c, hoO_g0, hoO_k0, hoO_s0, hoO_g1, hoO_k1, hoO_s1, hoO_g2, hoO_k2, hoO_s2, hoO_g3, hoO_k3, hoO_g4, hoO_k4, hoO_g5, hoO_k5, hoO_g6, hoO_k6, hoO_g7, hoO_k7, hoO_g8, hoO_k8, hoO_g9, hoO_k9, hoO_s9, iup_s, iup_n, hp_up1, hp_upn, ne_eq, not_false_eq_true, sh_0, sh_1, sh_2, sh_3, sh_4, sh_5, sh_8, sh_15, sh_16, sh_24, Int.reducePow, Int.cast_ofNat_Int, w_of, wl_of, ltT, ltF, leT, leF, eqT, eqF, okF_0, okF_s, gF_0, gF_s, consC_o, sF_0, sF_s, clsO_o, inA_i, ldA_i, stA_i, inJ_l, ldJ_l, stJ_l, inR_r, ldR_r, stR_r, tgR_r, lenA_i, lenA_l, lenA_r, lenA_ex, nl_i, nl_o, nl_l, nl_n, wd_n, wd_i, wd_l, wd_o, fit_i, fit_l, fit_o, K_v, K_n, true_and, and_true, Nat.reduceAdd, Nat.reduceLeDiff, Nat.reduceEqDiff, Nat.reduceMul, Nat.reduceLT, reduceIte, true_or, or_true, cmp_lt, cmp_gt, cmp_eq, wb_0, b_01, cmp_lt', cmp_gt', cmp_eq', b_0, b_1, wb_1, Int.reduceSub, Int.reduceToNat, List.getD_cons_succ, List.getD_cons_zero, Int.reduceLE, Int.reduceLT, Int.reduceEq, Int.reduceNeg, Int.reduceAdd, Int.reduceMul, and_self, em_b, ne_eq, not_false_eq_true, not_true_eq_false]
  try rfl
theorem Ro_sumLp {c : KC} {h : PH} {dl dx dm kA sA n nd : Nat} {i : Nat → Int} {f fl : Int → Int} {M : List ST} {x2 : Int} (hK : okK c) (hn : szC c ≤ n) (hn1 : n ≤ 24000) (hMl : M.length ≤ nd) (hn3 : nd ≤ 24000) (hM : ∀ x, x ∈ M → okS c x) (hP : pathA c M fl) (h34 : hp h 34 = dkO (vr dl) (vr dx) (vr dm)) (h45 : hp h 45 = rwO i (vr kA) (vr sA)) (hf : hp h kA = aL n f) (hfl : hp h dl = aI 0 nd fl) :
    ∀ (r k : Nat) (a : Int), k + r = M.length → ∀ d Q, WP d 81 17 [some (vr 45), some (vr 27), some (vi x2), some (vi M.length), some (vl a), none, some (vi k)] [] h Q = WP d 81 49 [some (vr 45), some (vr 27), some (vi x2), some (vi M.length), some (vl (a + wl2 c f (fun _ => 1) (M.drop k))), none, some (vi M.length)] [] h Q := by
  have h24 := szC_le hK
  intro r
  induction r with
  | zero =>
    intro k a hk d Q
    have ek : k = M.length := by omega
    subst ek
    rw [List.drop_eq_nil_of_le (Nat.le_refl _), show wl2 c f (fun _ => 1) [] = 0 from rfl, Int.add_zero]
    rw [e_81_17]
    simp (disch := omega) only [e_81_19, e_81_20, rwO_c, rwO_g0, rwO_k0, rwO_g1, rwO_k1, rwO_s1, rwO_g2, rwO_k2, rwO_s2, rwO_g3, rwO_k3, rwO_g4, rwO_k4, rwO_s4, rwO_g5, rwO_k5, rwO_g6, rwO_k6, dkO_c, dkO_g0, dkO_k0, dkO_s0, dkO_g1, dkO_k1, dkO_s1, dkO_g2, dkO_k2, dkO_s2, hoO_c, hoO_g0, hoO_k0, hoO_s0, hoO_g1, hoO_k1, hoO_s1, hoO_g2, hoO_k2, hoO_s2, hoO_g3, hoO_k3, hoO_g4, hoO_k4, hoO_g5, hoO_k5, hoO_g6, hoO_k6, hoO_g7, hoO_k7, hoO_g8, hoO_k8, hoO_g9, hoO_k9, hoO_s9, iup_s, iup_n, hp_up1, hp_upn, ne_eq, not_false_eq_true, sh_0, sh_1, sh_2, sh_3, sh_4, sh_5, sh_8, sh_15, sh_16, sh_24, Int.reducePow, Int.cast_ofNat_Int, w_of, wl_of, ltT, ltF, leT, leF, eqT, eqF, okF_0, okF_s, gF_0, gF_s, consC_o, sF_0, sF_s, clsO_o, inA_i, ldA_i, stA_i, inJ_l, ldJ_l, stJ_l, inR_r, ldR_r, stR_r, tgR_r, lenA_i, lenA_l, lenA_r, lenA_ex, nl_i, nl_o, nl_l, nl_n, wd_n, wd_i, wd_l, wd_o, fit_i, fit_l, fit_o, K_v, K_n, true_and, and_true, Nat.reduceAdd, Nat.reduceLeDiff, Nat.reduceEqDiff, Nat.reduceMul, Nat.reduceLT, reduceIte, true_or, or_true, cmp_lt, cmp_gt, cmp_eq, wb_0, b_01, cmp_lt', cmp_gt', cmp_eq', b_0, b_1, wb_1, Int.reduceSub, Int.reduceToNat, List.getD_cons_succ, List.getD_cons_zero, Int.reduceLE, Int.reduceLT, Int.reduceEq, Int.reduceNeg, Int.reduceAdd, Int.reduceMul, and_self, em_b, ne_eq, not_false_eq_true, not_true_eq_false]
    try rfl
  | succ r ih =>
    intro k a hk d Q
    have hx : M[k]? = some M[k] := List.getElem?_eq_getElem (by omega)
    generalize M[k] = x at hx
    have hxl := encC_lt hK (hM x (List.mem_of_getElem? hx))
    have hfx := hP k x hx
    have e : a + wl2 c f (fun _ => 1) (M.drop k) = a + f (encC c x) + wl2 c f (fun _ => 1) (M.drop (k + 1)) := by
      rw [drop_at hx]
      show a + (f (encC c x) * 1 + wl2 c f (fun _ => 1) (M.drop (k + 1))) = _
      omega
    rw [e, ← ih (k + 1) (a + f (encC c x)) (by omega) d Q]
    have ek : (k : Int) + 1 = ((k + 1 : Nat) : Int) := by omega
    rw [e_81_17]
    simp (disch := omega) only [e_81_19, e_81_20, e_81_23, e_81_25, e_81_26, e_81_29, e_81_30, e_81_33, e_81_36, e_81_38, e_81_39, e_81_40, e_81_41, e_81_43, e_81_46, h34, h45, hf, hfl, hfx, ek, true_and, rwO_c, rwO_g0, rwO_k0, rwO_g1, rwO_k1, rwO_s1, rwO_g2, rwO_k2, rwO_s2, rwO_g3, rwO_k3, rwO_g4, rwO_k4, rwO_s4, rwO_g5, rwO_k5, rwO_g6, rwO_k6, dkO_c, dkO_g0, dkO_k0, dkO_s0, dkO_g1, dkO_k1, dkO_s1, dkO_g2, dkO_k2, dkO_s2, hoO_c, hoO_g0, hoO_k0, hoO_s0, hoO_g1, hoO_k1, hoO_s1, hoO_g2, hoO_k2, hoO_s2, hoO_g3, hoO_k3, hoO_g4, hoO_k4, hoO_g5, hoO_k5, hoO_g6, hoO_k6, hoO_g7, hoO_k7, hoO_g8, hoO_k8, hoO_g9, hoO_k9, hoO_s9, iup_s, iup_n, hp_up1, hp_upn, ne_eq, not_false_eq_true, sh_0, sh_1, sh_2, sh_3, sh_4, sh_5, sh_8, sh_15, sh_16, sh_24, Int.reducePow, Int.cast_ofNat_Int, w_of, wl_of, ltT, ltF, leT, leF, eqT, eqF, okF_0, okF_s, gF_0, gF_s, consC_o, sF_0, sF_s, clsO_o, inA_i, ldA_i, stA_i, inJ_l, ldJ_l, stJ_l, inR_r, ldR_r, stR_r, tgR_r, lenA_i, lenA_l, lenA_r, lenA_ex, nl_i, nl_o, nl_l, nl_n, wd_n, wd_i, wd_l, wd_o, fit_i, fit_l, fit_o, K_v, K_n, true_and, and_true, Nat.reduceAdd, Nat.reduceLeDiff, Nat.reduceEqDiff, Nat.reduceMul, Nat.reduceLT, reduceIte, true_or, or_true, cmp_lt, cmp_gt, cmp_eq, wb_0, b_01, cmp_lt', cmp_gt', cmp_eq', b_0, b_1, wb_1, Int.reduceSub, Int.reduceToNat, List.getD_cons_succ, List.getD_cons_zero, Int.reduceLE, Int.reduceLT, Int.reduceEq, Int.reduceNeg, Int.reduceAdd, Int.reduceMul, and_self, em_b, ne_eq, not_false_eq_true, not_true_eq_false]
    try rfl
theorem Ro_total {ow : Nat → Nat} {h : PH} {ca : Nat} {c : KC} {sky e n nd : Nat} {lw : List Int} {s : ST} (hF : owF ow h) (hH : HoP ow h ca c sky e) (hD : DesP ow h nd) (hV : RowV ow h n lw) (hs : okS c s) (hb : ∀ k, k < lw.length → -1 ≤ lw.getD k 0 ∧ lw.getD k 0 < 5) (hdn : downB c s = false ∨ 1 ≤ lw.length) :
    ∃ (h' : PH) (ow' : Nat → Nat) (n' nd' d1 d2 : Nat), extO ow h ow' h' [1, 2, 5] ∧ ((nd' = nd ∧ d1 = 0) ∨ (nd < nd' ∧ nd' = szC c ∧ d1 = 1)) ∧ ((n' = n ∧ d2 = 0) ∨ (n < n' ∧ n' = szC c ∧ d2 = 1)) ∧ h'.1 = h.1 + 3 * d1 + 2 * d2 ∧ h'.2.1 = h.2.1 + (3 * d1 + 2 * d2) * szC c ∧ HoP ow' h' ca c sky e ∧ DesP ow' h' nd' ∧ szC c ≤ nd' ∧ RowV ow' h' n' lw ∧ ∀ d Q, WP (d + 11) 81 0 [some (vr 45), some (vr 27), some (vi (encC c s)), none, none, none, none] [] h Q = Q (some (vl (cmF c sky lw lw.length 0 s))) h' := by
  obtain ⟨hO⟩ : Nonempty (okC c) := by obtain ⟨_, _, _, _, _, _, _, _, _, _, a9⟩ := hH; exact ⟨a9.2.1⟩
  have hK := hO.1
  have h24 := szC_le hK
  obtain ⟨i0, pa, pb, q45, q4, hlw⟩ : ∃ i pa pb, hp h 45 = rwO i pa pb ∧ i 4 = (lw.length : Int) ∧ lw.length ≤ 8 := by obtain ⟨i, kA, sA, f, g, fw, v1, v2, v3, v3', _⟩ := hV; exact ⟨i, _, _, v1, v3, v3'⟩
  obtain ⟨h1, ow1, n1, nd1, d1, d2, i, dl, dx, dm, kA, sA, fw, fm, M, f1, f2, f3, f4, f5, f6, f7, f8, f9, f10, f11, f12, f13, f14, f15, f16, f17, f18, f19⟩ := Ro_goOn (nn := lw.length) hF hH hD hV hs (Nat.le_refl _) hb hdn
  have hF1 := ext_F f1 hF
  obtain ⟨f, g, fl, fo, s1, s2, s3, s4, s5, s6, s7, s8, s9, s10⟩ := f17
  obtain ⟨w1, w2, w3, w4, w5, w6, w7, w8, w9, w10⟩ := f11
  have hl := (rc_b hK s9).1
  have lk : dl ≠ kA := fun z => by rw [z, w2] at w4; omega
  obtain ⟨f', b1, b2⟩ := Ro_forget hK f9 f10 f7 f8 w7 lk s10 s1 s2 s4 s7 s9
  have hch : chg ow1 [5] h1 (hup h1 kA (aL n1 f')) := chg_up w2 (by simp)
  have et : wl2 c f (fun _ => 1) M = cmF c sky lw lw.length 0 s := by
    rw [s9.2.2.2.1]
    exact tK_cm (r := 0) hK
  have t45 : ow1 45 = 5 := hF1.2 45 (by omega)
  have t48 : ow1 48 = 18 := hF1.2 48 (by omega)
  have k48 : kA ≠ 48 := fun z => by rw [z, t48] at w2; omega
  have xk : dx ≠ kA := fun z => by rw [z, w2] at w3; omega
  have mk : dm ≠ kA := fun z => by rw [← z, f13.2.2.1] at w2; omega
  refine ⟨hup h1 kA (aL n1 f'), ow1, n1, nd1, d1, d2, ext_t f1 (ext_c (chg_w hch (by decide))), f2, f3, f4, f5, HoP_c hF1 hch (by decide) (by decide) f6, ⟨dl, dx, dm, fl, fo, fm, ⟨by rw [hp_upn (by omega)]; exact s1, by rw [hp_upn lk]; exact s7, by rw [hp_upn xk]; exact s8, by rw [hp_upn mk]; exact f14⟩, f13⟩, f7, ⟨i, kA, sA, f', g, fw, by rw [hp_upn (by omega)]; exact s2, by rw [hp_upn (fun z => k48 z.symm)]; exact s3, f15, hlw, f16, hp_up1, by rw [hp_upn (fun z => w8 z.symm)]; exact s5, b1, s6, w2, w1, w8, w7, w5, f12.1, f12.2, f10⟩, fun d Q => ?_⟩
  rw [← et]
  have f19' := fun (Q : PQ) => f19 d Q
  have sm := Ro_sumLp (x2 := (encC c s : Int)) hK f9 f10 (show M.length ≤ nd1 by omega) f8 (fun x hx => (s9.1 x hx).1) s10 s1 s2 s4 s7 M.length 0 0 (by omega) (d + 11) Q
  rw [nc0, List.drop_zero, Int.zero_add] at sm
  simp (disch := omega) only [e_81_0, e_81_1, e_81_2, e_81_3, e_81_4, e_81_7, e_81_10, e_81_11, e_81_12, e_81_14, e_81_15, e_81_49, e_81_50, e_81_51, e_81_54, e_81_56, q45, q4, f19', sm, b2, s2, true_and, rwO_c, rwO_g0, rwO_k0, rwO_g1, rwO_k1, rwO_s1, rwO_g2, rwO_k2, rwO_s2, rwO_g3, rwO_k3, rwO_g4, rwO_k4, rwO_s4, rwO_g5, rwO_k5, rwO_g6, rwO_k6, dkO_c, dkO_g0, dkO_k0, dkO_s0, dkO_g1, dkO_k1, dkO_s1, dkO_g2, dkO_k2, dkO_s2, hoO_c, hoO_g0, hoO_k0, hoO_s0, hoO_g1, hoO_k1, hoO_s1, hoO_g2, hoO_k2, hoO_s2, hoO_g3, hoO_k3, hoO_g4, hoO_k4, hoO_g5, hoO_k5, hoO_g6, hoO_k6, hoO_g7, hoO_k7, hoO_g8, hoO_k8, hoO_g9, hoO_k9, hoO_s9, iup_s, iup_n, hp_up1, hp_upn, ne_eq, not_false_eq_true, sh_0, sh_1, sh_2, sh_3, sh_4, sh_5, sh_8, sh_15, sh_16, sh_24, Int.reducePow, Int.cast_ofNat_Int, w_of, wl_of, ltT, ltF, leT, leF, eqT, eqF, okF_0, okF_s, gF_0, gF_s, consC_o, sF_0, sF_s, clsO_o, inA_i, ldA_i, stA_i, inJ_l, ldJ_l, stJ_l, inR_r, ldR_r, stR_r, tgR_r, lenA_i, lenA_l, lenA_r, lenA_ex, nl_i, nl_o, nl_l, nl_n, wd_n, wd_i, wd_l, wd_o, fit_i, fit_l, fit_o, K_v, K_n, true_and, and_true, Nat.reduceAdd, Nat.reduceLeDiff, Nat.reduceEqDiff, Nat.reduceMul, Nat.reduceLT, reduceIte, true_or, or_true, cmp_lt, cmp_gt, cmp_eq, wb_0, b_01, cmp_lt', cmp_gt', cmp_eq', b_0, b_1, wb_1, Int.reduceSub, Int.reduceToNat, List.getD_cons_succ, List.getD_cons_zero, Int.reduceLE, Int.reduceLT, Int.reduceEq, Int.reduceNeg, Int.reduceAdd, Int.reduceMul, and_self, em_b, ne_eq, not_false_eq_true, not_true_eq_false]
  try rfl
theorem j_fillAll {r n : Nat} {v : Int} (hr : 10 ≤ r) (h3 : n < 2147483648) : ∀ (m k : Nat) (h : PH) (f : Int → Int), k + m = n → hp h r = aI 0 n (fillF f 0 k v) → ∀ d Q, WP d 325 5 [some (vr r), some (vi v), some (vi k), some (vi n)] [] h Q = Q none (hup h r (aI 0 n (fillF f 0 n v))) := by
  intro m
  induction m with
  | zero =>
    intro k h f hk hh d Q
    have e : k = n := by omega
    subst e
    rw [hup_self hh]
    rw [e_325_5]
    simp (disch := omega) only [e_325_6, e_325_7, e_325_20, iup_s, iup_n, hp_up1, hp_upn, ne_eq, not_false_eq_true, sh_0, sh_1, sh_2, sh_3, sh_4, sh_5, sh_8, sh_15, sh_16, sh_24, Int.reducePow, Int.cast_ofNat_Int, w_of, wl_of, ltT, ltF, leT, leF, eqT, eqF, okF_0, okF_s, gF_0, gF_s, consC_o, sF_0, sF_s, clsO_o, inA_i, ldA_i, stA_i, inJ_l, ldJ_l, stJ_l, inR_r, ldR_r, stR_r, tgR_r, lenA_i, lenA_l, lenA_r, lenA_ex, nl_i, nl_o, nl_l, nl_n, wd_n, wd_i, wd_l, wd_o, fit_i, fit_l, fit_o, K_v, K_n, true_and, and_true, Nat.reduceAdd, Nat.reduceLeDiff, Nat.reduceEqDiff, Nat.reduceMul, Nat.reduceLT, reduceIte, true_or, or_true, cmp_lt, cmp_gt, cmp_eq, wb_0, b_01, cmp_lt', cmp_gt', cmp_eq', b_0, b_1, wb_1, Int.reduceSub, Int.reduceToNat, List.getD_cons_succ, List.getD_cons_zero, Int.reduceLE, Int.reduceLT, Int.reduceEq, Int.reduceNeg, Int.reduceAdd, Int.reduceMul, and_self, em_b, ne_eq, not_false_eq_true, not_true_eq_false]
    try rfl
  | succ m ih =>
    intro k h f hk hh d Q
    have e1 : (k : Int) + 1 = ((k + 1 : Nat) : Int) := by omega
    have e2 : fset (fillF f 0 k v) (k : Nat) v = fillF f 0 ((k + 1 : Nat) : Int) v := by rw [fill_s (by omega), e1]
    have := ih (k + 1) (hup h r (aI 0 n (fillF f 0 ((k + 1 : Nat) : Int) v))) f (by omega) hp_up1 d Q
    rw [hup_tt] at this
    rw [← this]
    rw [e_325_5]
    simp (disch := omega) only [e_325_6, e_325_7, e_325_10, e_325_11, e_325_12, e_325_13, e_325_14, e_325_17, hh, e1, e2, hr, true_and, iup_s, iup_n, hp_up1, hp_upn, ne_eq, not_false_eq_true, sh_0, sh_1, sh_2, sh_3, sh_4, sh_5, sh_8, sh_15, sh_16, sh_24, Int.reducePow, Int.cast_ofNat_Int, w_of, wl_of, ltT, ltF, leT, leF, eqT, eqF, okF_0, okF_s, gF_0, gF_s, consC_o, sF_0, sF_s, clsO_o, inA_i, ldA_i, stA_i, inJ_l, ldJ_l, stJ_l, inR_r, ldR_r, stR_r, tgR_r, lenA_i, lenA_l, lenA_r, lenA_ex, nl_i, nl_o, nl_l, nl_n, wd_n, wd_i, wd_l, wd_o, fit_i, fit_l, fit_o, K_v, K_n, true_and, and_true, Nat.reduceAdd, Nat.reduceLeDiff, Nat.reduceEqDiff, Nat.reduceMul, Nat.reduceLT, reduceIte, true_or, or_true, cmp_lt, cmp_gt, cmp_eq, wb_0, b_01, cmp_lt', cmp_gt', cmp_eq', b_0, b_1, wb_1, Int.reduceSub, Int.reduceToNat, List.getD_cons_succ, List.getD_cons_zero, Int.reduceLE, Int.reduceLT, Int.reduceEq, Int.reduceNeg, Int.reduceAdd, Int.reduceMul, and_self, em_b, ne_eq, not_false_eq_true, not_true_eq_false]
    try rfl
