/-! THE CLASS: filling arrays, the desk -/
def fillF (f : Int → Int) (a b v : Int) : Int → Int := fun k => if a ≤ k ∧ k < b then v else f k
theorem fill_s {f : Int → Int} {a b v : Int} (h : a ≤ b) : fset (fillF f a b v) b v = fillF f a (b + 1) v := by
  funext k
  unfold fset fillF
  by_cases z : k = b
  · rw [if_pos z, if_pos ⟨by omega, by omega⟩]
  · rw [if_neg z]
    by_cases y : a ≤ k ∧ k < b
    · rw [if_pos y, if_pos ⟨y.1, by omega⟩]
    · rw [if_neg y, if_neg (fun u => y ⟨u.1, by omega⟩)]
theorem fill_0 {f : Int → Int} {a v : Int} : fillF f a a v = f := by
  funext k
  unfold fillF
  rw [if_neg (by omega)]
theorem hup_self {h : PH} {a : Nat} {c : PC} (e : hp h a = c) : hup h a c = h := by
  obtain ⟨x, y, z⟩ := h
  unfold hup
  congr 2
  funext k
  dsimp only
  by_cases q : k = a
  · rw [if_pos q, q]; exact e.symm
  · rw [if_neg q]
theorem j_rangeCheck {d : Nat} {h : PH} {Q : PQ} {n a b : Nat} (h1 : a ≤ b) (h2 : b ≤ n) (h3 : n < 2147483648) : WP d 323 0 [some (vi n), some (vi a), some (vi b)] [] h Q = Q none h := by
  simp (disch := omega) only [e_323_0, e_323_1, e_323_2, e_323_46, e_323_47, e_323_59, e_323_60, e_323_61, e_323_73, iup_s, iup_n, hp_up1, hp_upn, ne_eq, not_false_eq_true, sh_0, sh_1, sh_2, sh_3, sh_4, sh_5, sh_8, sh_15, sh_16, sh_24, Int.reducePow, Int.cast_ofNat_Int, w_of, wl_of, ltT, ltF, leT, leF, eqT, eqF, okF_0, okF_s, gF_0, gF_s, consC_o, sF_0, sF_s, clsO_o, inA_i, ldA_i, stA_i, inJ_l, ldJ_l, stJ_l, inR_r, ldR_r, stR_r, tgR_r, lenA_i, lenA_l, lenA_r, lenA_ex, nl_i, nl_o, nl_l, nl_n, wd_n, wd_i, wd_l, wd_o, fit_i, fit_l, fit_o, K_v, K_n, true_and, and_true, Nat.reduceAdd, Nat.reduceLeDiff, Nat.reduceEqDiff, Nat.reduceMul, Nat.reduceLT, reduceIte, true_or, or_true, cmp_lt, cmp_gt, cmp_eq, wb_0, b_01, cmp_lt', cmp_gt', cmp_eq', b_0, b_1, wb_1, Int.reduceSub, Int.reduceToNat, List.getD_cons_succ, List.getD_cons_zero, Int.reduceLE, Int.reduceLT, Int.reduceEq, Int.reduceNeg, Int.reduceAdd, Int.reduceMul, and_self, em_b, ne_eq, not_false_eq_true, not_true_eq_false]
theorem j_fillLp {d : Nat} {Q : PQ} {r n a b : Nat} {v : Int} {f : Int → Int} (hr : 10 ≤ r) (h2 : b ≤ n) (h3 : n < 2147483648) : ∀ (m k : Nat) (h : PH), k + m = b → a ≤ k → hp h r = aI 0 n (fillF f a k v) → -2147483648 ≤ v → v < 2147483648 → WP d 326 10 [some (vr r), some (vi a), some (vi b), some (vi v), some (vi k)] [] h Q = Q none (hup h r (aI 0 n (fillF f a b v))) := by
  intro m
  induction m with
  | zero =>
    intro k h hk hak hh v1 v2
    have e : k = b := by omega
    subst e
    rw [hup_self hh]
    rw [e_326_10]
    simp (disch := omega) only [e_326_12, e_326_13, e_326_27, iup_s, iup_n, hp_up1, hp_upn, ne_eq, not_false_eq_true, sh_0, sh_1, sh_2, sh_3, sh_4, sh_5, sh_8, sh_15, sh_16, sh_24, Int.reducePow, Int.cast_ofNat_Int, w_of, wl_of, ltT, ltF, leT, leF, eqT, eqF, okF_0, okF_s, gF_0, gF_s, consC_o, sF_0, sF_s, clsO_o, inA_i, ldA_i, stA_i, inJ_l, ldJ_l, stJ_l, inR_r, ldR_r, stR_r, tgR_r, lenA_i, lenA_l, lenA_r, lenA_ex, nl_i, nl_o, nl_l, nl_n, wd_n, wd_i, wd_l, wd_o, fit_i, fit_l, fit_o, K_v, K_n, true_and, and_true, Nat.reduceAdd, Nat.reduceLeDiff, Nat.reduceEqDiff, Nat.reduceMul, Nat.reduceLT, reduceIte, true_or, or_true, cmp_lt, cmp_gt, cmp_eq, wb_0, b_01, cmp_lt', cmp_gt', cmp_eq', b_0, b_1, wb_1, Int.reduceSub, Int.reduceToNat, List.getD_cons_succ, List.getD_cons_zero, Int.reduceLE, Int.reduceLT, Int.reduceEq, Int.reduceNeg, Int.reduceAdd, Int.reduceMul, and_self, em_b, ne_eq, not_false_eq_true, not_true_eq_false]
  | succ m ih =>
    intro k h hk hak hh v1 v2
    have e1 : (k : Int) + 1 = ((k + 1 : Nat) : Int) := by omega
    have e2 : fset (fillF f a k v) (k : Nat) v = fillF f a ((k + 1 : Nat) : Int) v := by rw [fill_s (by omega), e1]
    have := ih (k + 1) (hup h r (aI 0 n (fillF f a ((k + 1 : Nat) : Int) v))) (by omega) (by omega) hp_up1 v1 v2
    rw [hup_tt] at this
    rw [← this]
    rw [e_326_10]
    simp (disch := omega) only [e_326_12, e_326_13, e_326_16, e_326_17, e_326_19, e_326_20, e_326_21, e_326_24, hh, e1, e2, hr, true_and, iup_s, iup_n, hp_up1, hp_upn, ne_eq, not_false_eq_true, sh_0, sh_1, sh_2, sh_3, sh_4, sh_5, sh_8, sh_15, sh_16, sh_24, Int.reducePow, Int.cast_ofNat_Int, w_of, wl_of, ltT, ltF, leT, leF, eqT, eqF, okF_0, okF_s, gF_0, gF_s, consC_o, sF_0, sF_s, clsO_o, inA_i, ldA_i, stA_i, inJ_l, ldJ_l, stJ_l, inR_r, ldR_r, stR_r, tgR_r, lenA_i, lenA_l, lenA_r, lenA_ex, nl_i, nl_o, nl_l, nl_n, wd_n, wd_i, wd_l, wd_o, fit_i, fit_l, fit_o, K_v, K_n, true_and, and_true, Nat.reduceAdd, Nat.reduceLeDiff, Nat.reduceEqDiff, Nat.reduceMul, Nat.reduceLT, reduceIte, true_or, or_true, cmp_lt, cmp_gt, cmp_eq, wb_0, b_01, cmp_lt', cmp_gt', cmp_eq', b_0, b_1, wb_1, Int.reduceSub, Int.reduceToNat, List.getD_cons_succ, List.getD_cons_zero, Int.reduceLE, Int.reduceLT, Int.reduceEq, Int.reduceNeg, Int.reduceAdd, Int.reduceMul, and_self, em_b, ne_eq, not_false_eq_true, not_true_eq_false]
    try rfl
theorem j_fill {d : Nat} {Q : PQ} {h : PH} {r n a b : Nat} {v : Int} {f : Int → Int} (hr : 10 ≤ r) (h1 : a ≤ b) (h2 : b ≤ n) (h3 : n < 2147483648) (hh : hp h r = aI 0 n f) (v1 : -2147483648 ≤ v) (v2 : v < 2147483648) : WP (d + 1) 326 0 [some (vr r), some (vi a), some (vi b), some (vi v), none] [] h Q = Q none (hup h r (aI 0 n (fillF f a b v))) := by
  have rc := fun (d : Nat) (Q : PQ) => j_rangeCheck (d := d) (h := h) (Q := Q) h1 h2 h3
  have := j_fillLp (d := d + 1) (Q := Q) (v := v) (f := f) hr h2 h3 (b - a) a h (by omega) (Nat.le_refl _) (by rw [fill_0]; exact hh) v1 v2
  rw [← this]
  simp (disch := omega) only [e_326_0, e_326_1, e_326_2, e_326_3, e_326_4, e_326_7, e_326_8, hh, rc, iup_s, iup_n, hp_up1, hp_upn, ne_eq, not_false_eq_true, sh_0, sh_1, sh_2, sh_3, sh_4, sh_5, sh_8, sh_15, sh_16, sh_24, Int.reducePow, Int.cast_ofNat_Int, w_of, wl_of, ltT, ltF, leT, leF, eqT, eqF, okF_0, okF_s, gF_0, gF_s, consC_o, sF_0, sF_s, clsO_o, inA_i, ldA_i, stA_i, inJ_l, ldJ_l, stJ_l, inR_r, ldR_r, stR_r, tgR_r, lenA_i, lenA_l, lenA_r, lenA_ex, nl_i, nl_o, nl_l, nl_n, wd_n, wd_i, wd_l, wd_o, fit_i, fit_l, fit_o, K_v, K_n, true_and, and_true, Nat.reduceAdd, Nat.reduceLeDiff, Nat.reduceEqDiff, Nat.reduceMul, Nat.reduceLT, reduceIte, true_or, or_true, cmp_lt, cmp_gt, cmp_eq, wb_0, b_01, cmp_lt', cmp_gt', cmp_eq', b_0, b_1, wb_1, Int.reduceSub, Int.reduceToNat, List.getD_cons_succ, List.getD_cons_zero, Int.reduceLE, Int.reduceLT, Int.reduceEq, Int.reduceNeg, Int.reduceAdd, Int.reduceMul, and_self, em_b, ne_eq, not_false_eq_true, not_true_eq_false]
  try rfl
def deH (h : PH) (l o m n : Nat) (fl fo fm : Int → Int) : Prop := hp h 34 = dkO (vr l) (vr o) (vr m) ∧ hp h l = aI 0 n fl ∧ hp h o = aI 0 n fo ∧ hp h m = aI 0 n fm
def deW (ow : Nat → Nat) (h : PH) (l o m n : Nat) : Prop := ow l = 2 ∧ ow o = 2 ∧ ow m = 2 ∧ l ≠ o ∧ l ≠ m ∧ o ≠ m ∧ 34 < l ∧ 34 < o ∧ 34 < m ∧ l < h.1 ∧ o < h.1 ∧ m < h.1 ∧ n ≤ 24000
def DesP (ow : Nat → Nat) (h : PH) (n : Nat) : Prop := ∃ (l o m : Nat) (fl fo fm : Int → Int), deH h l o m n fl fo fm ∧ deW ow h l o m n
theorem tg_34 {ow : Nat → Nat} {h : PH} (hF : owF ow h) : ow 34 = 2 := hF.2 34 (by have := hF.1; omega)
theorem mk_hup3 {h : PH} {a n m r : Nat} {x y u v : PC} (hne : a ≠ h.1 + 1 + 1) : mk1 (hup (mk1 (mk1 h m u) r v) a x) n y = hup (mk1 (mk1 (mk1 h m u) r v) n y) a x := mk_hup hne
theorem hp_mk3 {h : PH} {b n m r : Nat} {y u v : PC} (hne : b ≠ h.1 + 1 + 1) : hp (mk1 (mk1 (mk1 h m u) r v) n y) b = hp (mk1 (mk1 h m u) r v) b := hp_mkn hne
theorem hp_mk123 {h : PH} {n m r : Nat} {y u v : PC} : hp (mk1 (mk1 (mk1 h m u) r v) n y) (h.1 + 1 + 1) = y := if_pos rfl
theorem D_fit {ow : Nat → Nat} {h : PH} {n z : Nat} (hF : owF ow h) (hD : DesP ow h n) (hz : z ≤ 24000) :
    ∃ (h' : PH) (ow' : Nat → Nat) (n' : Nat), extO ow h ow' h' [2] ∧ (∀ k, h.1 ≤ k → k < h'.1 → ow' k = 2) ∧ ((n' = n ∧ h' = h ∧ ow' = ow) ∨ (n < n' ∧ n' = z ∧ h'.1 = h.1 + 3 ∧ h'.2.1 = h.2.1 + z + z + z)) ∧ DesP ow' h' n' ∧ z ≤ n' ∧ ∀ d Q, WP d 32 0 [some (vr 34), some (vi z)] [] h Q = Q none h' := by
  have hD' := hD
  obtain ⟨l, o, m, fl, fo, fm, ⟨c1, c2, c3, c4⟩, w1, w2, w3, w4, w5, w6, w7, w8, w9, w10, w11, w12, w13⟩ := hD
  have h90 := hF.1
  by_cases hn : z ≤ n
  · refine ⟨h, ow, n, ext_r, fun k k1 k2 => by omega, Or.inl ⟨rfl, rfl, rfl⟩, hD', hn, fun d Q => ?_⟩
    simp (disch := omega) only [e_32_0, e_32_1, e_32_4, e_32_5, e_32_6, e_32_30, c1, c2, dkO_c, dkO_g0, dkO_k0, dkO_s0, dkO_g1, dkO_k1, dkO_s1, dkO_g2, dkO_k2, dkO_s2, iup_s, iup_n, hp_up1, hp_upn, ne_eq, not_false_eq_true, sh_0, sh_1, sh_2, sh_3, sh_4, sh_5, sh_8, sh_15, sh_16, sh_24, Int.reducePow, Int.cast_ofNat_Int, w_of, wl_of, ltT, ltF, leT, leF, eqT, eqF, okF_0, okF_s, gF_0, gF_s, consC_o, sF_0, sF_s, clsO_o, inA_i, ldA_i, stA_i, inJ_l, ldJ_l, stJ_l, inR_r, ldR_r, stR_r, tgR_r, lenA_i, lenA_l, lenA_r, lenA_ex, nl_i, nl_o, nl_l, nl_n, wd_n, wd_i, wd_l, wd_o, fit_i, fit_l, fit_o, K_v, K_n, true_and, and_true, Nat.reduceAdd, Nat.reduceLeDiff, Nat.reduceEqDiff, Nat.reduceMul, Nat.reduceLT, reduceIte, true_or, or_true, cmp_lt, cmp_gt, cmp_eq, wb_0, b_01, cmp_lt', cmp_gt', cmp_eq', b_0, b_1, wb_1, Int.reduceSub, Int.reduceToNat, List.getD_cons_succ, List.getD_cons_zero, Int.reduceLE, Int.reduceLT, Int.reduceEq, Int.reduceNeg, Int.reduceAdd, Int.reduceMul, and_self, em_b, ne_eq, not_false_eq_true, not_true_eq_false]
  · have z1 : 0 ≤ (z : Int) := by omega
    have z2 : (z : Int) ≤ 500000 := by omega
    refine ⟨hup (mk1 (mk1 (mk1 h z (aI 0 z (fun _ => 0))) z (aI 0 z (fun _ => 0))) z (aI 0 z (fun _ => 0))) 34 (dkO (vr h.1) (vr (h.1 + 1)) (vr (h.1 + 1 + 1))), (fun k => if k < h.1 then ow k else 2), z, ⟨by show h.1 ≤ h.1 + 1 + 1 + 1; omega, fun k hk => if_pos hk, fun k k1 k2 => ?_⟩, fun k k1 k2 => if_neg (by omega), Or.inr ⟨by omega, rfl, rfl, rfl⟩, ?_, Nat.le_refl _, fun d Q => ?_⟩
    · have hne : k ≠ 34 := fun e => k2 (by rw [e, tg_34 hF]; decide)
      rw [hp_upn hne, hp_mk3 (by omega), hp_mk2 (by omega), hp_mkn (by omega)]
    · refine ⟨h.1, h.1 + 1, h.1 + 1 + 1, (fun _ => 0), (fun _ => 0), (fun _ => 0), ⟨hp_up1, by rw [hp_upn (by omega), hp_mk3 (by omega), hp_mk2 (by omega), hp_mk1], by rw [hp_upn (by omega), hp_mk3 (by omega), hp_mk12], by rw [hp_upn (by omega), hp_mk123]⟩, if_neg (by omega), if_neg (by omega), if_neg (by omega), by omega, by omega, by omega, by omega, by omega, by omega, by show h.1 < h.1 + 1 + 1 + 1; omega, by show h.1 + 1 < h.1 + 1 + 1 + 1; omega, by show h.1 + 1 + 1 < h.1 + 1 + 1 + 1; omega, hz⟩
    · simp (disch := omega) only [e_32_0, e_32_1, e_32_4, e_32_5, e_32_6, e_32_9, e_32_10, e_32_11, e_32_13, e_32_16, e_32_17, e_32_18, e_32_20, e_32_23, e_32_24, e_32_25, e_32_27, e_32_30, c1, c2, c3, c4, true_and, z1, z2, hup_n1, mk1_n1, hp_mk1, hp_mkn, hp_mk2, hp_mk12, hp_mk3, hp_mk123, mk_hup, mk_hup2, mk_hup3, hup_tt, Int.toNat_natCast, dkO_c, dkO_g0, dkO_k0, dkO_s0, dkO_g1, dkO_k1, dkO_s1, dkO_g2, dkO_k2, dkO_s2, iup_s, iup_n, hp_up1, hp_upn, ne_eq, not_false_eq_true, sh_0, sh_1, sh_2, sh_3, sh_4, sh_5, sh_8, sh_15, sh_16, sh_24, Int.reducePow, Int.cast_ofNat_Int, w_of, wl_of, ltT, ltF, leT, leF, eqT, eqF, okF_0, okF_s, gF_0, gF_s, consC_o, sF_0, sF_s, clsO_o, inA_i, ldA_i, stA_i, inJ_l, ldJ_l, stJ_l, inR_r, ldR_r, stR_r, tgR_r, lenA_i, lenA_l, lenA_r, lenA_ex, nl_i, nl_o, nl_l, nl_n, wd_n, wd_i, wd_l, wd_o, fit_i, fit_l, fit_o, K_v, K_n, true_and, and_true, Nat.reduceAdd, Nat.reduceLeDiff, Nat.reduceEqDiff, Nat.reduceMul, Nat.reduceLT, reduceIte, true_or, or_true, cmp_lt, cmp_gt, cmp_eq, wb_0, b_01, cmp_lt', cmp_gt', cmp_eq', b_0, b_1, wb_1, Int.reduceSub, Int.reduceToNat, List.getD_cons_succ, List.getD_cons_zero, Int.reduceLE, Int.reduceLT, Int.reduceEq, Int.reduceNeg, Int.reduceAdd, Int.reduceMul, and_self, em_b, ne_eq, not_false_eq_true, not_true_eq_false]
      try rfl
theorem D_clear {ow : Nat → Nat} {h : PH} {l o m n z : Nat} {fl fo fm : Int → Int} (hF : owF ow h) (hH : deH h l o m n fl fo fm) (hW : deW ow h l o m n) (hz : z ≤ n) :
    ∀ d Q, WP (d + 2) 34 0 [some (vr 34), some (vi z)] [] h Q = Q none (hup h m (aI 0 n (fillF fm 0 z 0))) := by
  obtain ⟨c1, c2, c3, c4⟩ := hH
  obtain ⟨w1, w2, w3, w4, w5, w6, w7, w8, w9, w10, w11, w12, w13⟩ := hW
  intro d Q
  have fl := fun (d : Nat) (Q : PQ) => j_fill (d := d) (Q := Q) (h := h) (r := m) (a := 0) (b := z) (v := 0) (by omega) (by omega) hz (by omega) c4 (by omega) (by omega)
  rw [nc0] at fl
  have e : (if (n : Int) < (z : Int) then (n : Int) else (z : Int)) = (z : Int) := if_neg (by omega)
  simp (disch := omega) only [e_34_0, e_34_1, e_34_4, e_34_5, e_34_6, e_34_7, e_34_10, e_34_11, e_34_14, e_34_15, e_34_18, c1, c4, m_min, e, fl, dkO_c, dkO_g0, dkO_k0, dkO_s0, dkO_g1, dkO_k1, dkO_s1, dkO_g2, dkO_k2, dkO_s2, iup_s, iup_n, hp_up1, hp_upn, ne_eq, not_false_eq_true, sh_0, sh_1, sh_2, sh_3, sh_4, sh_5, sh_8, sh_15, sh_16, sh_24, Int.reducePow, Int.cast_ofNat_Int, w_of, wl_of, ltT, ltF, leT, leF, eqT, eqF, okF_0, okF_s, gF_0, gF_s, consC_o, sF_0, sF_s, clsO_o, inA_i, ldA_i, stA_i, inJ_l, ldJ_l, stJ_l, inR_r, ldR_r, stR_r, tgR_r, lenA_i, lenA_l, lenA_r, lenA_ex, nl_i, nl_o, nl_l, nl_n, wd_n, wd_i, wd_l, wd_o, fit_i, fit_l, fit_o, K_v, K_n, true_and, and_true, Nat.reduceAdd, Nat.reduceLeDiff, Nat.reduceEqDiff, Nat.reduceMul, Nat.reduceLT, reduceIte, true_or, or_true, cmp_lt, cmp_gt, cmp_eq, wb_0, b_01, cmp_lt', cmp_gt', cmp_eq', b_0, b_1, wb_1, Int.reduceSub, Int.reduceToNat, List.getD_cons_succ, List.getD_cons_zero, Int.reduceLE, Int.reduceLT, Int.reduceEq, Int.reduceNeg, Int.reduceAdd, Int.reduceMul, and_self, em_b, ne_eq, not_false_eq_true, not_true_eq_false]
  try rfl
theorem D_turn {h : PH} {l o m : Nat} (hl : 34 < l) (c1 : hp h 34 = dkO (vr l) (vr o) (vr m)) :
    ∀ d Q, WP d 33 0 [some (vr 34), none] [] h Q = Q none (hup h 34 (dkO (vr o) (vr l) (vr m))) := by
  intro d Q
  have l9 : ¬ l = 9 := by omega
  simp (disch := omega) only [e_33_0, e_33_1, e_33_4, e_33_5, e_33_6, e_33_7, e_33_10, e_33_13, e_33_14, e_33_15, e_33_18, c1, hup_tt, l9, not_false_eq_true, true_and, dkO_c, dkO_g0, dkO_k0, dkO_s0, dkO_g1, dkO_k1, dkO_s1, dkO_g2, dkO_k2, dkO_s2, iup_s, iup_n, hp_up1, hp_upn, ne_eq, not_false_eq_true, sh_0, sh_1, sh_2, sh_3, sh_4, sh_5, sh_8, sh_15, sh_16, sh_24, Int.reducePow, Int.cast_ofNat_Int, w_of, wl_of, ltT, ltF, leT, leF, eqT, eqF, okF_0, okF_s, gF_0, gF_s, consC_o, sF_0, sF_s, clsO_o, inA_i, ldA_i, stA_i, inJ_l, ldJ_l, stJ_l, inR_r, ldR_r, stR_r, tgR_r, lenA_i, lenA_l, lenA_r, lenA_ex, nl_i, nl_o, nl_l, nl_n, wd_n, wd_i, wd_l, wd_o, fit_i, fit_l, fit_o, K_v, K_n, true_and, and_true, Nat.reduceAdd, Nat.reduceLeDiff, Nat.reduceEqDiff, Nat.reduceMul, Nat.reduceLT, reduceIte, true_or, or_true, cmp_lt, cmp_gt, cmp_eq, wb_0, b_01, cmp_lt', cmp_gt', cmp_eq', b_0, b_1, wb_1, Int.reduceSub, Int.reduceToNat, List.getD_cons_succ, List.getD_cons_zero, Int.reduceLE, Int.reduceLT, Int.reduceEq, Int.reduceNeg, Int.reduceAdd, Int.reduceMul, and_self, em_b, ne_eq, not_false_eq_true, not_true_eq_false]
  try rfl
