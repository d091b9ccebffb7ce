/-! THE CLASS: numbers, write, lists -/
section parts
variable {kc : Nat → KC} {ow : Nat → Nat} {M : MS} {S0 e k : Nat}
theorem bk_t0 {h h' : PH} {T : TT} (hB : bkI kc ow h M S0 e k) (hx : chg ow [12] h h') (hT : TrP h' T) : bkI kc ow h' (setT M T) S0 e k ∧ extO ow h ow h' allT := by
  obtain ⟨hF, ⟨s1, ⟨ca, k1, s2⟩, ⟨i65, p65, s3⟩, s4, s5, s6, s7, s8⟩, ⟨ca0, sky0, hH⟩, he0, nd, nc, nk, nr, nb, hE, hR⟩ := hB
  have hx' := ext_c hx
  have h90 := hF.1
  obtain ⟨t64, t65, -⟩ := tg_64 hF
  exact ⟨⟨ext_F hx' hF, ⟨BkO_e hF hx' (by decide) s1, ⟨ca, k1, MoP_e hx' (by omega) (by decide) (by rw [t64]; decide) s2⟩, ⟨i65, p65, by rw [hx'.2.2 65 (by omega) (by rw [t65]; decide)]; exact s3⟩, ImP_e hF hx' (by decide) (by decide) s4, PaP_e hF hx' (by decide) s5, hT, TkP_e hF hx' (by decide) s7, RdP_e hF hx' (by decide) s8⟩, ⟨ca0, sky0, HoP_c hF hx (by decide) (by decide) hH⟩, by omega, nd, nc, nk, nr, nb, EngP_e hF hx' (by decide) hE, room_same hx.1 hx.2.1 hR⟩, ext_w hx' (by decide)⟩
theorem bk_t {h h' : PH} {T : TT} (hB : bkI kc ow h M S0 e k) (hx : chg ow [12] h h') (hT : TrP h' T) : bkI kc ow h' (setT M T) S0 e (k + 1) ∧ extO ow h ow h' allT := by
  obtain ⟨q1, q2⟩ := bk_t0 hB hx hT
  exact ⟨bk_same q1, q2⟩
theorem ComV_c {h h' : PH} {ca : Nat} {c : KC} {sky sr n : Nat} {s0 : ST} {QL : List QE} {T : List Nat} (hF : owF ow h) (hc : chg ow T h h') (ht : ¬ 3 ∈ T) (hV : ComV ow h ca c sky s0 QL sr n) : ComV ow h' ca c sky s0 QL sr n := by
  obtain ⟨i, q, g, fq, fg, ⟨c1, c2, c3⟩, ⟨w1, w2, w3, w4, w5, w6, w7, w8⟩, r⟩ := hV
  exact ⟨i, q, g, fq, fg, ⟨by rw [chg_at hc (tg_38 hF) ht]; exact c1, by rw [chg_at hc w1 ht]; exact c2, by rw [chg_at hc w2 ht]; exact c3⟩, ⟨w1, w2, w3, w4, w5, by rw [hc.1]; exact w6, by rw [hc.1]; exact w7, w8⟩, r⟩
theorem j_fillJLp {d : Nat} {Q : PQ} {r n a b : Nat} {v : Int} {f : Int → Int} (hr : 10 ≤ r) (h2 : b ≤ n) (h3 : n < 2147483648) : ∀ (m k : Nat) (h : PH), k + m = b → a ≤ k → hp h r = aL n (fillF f a k v) → WP d 324 10 [some (vr r), some (vi a), some (vi b), some (vl v), none, some (vi k)] [] h Q = Q none (hup h r (aL n (fillF f a b v))) := by
  intro m
  induction m with
  | zero =>
    intro k h hk hak hh
    have e : k = b := by omega
    subst e
    rw [hup_self hh]
    rw [e_324_10]
    simp (disch := omega) only [e_324_12, e_324_13, e_324_27, iup_s, iup_n, hp_up1, hp_upn, ne_eq, not_false_eq_true, sh_0, sh_1, sh_2, sh_3, sh_4, sh_5, sh_8, sh_15, sh_16, sh_24, Int.reducePow, Int.cast_ofNat_Int, w_of, wl_of, ltT, ltF, leT, leF, eqT, eqF, okF_0, okF_s, gF_0, gF_s, consC_o, sF_0, sF_s, clsO_o, inA_i, ldA_i, stA_i, inJ_l, ldJ_l, stJ_l, inR_r, ldR_r, stR_r, tgR_r, lenA_i, lenA_l, lenA_r, lenA_ex, nl_i, nl_o, nl_l, nl_n, wd_n, wd_i, wd_l, wd_o, fit_i, fit_l, fit_o, K_v, K_n, true_and, and_true, Nat.reduceAdd, Nat.reduceLeDiff, Nat.reduceEqDiff, Nat.reduceMul, Nat.reduceLT, reduceIte, true_or, or_true, cmp_lt, cmp_gt, cmp_eq, wb_0, b_01, cmp_lt', cmp_gt', cmp_eq', b_0, b_1, wb_1, Int.reduceSub, Int.reduceToNat, List.getD_cons_succ, List.getD_cons_zero, Int.reduceLE, Int.reduceLT, Int.reduceEq, Int.reduceNeg, Int.reduceAdd, Int.reduceMul, and_self, em_b, ne_eq, not_false_eq_true, not_true_eq_false]
  | succ m ih =>
    intro k h hk hak hh
    have e1 : (k : Int) + 1 = ((k + 1 : Nat) : Int) := by omega
    have e2 : fset (fillF f a k v) (k : Nat) v = fillF f a ((k + 1 : Nat) : Int) v := by rw [fill_s (by omega), e1]
    have := ih (k + 1) (hup h r (aL n (fillF f a ((k + 1 : Nat) : Int) v))) (by omega) (by omega) hp_up1
    rw [hup_tt] at this
    rw [← this]
    rw [e_324_10]
    simp (disch := omega) only [e_324_12, e_324_13, e_324_16, e_324_17, e_324_19, e_324_20, e_324_21, e_324_24, hh, e1, e2, hr, true_and, iup_s, iup_n, hp_up1, hp_upn, ne_eq, not_false_eq_true, sh_0, sh_1, sh_2, sh_3, sh_4, sh_5, sh_8, sh_15, sh_16, sh_24, Int.reducePow, Int.cast_ofNat_Int, w_of, wl_of, ltT, ltF, leT, leF, eqT, eqF, okF_0, okF_s, gF_0, gF_s, consC_o, sF_0, sF_s, clsO_o, inA_i, ldA_i, stA_i, inJ_l, ldJ_l, stJ_l, inR_r, ldR_r, stR_r, tgR_r, lenA_i, lenA_l, lenA_r, lenA_ex, nl_i, nl_o, nl_l, nl_n, wd_n, wd_i, wd_l, wd_o, fit_i, fit_l, fit_o, K_v, K_n, true_and, and_true, Nat.reduceAdd, Nat.reduceLeDiff, Nat.reduceEqDiff, Nat.reduceMul, Nat.reduceLT, reduceIte, true_or, or_true, cmp_lt, cmp_gt, cmp_eq, wb_0, b_01, cmp_lt', cmp_gt', cmp_eq', b_0, b_1, wb_1, Int.reduceSub, Int.reduceToNat, List.getD_cons_succ, List.getD_cons_zero, Int.reduceLE, Int.reduceLT, Int.reduceEq, Int.reduceNeg, Int.reduceAdd, Int.reduceMul, and_self, em_b, ne_eq, not_false_eq_true, not_true_eq_false]
    try rfl
theorem j_fillJ {d : Nat} {Q : PQ} {h : PH} {r n a b : Nat} {v : Int} {f : Int → Int} (hr : 10 ≤ r) (h1 : a ≤ b) (h2 : b ≤ n) (h3 : n < 2147483648) (hh : hp h r = aL n f) : WP (d + 1) 324 0 [some (vr r), some (vi a), some (vi b), some (vl v), none, none] [] h Q = Q none (hup h r (aL n (fillF f a b v))) := by
  have rc := fun (d : Nat) (Q : PQ) => j_rangeCheck (d := d) (h := h) (Q := Q) h1 h2 h3
  have := j_fillJLp (d := d + 1) (Q := Q) (v := v) (f := f) hr h2 h3 (b - a) a h (by omega) (Nat.le_refl _) (by rw [fill_0]; exact hh)
  rw [← this]
  simp (disch := omega) only [e_324_0, e_324_1, e_324_2, e_324_3, e_324_4, e_324_7, e_324_8, hh, rc, iup_s, iup_n, hp_up1, hp_upn, ne_eq, not_false_eq_true, sh_0, sh_1, sh_2, sh_3, sh_4, sh_5, sh_8, sh_15, sh_16, sh_24, Int.reducePow, Int.cast_ofNat_Int, w_of, wl_of, ltT, ltF, leT, leF, eqT, eqF, okF_0, okF_s, gF_0, gF_s, consC_o, sF_0, sF_s, clsO_o, inA_i, ldA_i, stA_i, inJ_l, ldJ_l, stJ_l, inR_r, ldR_r, stR_r, tgR_r, lenA_i, lenA_l, lenA_r, lenA_ex, nl_i, nl_o, nl_l, nl_n, wd_n, wd_i, wd_l, wd_o, fit_i, fit_l, fit_o, K_v, K_n, true_and, and_true, Nat.reduceAdd, Nat.reduceLeDiff, Nat.reduceEqDiff, Nat.reduceMul, Nat.reduceLT, reduceIte, true_or, or_true, cmp_lt, cmp_gt, cmp_eq, wb_0, b_01, cmp_lt', cmp_gt', cmp_eq', b_0, b_1, wb_1, Int.reduceSub, Int.reduceToNat, List.getD_cons_succ, List.getD_cons_zero, Int.reduceLE, Int.reduceLT, Int.reduceEq, Int.reduceNeg, Int.reduceAdd, Int.reduceMul, and_self, em_b, ne_eq, not_false_eq_true, not_true_eq_false]
  try rfl
theorem tyO_new {T : TT} {fn fs fo : Int → Int} {t so n : Nat} (r4 : tyO T fn fs fo) (ht : t < 4) (hs : so < 4) (hn : n ≤ 40) : tyO (upT T t (some (so, List.replicate n 0))) (fillF fn ((40 * t : Nat) : Int) ((40 * t + n : Nat) : Int) 0) (fset fs t n) (fset fo t so) := by
  intro j hj
  by_cases w : j = t
  · subst w
    rw [upT_s]
    refine ⟨by rw [fs_same, List.length_replicate], by rw [fs_same], hs, by rw [List.length_replicate]; exact hn, fun m y hy => ?_⟩
    have hm := (List.getElem?_eq_some_iff.mp hy).1
    rw [List.length_replicate] at hm
    rw [List.getElem?_replicate, if_pos hm] at hy
    cases hy
    unfold fillF
    rw [if_pos (by omega)]
    exact ⟨rfl, by unfold i64; omega⟩
  · rw [upT_n w]
    cases e2 : T j with
    | none => show fset fs t n (j : Int) = -1; rw [fs_ne (by omega)]; exact tr_none r4 hj e2
    | some y =>
      obtain ⟨so', l'⟩ := y
      obtain ⟨a1, a2, a3, a4, a5⟩ := tr_some r4 hj e2
      refine ⟨by rw [fs_ne (by omega)]; exact a1, by rw [fs_ne (by omega)]; exact a2, a3, a4, fun m y hy => ?_⟩
      have hm := (List.getElem?_eq_some_iff.mp hy).1
      unfold fillF
      rw [if_neg (by omega)]
      exact a5 m y hy
theorem tyO_set {T : TT} {fn fs fo : Int → Int} {t so q : Nat} {l : List Int} {x : Int} (r4 : tyO T fn fs fo) (ht : t < 4) (e : T t = some (so, l)) (hq : q < l.length) (hx : i64 x) : tyO (upT T t (some (so, l.set q x))) (fset fn ((40 * t + q : Nat) : Int) x) fs fo := by
  intro j hj
  obtain ⟨a1, a2, a3, a4, a5⟩ := tr_some r4 ht e
  by_cases w : j = t
  · subst w
    rw [upT_s]
    refine ⟨by rw [List.length_set]; exact a1, a2, a3, by rw [List.length_set]; exact a4, fun m y hy => ?_⟩
    by_cases z : m = q
    · subst z
      rw [List.getElem?_set_self hq] at hy
      cases hy
      rw [fs_same]; exact ⟨rfl, hx⟩
    · rw [List.getElem?_set_ne (fun w => z w.symm)] at hy
      rw [fs_ne (by omega)]; exact a5 m y hy
  · rw [upT_n w]
    cases e2 : T j with
    | none => exact tr_none r4 hj e2
    | some y =>
      obtain ⟨so', l'⟩ := y
      obtain ⟨b1, b2, b3, b4, b5⟩ := tr_some r4 hj e2
      refine ⟨b1, b2, b3, b4, fun m y hy => ?_⟩
      have hm := (List.getElem?_eq_some_iff.mp hy).1
      rw [fs_ne (by omega)]; exact b5 m y hy
theorem C_numbers {h : PH} {x y n : Int} (hB : bkI kc ow h M S0 e k) (h1 : -2147483648 ≤ x) (h2 : x < 2147483648) (h3 : -2147483648 ≤ y) (h4 : y < 2147483648) (h5 : -2147483648 ≤ n) (h6 : n < 2147483648) : cRes ow h S0 k 145 [some (vr 10), some (vi x), some (vi y), some (vi n), none] vi (fun v M' => (v, M') = numF M x y n) := by
  have hB' := hB
  obtain ⟨hF, ⟨⟨i, b1, b2, b3, b4⟩, -, -, -, -, ⟨fn, fs, fo, r1, r2, r3, r4⟩, -⟩, -⟩ := hB
  have it := C_isTray (h := h) h1 h2
  obtain ⟨-, -, -, -, t68, t69, t70, -⟩ := tg_64 hF
  unfold numF
  by_cases qx : 0 ≤ x ∧ x ≤ 3
  · simp only [qx, and_self, if_true] at it
    by_cases qy : 0 ≤ y ∧ y ≤ 3
    · rw [if_pos ⟨qx, qy⟩]
      obtain ⟨qy1, qy2⟩ := qy
      by_cases qn : 0 ≤ n ∧ n ≤ 40
      · rw [if_pos qn]
        obtain ⟨t, rfl⟩ : ∃ t : Nat, x = (t : Int) := ⟨x.toNat, by omega⟩
        obtain ⟨so, rfl⟩ : ∃ t : Nat, y = (t : Int) := ⟨y.toNat, by omega⟩
        obtain ⟨nn, rfl⟩ : ∃ t : Nat, n = (t : Int) := ⟨n.toNat, by omega⟩
        rw [Int.toNat_natCast, Int.toNat_natCast, Int.toNat_natCast]
        have hch : chg ow [12] h (hup (hup (hup h 69 (aI 0 4 (fset fs t nn))) 70 (aI 0 4 (fset fo t so))) 68 (aL 160 (fillF fn ((40 * t : Nat) : Int) ((40 * t + nn : Nat) : Int) 0))) := chg_t (chg_t (chg_up t69 (by decide)) (chg_up t70 (by decide))) (chg_up t68 (by decide))
        obtain ⟨q1, q2⟩ := bk_t (T := upT (mT M) t (some (so, List.replicate nn 0))) hB' hch ⟨_, _, _, hp_up1, by rw [hp_upn (by omega), hp_upn (by omega), hp_up1], by rw [hp_upn (by omega), hp_up1], tyO_new r4 (by omega) (by omega) (by omega)⟩
        refine ⟨kc, ow, _, e, 0, _, rfl, q1, q2, fun d Q => ?_⟩
        have e1 : (t : Int) * 40 = ((40 * t : Nat) : Int) := by omega
        have e2 : ((40 * t : Nat) : Int) + (nn : Int) = ((40 * t + nn : Nat) : Int) := by omega
        have fl := fun (d : Nat) (Q : PQ) => j_fillJ (d := d) (h := hup (hup h 69 (aI 0 4 (fset fs t nn))) 70 (aI 0 4 (fset fo t so))) (Q := Q) (r := 68) (n := 160) (a := 40 * t) (b := 40 * t + nn) (v := 0) (f := fn) (by omega) (by omega) (by omega) (by omega) (by rw [hp_upn (by omega), hp_upn (by omega)]; exact r1)
        simp (disch := omega) only [e_145_0, e_145_1, e_145_2, e_145_5, e_145_8, e_145_9, e_145_12, e_145_13, e_145_14, e_145_17, e_145_19, e_145_20, e_145_21, e_145_24, e_145_25, e_145_27, e_145_30, e_145_32, e_145_33, e_145_34, e_145_37, e_145_38, e_145_39, e_145_40, e_145_41, e_145_44, e_145_45, e_145_46, e_145_47, e_145_48, e_145_50, e_145_51, e_145_53, e_145_54, e_145_57, e_145_59, e_145_61, e_145_62, e_145_63, e_145_64, e_145_67, e_145_68, b1, r1, r2, r3, it, e1, e2, fl, nc0, true_and, bkO_c, bkO_g0, bkO_k0, bkO_g1, bkO_k1, bkO_g2, bkO_k2, bkO_g3, bkO_k3, bkO_g4, bkO_k4, bkO_g5, bkO_k5, bkO_g6, bkO_k6, bkO_g7, bkO_k7, bkO_g8, bkO_k8, bkO_g9, bkO_k9, bkO_g10, bkO_k10, bkO_g11, bkO_k11, bkO_g12, bkO_k12, bkO_g13, bkO_k13, bkO_g14, bkO_k14, bkO_g15, bkO_k15, bkO_g16, bkO_k16, bkO_g17, bkO_k17, bkO_s12, bkO_s16, bkO_s17, moO_c, moO_g0, moO_k0, moO_g1, moO_k1, moO_g2, moO_k2, moO_g3, moO_k3, moO_s0, moO_s1, moO_s2, moO_s3, hoO_c, hoO_g0, hoO_k0, hoO_g1, hoO_k1, hoO_g2, hoO_k2, hoO_g3, hoO_k3, hoO_g4, hoO_k4, hoO_g5, hoO_k5, hoO_g6, hoO_k6, hoO_g7, hoO_k7, hoO_g8, hoO_k8, hoO_g9, hoO_k9, hoO_s0, hoO_s1, hoO_s2, hoO_s9, iup_s, iup_n, hp_up1, hp_upn, ne_eq, not_false_eq_true, sh_0, sh_1, sh_2, sh_3, sh_4, sh_5, sh_8, sh_15, sh_16, sh_24, Int.reducePow, Int.cast_ofNat_Int, w_of, wl_of, ltT, ltF, leT, leF, eqT, eqF, okF_0, okF_s, gF_0, gF_s, consC_o, sF_0, sF_s, clsO_o, inA_i, ldA_i, stA_i, inJ_l, ldJ_l, stJ_l, inR_r, ldR_r, stR_r, tgR_r, lenA_i, lenA_l, lenA_r, lenA_ex, nl_i, nl_o, nl_l, nl_n, wd_n, wd_i, wd_l, wd_o, fit_i, fit_l, fit_o, K_v, K_n, true_and, and_true, Nat.reduceAdd, Nat.reduceLeDiff, Nat.reduceEqDiff, Nat.reduceMul, Nat.reduceLT, reduceIte, true_or, or_true, cmp_lt, cmp_gt, cmp_eq, wb_0, b_01, cmp_lt', cmp_gt', cmp_eq', b_0, b_1, wb_1, Int.reduceSub, Int.reduceToNat, List.getD_cons_succ, List.getD_cons_zero, Int.reduceLE, Int.reduceLT, Int.reduceEq, Int.reduceNeg, Int.reduceAdd, Int.reduceMul, and_self, em_b, ne_eq, not_false_eq_true, not_true_eq_false]
        try rfl
      · rw [if_neg qn]
        refine cRes_r (v := -3) hB' rfl (fun d Q => ?_)
        have qn' : n < 0 ∨ 40 < n := by omega
        clear qn
        rcases qn' with g | g
        · simp (disch := omega) only [e_145_0, e_145_1, e_145_2, e_145_5, e_145_8, e_145_9, e_145_12, e_145_13, e_145_14, e_145_17, e_145_19, e_145_20, e_145_21, e_145_24, e_145_25, e_145_27, e_145_30, e_145_32, b1, it, true_and, bkO_c, bkO_g0, bkO_k0, bkO_g1, bkO_k1, bkO_g2, bkO_k2, bkO_g3, bkO_k3, bkO_g4, bkO_k4, bkO_g5, bkO_k5, bkO_g6, bkO_k6, bkO_g7, bkO_k7, bkO_g8, bkO_k8, bkO_g9, bkO_k9, bkO_g10, bkO_k10, bkO_g11, bkO_k11, bkO_g12, bkO_k12, bkO_g13, bkO_k13, bkO_g14, bkO_k14, bkO_g15, bkO_k15, bkO_g16, bkO_k16, bkO_g17, bkO_k17, bkO_s12, bkO_s16, bkO_s17, moO_c, moO_g0, moO_k0, moO_g1, moO_k1, moO_g2, moO_k2, moO_g3, moO_k3, moO_s0, moO_s1, moO_s2, moO_s3, hoO_c, hoO_g0, hoO_k0, hoO_g1, hoO_k1, hoO_g2, hoO_k2, hoO_g3, hoO_k3, hoO_g4, hoO_k4, hoO_g5, hoO_k5, hoO_g6, hoO_k6, hoO_g7, hoO_k7, hoO_g8, hoO_k8, hoO_g9, hoO_k9, hoO_s0, hoO_s1, hoO_s2, hoO_s9, iup_s, iup_n, hp_up1, hp_upn, ne_eq, not_false_eq_true, sh_0, sh_1, sh_2, sh_3, sh_4, sh_5, sh_8, sh_15, sh_16, sh_24, Int.reducePow, Int.cast_ofNat_Int, w_of, wl_of, ltT, ltF, leT, leF, eqT, eqF, okF_0, okF_s, gF_0, gF_s, consC_o, sF_0, sF_s, clsO_o, inA_i, ldA_i, stA_i, inJ_l, ldJ_l, stJ_l, inR_r, ldR_r, stR_r, tgR_r, lenA_i, lenA_l, lenA_r, lenA_ex, nl_i, nl_o, nl_l, nl_n, wd_n, wd_i, wd_l, wd_o, fit_i, fit_l, fit_o, K_v, K_n, true_and, and_true, Nat.reduceAdd, Nat.reduceLeDiff, Nat.reduceEqDiff, Nat.reduceMul, Nat.reduceLT, reduceIte, true_or, or_true, cmp_lt, cmp_gt, cmp_eq, wb_0, b_01, cmp_lt', cmp_gt', cmp_eq', b_0, b_1, wb_1, Int.reduceSub, Int.reduceToNat, List.getD_cons_succ, List.getD_cons_zero, Int.reduceLE, Int.reduceLT, Int.reduceEq, Int.reduceNeg, Int.reduceAdd, Int.reduceMul, and_self, em_b, ne_eq, not_false_eq_true, not_true_eq_false]
          try rfl
        · simp (disch := omega) only [e_145_0, e_145_1, e_145_2, e_145_5, e_145_8, e_145_9, e_145_12, e_145_13, e_145_14, e_145_17, e_145_19, e_145_20, e_145_21, e_145_24, e_145_25, e_145_27, e_145_30, e_145_32, b1, it, true_and, bkO_c, bkO_g0, bkO_k0, bkO_g1, bkO_k1, bkO_g2, bkO_k2, bkO_g3, bkO_k3, bkO_g4, bkO_k4, bkO_g5, bkO_k5, bkO_g6, bkO_k6, bkO_g7, bkO_k7, bkO_g8, bkO_k8, bkO_g9, bkO_k9, bkO_g10, bkO_k10, bkO_g11, bkO_k11, bkO_g12, bkO_k12, bkO_g13, bkO_k13, bkO_g14, bkO_k14, bkO_g15, bkO_k15, bkO_g16, bkO_k16, bkO_g17, bkO_k17, bkO_s12, bkO_s16, bkO_s17, moO_c, moO_g0, moO_k0, moO_g1, moO_k1, moO_g2, moO_k2, moO_g3, moO_k3, moO_s0, moO_s1, moO_s2, moO_s3, hoO_c, hoO_g0, hoO_k0, hoO_g1, hoO_k1, hoO_g2, hoO_k2, hoO_g3, hoO_k3, hoO_g4, hoO_k4, hoO_g5, hoO_k5, hoO_g6, hoO_k6, hoO_g7, hoO_k7, hoO_g8, hoO_k8, hoO_g9, hoO_k9, hoO_s0, hoO_s1, hoO_s2, hoO_s9, iup_s, iup_n, hp_up1, hp_upn, ne_eq, not_false_eq_true, sh_0, sh_1, sh_2, sh_3, sh_4, sh_5, sh_8, sh_15, sh_16, sh_24, Int.reducePow, Int.cast_ofNat_Int, w_of, wl_of, ltT, ltF, leT, leF, eqT, eqF, okF_0, okF_s, gF_0, gF_s, consC_o, sF_0, sF_s, clsO_o, inA_i, ldA_i, stA_i, inJ_l, ldJ_l, stJ_l, inR_r, ldR_r, stR_r, tgR_r, lenA_i, lenA_l, lenA_r, lenA_ex, nl_i, nl_o, nl_l, nl_n, wd_n, wd_i, wd_l, wd_o, fit_i, fit_l, fit_o, K_v, K_n, true_and, and_true, Nat.reduceAdd, Nat.reduceLeDiff, Nat.reduceEqDiff, Nat.reduceMul, Nat.reduceLT, reduceIte, true_or, or_true, cmp_lt, cmp_gt, cmp_eq, wb_0, b_01, cmp_lt', cmp_gt', cmp_eq', b_0, b_1, wb_1, Int.reduceSub, Int.reduceToNat, List.getD_cons_succ, List.getD_cons_zero, Int.reduceLE, Int.reduceLT, Int.reduceEq, Int.reduceNeg, Int.reduceAdd, Int.reduceMul, and_self, em_b, ne_eq, not_false_eq_true, not_true_eq_false]
          try rfl
    · rw [if_neg (fun z => qy z.2)]
      refine cRes_r (v := -2) hB' rfl (fun d Q => ?_)
      have qy' : y < 0 ∨ 3 < y := by omega
      clear qy
      rcases qy' with g | g
      · simp (disch := omega) only [e_145_0, e_145_1, e_145_2, e_145_5, e_145_8, e_145_9, e_145_12, e_145_13, e_145_14, e_145_17, e_145_19, b1, it, true_and, bkO_c, bkO_g0, bkO_k0, bkO_g1, bkO_k1, bkO_g2, bkO_k2, bkO_g3, bkO_k3, bkO_g4, bkO_k4, bkO_g5, bkO_k5, bkO_g6, bkO_k6, bkO_g7, bkO_k7, bkO_g8, bkO_k8, bkO_g9, bkO_k9, bkO_g10, bkO_k10, bkO_g11, bkO_k11, bkO_g12, bkO_k12, bkO_g13, bkO_k13, bkO_g14, bkO_k14, bkO_g15, bkO_k15, bkO_g16, bkO_k16, bkO_g17, bkO_k17, bkO_s12, bkO_s16, bkO_s17, moO_c, moO_g0, moO_k0, moO_g1, moO_k1, moO_g2, moO_k2, moO_g3, moO_k3, moO_s0, moO_s1, moO_s2, moO_s3, hoO_c, hoO_g0, hoO_k0, hoO_g1, hoO_k1, hoO_g2, hoO_k2, hoO_g3, hoO_k3, hoO_g4, hoO_k4, hoO_g5, hoO_k5, hoO_g6, hoO_k6, hoO_g7, hoO_k7, hoO_g8, hoO_k8, hoO_g9, hoO_k9, hoO_s0, hoO_s1, hoO_s2, hoO_s9, iup_s, iup_n, hp_up1, hp_upn, ne_eq, not_false_eq_true, sh_0, sh_1, sh_2, sh_3, sh_4, sh_5, sh_8, sh_15, sh_16, sh_24, Int.reducePow, Int.cast_ofNat_Int, w_of, wl_of, ltT, ltF, leT, leF, eqT, eqF, okF_0, okF_s, gF_0, gF_s, consC_o, sF_0, sF_s, clsO_o, inA_i, ldA_i, stA_i, inJ_l, ldJ_l, stJ_l, inR_r, ldR_r, stR_r, tgR_r, lenA_i, lenA_l, lenA_r, lenA_ex, nl_i, nl_o, nl_l, nl_n, wd_n, wd_i, wd_l, wd_o, fit_i, fit_l, fit_o, K_v, K_n, true_and, and_true, Nat.reduceAdd, Nat.reduceLeDiff, Nat.reduceEqDiff, Nat.reduceMul, Nat.reduceLT, reduceIte, true_or, or_true, cmp_lt, cmp_gt, cmp_eq, wb_0, b_01, cmp_lt', cmp_gt', cmp_eq', b_0, b_1, wb_1, Int.reduceSub, Int.reduceToNat, List.getD_cons_succ, List.getD_cons_zero, Int.reduceLE, Int.reduceLT, Int.reduceEq, Int.reduceNeg, Int.reduceAdd, Int.reduceMul, and_self, em_b, ne_eq, not_false_eq_true, not_true_eq_false]
        try rfl
      · simp (disch := omega) only [e_145_0, e_145_1, e_145_2, e_145_5, e_145_8, e_145_9, e_145_12, e_145_13, e_145_14, e_145_17, e_145_19, b1, it, true_and, bkO_c, bkO_g0, bkO_k0, bkO_g1, bkO_k1, bkO_g2, bkO_k2, bkO_g3, bkO_k3, bkO_g4, bkO_k4, bkO_g5, bkO_k5, bkO_g6, bkO_k6, bkO_g7, bkO_k7, bkO_g8, bkO_k8, bkO_g9, bkO_k9, bkO_g10, bkO_k10, bkO_g11, bkO_k11, bkO_g12, bkO_k12, bkO_g13, bkO_k13, bkO_g14, bkO_k14, bkO_g15, bkO_k15, bkO_g16, bkO_k16, bkO_g17, bkO_k17, bkO_s12, bkO_s16, bkO_s17, moO_c, moO_g0, moO_k0, moO_g1, moO_k1, moO_g2, moO_k2, moO_g3, moO_k3, moO_s0, moO_s1, moO_s2, moO_s3, hoO_c, hoO_g0, hoO_k0, hoO_g1, hoO_k1, hoO_g2, hoO_k2, hoO_g3, hoO_k3, hoO_g4, hoO_k4, hoO_g5, hoO_k5, hoO_g6, hoO_k6, hoO_g7, hoO_k7, hoO_g8, hoO_k8, hoO_g9, hoO_k9, hoO_s0, hoO_s1, hoO_s2, hoO_s9, iup_s, iup_n, hp_up1, hp_upn, ne_eq, not_false_eq_true, sh_0, sh_1, sh_2, sh_3, sh_4, sh_5, sh_8, sh_15, sh_16, sh_24, Int.reducePow, Int.cast_ofNat_Int, w_of, wl_of, ltT, ltF, leT, leF, eqT, eqF, okF_0, okF_s, gF_0, gF_s, consC_o, sF_0, sF_s, clsO_o, inA_i, ldA_i, stA_i, inJ_l, ldJ_l, stJ_l, inR_r, ldR_r, stR_r, tgR_r, lenA_i, lenA_l, lenA_r, lenA_ex, nl_i, nl_o, nl_l, nl_n, wd_n, wd_i, wd_l, wd_o, fit_i, fit_l, fit_o, K_v, K_n, true_and, and_true, Nat.reduceAdd, Nat.reduceLeDiff, Nat.reduceEqDiff, Nat.reduceMul, Nat.reduceLT, reduceIte, true_or, or_true, cmp_lt, cmp_gt, cmp_eq, wb_0, b_01, cmp_lt', cmp_gt', cmp_eq', b_0, b_1, wb_1, Int.reduceSub, Int.reduceToNat, List.getD_cons_succ, List.getD_cons_zero, Int.reduceLE, Int.reduceLT, Int.reduceEq, Int.reduceNeg, Int.reduceAdd, Int.reduceMul, and_self, em_b, ne_eq, not_false_eq_true, not_true_eq_false]
        try rfl
  · rw [if_neg (fun z => qx z.1)]
    simp only [qx, if_false] at it
    refine cRes_r (v := -2) hB' rfl (fun d Q => ?_)
    simp (disch := omega) only [e_145_0, e_145_1, e_145_2, e_145_5, e_145_8, e_145_9, e_145_12, e_145_13, e_145_14, e_145_17, e_145_19, b1, it, true_and, bkO_c, bkO_g0, bkO_k0, bkO_g1, bkO_k1, bkO_g2, bkO_k2, bkO_g3, bkO_k3, bkO_g4, bkO_k4, bkO_g5, bkO_k5, bkO_g6, bkO_k6, bkO_g7, bkO_k7, bkO_g8, bkO_k8, bkO_g9, bkO_k9, bkO_g10, bkO_k10, bkO_g11, bkO_k11, bkO_g12, bkO_k12, bkO_g13, bkO_k13, bkO_g14, bkO_k14, bkO_g15, bkO_k15, bkO_g16, bkO_k16, bkO_g17, bkO_k17, bkO_s12, bkO_s16, bkO_s17, moO_c, moO_g0, moO_k0, moO_g1, moO_k1, moO_g2, moO_k2, moO_g3, moO_k3, moO_s0, moO_s1, moO_s2, moO_s3, hoO_c, hoO_g0, hoO_k0, hoO_g1, hoO_k1, hoO_g2, hoO_k2, hoO_g3, hoO_k3, hoO_g4, hoO_k4, hoO_g5, hoO_k5, hoO_g6, hoO_k6, hoO_g7, hoO_k7, hoO_g8, hoO_k8, hoO_g9, hoO_k9, hoO_s0, hoO_s1, hoO_s2, hoO_s9, iup_s, iup_n, hp_up1, hp_upn, ne_eq, not_false_eq_true, sh_0, sh_1, sh_2, sh_3, sh_4, sh_5, sh_8, sh_15, sh_16, sh_24, Int.reducePow, Int.cast_ofNat_Int, w_of, wl_of, ltT, ltF, leT, leF, eqT, eqF, okF_0, okF_s, gF_0, gF_s, consC_o, sF_0, sF_s, clsO_o, inA_i, ldA_i, stA_i, inJ_l, ldJ_l, stJ_l, inR_r, ldR_r, stR_r, tgR_r, lenA_i, lenA_l, lenA_r, lenA_ex, nl_i, nl_o, nl_l, nl_n, wd_n, wd_i, wd_l, wd_o, fit_i, fit_l, fit_o, K_v, K_n, true_and, and_true, Nat.reduceAdd, Nat.reduceLeDiff, Nat.reduceEqDiff, Nat.reduceMul, Nat.reduceLT, reduceIte, true_or, or_true, cmp_lt, cmp_gt, cmp_eq, wb_0, b_01, cmp_lt', cmp_gt', cmp_eq', b_0, b_1, wb_1, Int.reduceSub, Int.reduceToNat, List.getD_cons_succ, List.getD_cons_zero, Int.reduceLE, Int.reduceLT, Int.reduceEq, Int.reduceNeg, Int.reduceAdd, Int.reduceMul, and_self, em_b, ne_eq, not_false_eq_true, not_true_eq_false]
    try rfl
theorem C_store {h : PH} {i : Nat → Int} {fn fo : Int → Int} {t q so : Nat} {v : Int} (b1 : hp h 10 = bkO i) (p1 : hp h 68 = aL 160 fn) (p3 : hp h 70 = aI 0 4 fo) (hs : so < 4) (f2 : fo t = (so : Int)) (ht : t < 4) (hq : q < 40) : ∀ d Q, WP d 157 0 [some (vr 10), some (vi t), some (vi q), some (vl v), none, none, none] [] h Q = Q (some (vl (cutV so v))) (hup h 68 (aL 160 (fset fn ((40 * t + q : Nat) : Int) (cutV so v)))) := by
  intro d Q
  have hb := bmod_b v
  have w1 := w_lo v
  have w2 := w_hi v
  have ee : (t : Int) * 40 + (q : Int) = ((40 * t + q : Nat) : Int) := by omega
  unfold cutV
  rcases (by omega : so = 0 ∨ so = 1 ∨ so = 2 ∨ so = 3) with z | z | z | z <;> subst z
  · rw [if_pos rfl]
    simp (disch := omega) only [e_157_0, e_157_1, e_157_3, e_157_4, e_157_7, e_157_8, e_157_9, e_157_36, e_157_37, e_157_38, e_157_39, e_157_40, e_157_42, e_157_62, e_157_63, e_157_66, e_157_67, e_157_69, e_157_70, e_157_71, e_157_72, e_157_74, e_157_75, e_157_77, b1, p1, p3, f2, ee, nc0, true_and, bkO_c, bkO_g0, bkO_k0, bkO_g1, bkO_k1, bkO_g2, bkO_k2, bkO_g3, bkO_k3, bkO_g4, bkO_k4, bkO_g5, bkO_k5, bkO_g6, bkO_k6, bkO_g7, bkO_k7, bkO_g8, bkO_k8, bkO_g9, bkO_k9, bkO_g10, bkO_k10, bkO_g11, bkO_k11, bkO_g12, bkO_k12, bkO_g13, bkO_k13, bkO_g14, bkO_k14, bkO_g15, bkO_k15, bkO_g16, bkO_k16, bkO_g17, bkO_k17, bkO_s12, bkO_s16, bkO_s17, moO_c, moO_g0, moO_k0, moO_g1, moO_k1, moO_g2, moO_k2, moO_g3, moO_k3, moO_s0, moO_s1, moO_s2, moO_s3, hoO_c, hoO_g0, hoO_k0, hoO_g1, hoO_k1, hoO_g2, hoO_k2, hoO_g3, hoO_k3, hoO_g4, hoO_k4, hoO_g5, hoO_k5, hoO_g6, hoO_k6, hoO_g7, hoO_k7, hoO_g8, hoO_k8, hoO_g9, hoO_k9, hoO_s0, hoO_s1, hoO_s2, hoO_s9, iup_s, iup_n, hp_up1, hp_upn, ne_eq, not_false_eq_true, sh_0, sh_1, sh_2, sh_3, sh_4, sh_5, sh_8, sh_15, sh_16, sh_24, Int.reducePow, Int.cast_ofNat_Int, w_of, wl_of, ltT, ltF, leT, leF, eqT, eqF, okF_0, okF_s, gF_0, gF_s, consC_o, sF_0, sF_s, clsO_o, inA_i, ldA_i, stA_i, inJ_l, ldJ_l, stJ_l, inR_r, ldR_r, stR_r, tgR_r, lenA_i, lenA_l, lenA_r, lenA_ex, nl_i, nl_o, nl_l, nl_n, wd_n, wd_i, wd_l, wd_o, fit_i, fit_l, fit_o, K_v, K_n, true_and, and_true, Nat.reduceAdd, Nat.reduceLeDiff, Nat.reduceEqDiff, Nat.reduceMul, Nat.reduceLT, reduceIte, true_or, or_true, cmp_lt, cmp_gt, cmp_eq, wb_0, b_01, cmp_lt', cmp_gt', cmp_eq', b_0, b_1, wb_1, Int.reduceSub, Int.reduceToNat, List.getD_cons_succ, List.getD_cons_zero, Int.reduceLE, Int.reduceLT, Int.reduceEq, Int.reduceNeg, Int.reduceAdd, Int.reduceMul, and_self, em_b, ne_eq, not_false_eq_true, not_true_eq_false]
    try rfl
  · rw [if_neg (by omega), if_pos rfl]
    simp (disch := omega) only [e_157_0, e_157_1, e_157_3, e_157_4, e_157_7, e_157_8, e_157_9, e_157_45, e_157_46, e_157_47, e_157_48, e_157_49, e_157_51, e_157_54, e_157_55, e_157_56, e_157_57, e_157_59, e_157_62, e_157_63, e_157_66, e_157_67, e_157_69, e_157_70, e_157_71, e_157_72, e_157_74, e_157_75, e_157_77, b1, p1, p3, f2, ee, nc1, true_and, bkO_c, bkO_g0, bkO_k0, bkO_g1, bkO_k1, bkO_g2, bkO_k2, bkO_g3, bkO_k3, bkO_g4, bkO_k4, bkO_g5, bkO_k5, bkO_g6, bkO_k6, bkO_g7, bkO_k7, bkO_g8, bkO_k8, bkO_g9, bkO_k9, bkO_g10, bkO_k10, bkO_g11, bkO_k11, bkO_g12, bkO_k12, bkO_g13, bkO_k13, bkO_g14, bkO_k14, bkO_g15, bkO_k15, bkO_g16, bkO_k16, bkO_g17, bkO_k17, bkO_s12, bkO_s16, bkO_s17, moO_c, moO_g0, moO_k0, moO_g1, moO_k1, moO_g2, moO_k2, moO_g3, moO_k3, moO_s0, moO_s1, moO_s2, moO_s3, hoO_c, hoO_g0, hoO_k0, hoO_g1, hoO_k1, hoO_g2, hoO_k2, hoO_g3, hoO_k3, hoO_g4, hoO_k4, hoO_g5, hoO_k5, hoO_g6, hoO_k6, hoO_g7, hoO_k7, hoO_g8, hoO_k8, hoO_g9, hoO_k9, hoO_s0, hoO_s1, hoO_s2, hoO_s9, iup_s, iup_n, hp_up1, hp_upn, ne_eq, not_false_eq_true, sh_0, sh_1, sh_2, sh_3, sh_4, sh_5, sh_8, sh_15, sh_16, sh_24, Int.reducePow, Int.cast_ofNat_Int, w_of, wl_of, ltT, ltF, leT, leF, eqT, eqF, okF_0, okF_s, gF_0, gF_s, consC_o, sF_0, sF_s, clsO_o, inA_i, ldA_i, stA_i, inJ_l, ldJ_l, stJ_l, inR_r, ldR_r, stR_r, tgR_r, lenA_i, lenA_l, lenA_r, lenA_ex, nl_i, nl_o, nl_l, nl_n, wd_n, wd_i, wd_l, wd_o, fit_i, fit_l, fit_o, K_v, K_n, true_and, and_true, Nat.reduceAdd, Nat.reduceLeDiff, Nat.reduceEqDiff, Nat.reduceMul, Nat.reduceLT, reduceIte, true_or, or_true, cmp_lt, cmp_gt, cmp_eq, wb_0, b_01, cmp_lt', cmp_gt', cmp_eq', b_0, b_1, wb_1, Int.reduceSub, Int.reduceToNat, List.getD_cons_succ, List.getD_cons_zero, Int.reduceLE, Int.reduceLT, Int.reduceEq, Int.reduceNeg, Int.reduceAdd, Int.reduceMul, and_self, em_b, ne_eq, not_false_eq_true, not_true_eq_false]
    try rfl
  · rw [if_neg (by omega), if_neg (by omega), if_pos rfl]
    have e2 : ((2 : Nat) : Int) = 2 := rfl
    rw [e2] at f2
    simp (disch := omega) only [e_157_0, e_157_1, e_157_3, e_157_4, e_157_7, e_157_8, e_157_9, e_157_54, e_157_55, e_157_56, e_157_57, e_157_59, e_157_62, e_157_63, e_157_66, e_157_67, e_157_69, e_157_70, e_157_71, e_157_72, e_157_74, e_157_75, e_157_77, b1, p1, p3, f2, ee, true_and, bkO_c, bkO_g0, bkO_k0, bkO_g1, bkO_k1, bkO_g2, bkO_k2, bkO_g3, bkO_k3, bkO_g4, bkO_k4, bkO_g5, bkO_k5, bkO_g6, bkO_k6, bkO_g7, bkO_k7, bkO_g8, bkO_k8, bkO_g9, bkO_k9, bkO_g10, bkO_k10, bkO_g11, bkO_k11, bkO_g12, bkO_k12, bkO_g13, bkO_k13, bkO_g14, bkO_k14, bkO_g15, bkO_k15, bkO_g16, bkO_k16, bkO_g17, bkO_k17, bkO_s12, bkO_s16, bkO_s17, moO_c, moO_g0, moO_k0, moO_g1, moO_k1, moO_g2, moO_k2, moO_g3, moO_k3, moO_s0, moO_s1, moO_s2, moO_s3, hoO_c, hoO_g0, hoO_k0, hoO_g1, hoO_k1, hoO_g2, hoO_k2, hoO_g3, hoO_k3, hoO_g4, hoO_k4, hoO_g5, hoO_k5, hoO_g6, hoO_k6, hoO_g7, hoO_k7, hoO_g8, hoO_k8, hoO_g9, hoO_k9, hoO_s0, hoO_s1, hoO_s2, hoO_s9, iup_s, iup_n, hp_up1, hp_upn, ne_eq, not_false_eq_true, sh_0, sh_1, sh_2, sh_3, sh_4, sh_5, sh_8, sh_15, sh_16, sh_24, Int.reducePow, Int.cast_ofNat_Int, w_of, wl_of, ltT, ltF, leT, leF, eqT, eqF, okF_0, okF_s, gF_0, gF_s, consC_o, sF_0, sF_s, clsO_o, inA_i, ldA_i, stA_i, inJ_l, ldJ_l, stJ_l, inR_r, ldR_r, stR_r, tgR_r, lenA_i, lenA_l, lenA_r, lenA_ex, nl_i, nl_o, nl_l, nl_n, wd_n, wd_i, wd_l, wd_o, fit_i, fit_l, fit_o, K_v, K_n, true_and, and_true, Nat.reduceAdd, Nat.reduceLeDiff, Nat.reduceEqDiff, Nat.reduceMul, Nat.reduceLT, reduceIte, true_or, or_true, cmp_lt, cmp_gt, cmp_eq, wb_0, b_01, cmp_lt', cmp_gt', cmp_eq', b_0, b_1, wb_1, Int.reduceSub, Int.reduceToNat, List.getD_cons_succ, List.getD_cons_zero, Int.reduceLE, Int.reduceLT, Int.reduceEq, Int.reduceNeg, Int.reduceAdd, Int.reduceMul, and_self, em_b, ne_eq, not_false_eq_true, not_true_eq_false]
    try rfl
  · rw [if_neg (by omega), if_neg (by omega), if_neg (by omega)]
    have e3 : ((3 : Nat) : Int) = 3 := rfl
    rw [e3] at f2
    have q5 : ((0 : Int) ≤ 3 ∧ (3 : Int) ≤ 2) = False := by decide
    simp (disch := omega) only [e_157_0, e_157_1, e_157_3, e_157_4, e_157_7, e_157_8, e_157_9, e_157_62, e_157_63, e_157_66, e_157_67, e_157_69, e_157_70, e_157_71, e_157_72, e_157_74, e_157_75, e_157_77, b1, p1, p3, f2, ee, q5, if_false, true_and, bkO_c, bkO_g0, bkO_k0, bkO_g1, bkO_k1, bkO_g2, bkO_k2, bkO_g3, bkO_k3, bkO_g4, bkO_k4, bkO_g5, bkO_k5, bkO_g6, bkO_k6, bkO_g7, bkO_k7, bkO_g8, bkO_k8, bkO_g9, bkO_k9, bkO_g10, bkO_k10, bkO_g11, bkO_k11, bkO_g12, bkO_k12, bkO_g13, bkO_k13, bkO_g14, bkO_k14, bkO_g15, bkO_k15, bkO_g16, bkO_k16, bkO_g17, bkO_k17, bkO_s12, bkO_s16, bkO_s17, moO_c, moO_g0, moO_k0, moO_g1, moO_k1, moO_g2, moO_k2, moO_g3, moO_k3, moO_s0, moO_s1, moO_s2, moO_s3, hoO_c, hoO_g0, hoO_k0, hoO_g1, hoO_k1, hoO_g2, hoO_k2, hoO_g3, hoO_k3, hoO_g4, hoO_k4, hoO_g5, hoO_k5, hoO_g6, hoO_k6, hoO_g7, hoO_k7, hoO_g8, hoO_k8, hoO_g9, hoO_k9, hoO_s0, hoO_s1, hoO_s2, hoO_s9, iup_s, iup_n, hp_up1, hp_upn, ne_eq, not_false_eq_true, sh_0, sh_1, sh_2, sh_3, sh_4, sh_5, sh_8, sh_15, sh_16, sh_24, Int.reducePow, Int.cast_ofNat_Int, w_of, wl_of, ltT, ltF, leT, leF, eqT, eqF, okF_0, okF_s, gF_0, gF_s, consC_o, sF_0, sF_s, clsO_o, inA_i, ldA_i, stA_i, inJ_l, ldJ_l, stJ_l, inR_r, ldR_r, stR_r, tgR_r, lenA_i, lenA_l, lenA_r, lenA_ex, nl_i, nl_o, nl_l, nl_n, wd_n, wd_i, wd_l, wd_o, fit_i, fit_l, fit_o, K_v, K_n, true_and, and_true, Nat.reduceAdd, Nat.reduceLeDiff, Nat.reduceEqDiff, Nat.reduceMul, Nat.reduceLT, reduceIte, true_or, or_true, cmp_lt, cmp_gt, cmp_eq, wb_0, b_01, cmp_lt', cmp_gt', cmp_eq', b_0, b_1, wb_1, Int.reduceSub, Int.reduceToNat, List.getD_cons_succ, List.getD_cons_zero, Int.reduceLE, Int.reduceLT, Int.reduceEq, Int.reduceNeg, Int.reduceAdd, Int.reduceMul, and_self, em_b, ne_eq, not_false_eq_true, not_true_eq_false]
    try rfl
theorem C_write {h : PH} {x y v : Int} (hB : bkI kc ow h M S0 e k) (h1 : -2147483648 ≤ x) (h2 : x < 2147483648) (h3 : -2147483648 ≤ y) (h4 : y < 2147483648) (hv : i64 v) : cRes ow h S0 k 146 [some (vr 10), some (vi x), some (vi y), some (vl v), none] vl (fun v' M' => (v', M') = writeF M x y v) := by
  have hB' := hB
  obtain ⟨hF, ⟨⟨i, b1, b2, b3, b4⟩, -, -, -, -, ⟨fn, fs, fo, r1, r2, r3, r4⟩, -⟩, -⟩ := hB
  have it := C_isTray (h := h) h1 h2
  obtain ⟨-, -, -, -, t68, t69, t70, -⟩ := tg_64 hF
  unfold writeF
  by_cases qx : 0 ≤ x ∧ x ≤ 3
  · simp only [qx, and_self, if_true] at it
    rw [if_pos qx]
    obtain ⟨t, rfl⟩ : ∃ t : Nat, x = (t : Int) := ⟨x.toNat, by omega⟩
    rw [Int.toNat_natCast]
    have ht : t < 4 := by omega
    cases hT : mT M t with
    | none =>
      have f1 := tr_none r4 ht hT
      refine cRes_r (v := -6) hB' rfl (fun d Q => ?_)
      simp (disch := omega) only [e_146_0, e_146_1, e_146_2, e_146_5, e_146_8, e_146_11, e_146_12, e_146_13, e_146_16, e_146_17, e_146_18, e_146_19, e_146_22, e_146_25, b1, r2, it, f1, true_and, bkO_c, bkO_g0, bkO_k0, bkO_g1, bkO_k1, bkO_g2, bkO_k2, bkO_g3, bkO_k3, bkO_g4, bkO_k4, bkO_g5, bkO_k5, bkO_g6, bkO_k6, bkO_g7, bkO_k7, bkO_g8, bkO_k8, bkO_g9, bkO_k9, bkO_g10, bkO_k10, bkO_g11, bkO_k11, bkO_g12, bkO_k12, bkO_g13, bkO_k13, bkO_g14, bkO_k14, bkO_g15, bkO_k15, bkO_g16, bkO_k16, bkO_g17, bkO_k17, bkO_s12, bkO_s16, bkO_s17, moO_c, moO_g0, moO_k0, moO_g1, moO_k1, moO_g2, moO_k2, moO_g3, moO_k3, moO_s0, moO_s1, moO_s2, moO_s3, hoO_c, hoO_g0, hoO_k0, hoO_g1, hoO_k1, hoO_g2, hoO_k2, hoO_g3, hoO_k3, hoO_g4, hoO_k4, hoO_g5, hoO_k5, hoO_g6, hoO_k6, hoO_g7, hoO_k7, hoO_g8, hoO_k8, hoO_g9, hoO_k9, hoO_s0, hoO_s1, hoO_s2, hoO_s9, iup_s, iup_n, hp_up1, hp_upn, ne_eq, not_false_eq_true, sh_0, sh_1, sh_2, sh_3, sh_4, sh_5, sh_8, sh_15, sh_16, sh_24, Int.reducePow, Int.cast_ofNat_Int, w_of, wl_of, ltT, ltF, leT, leF, eqT, eqF, okF_0, okF_s, gF_0, gF_s, consC_o, sF_0, sF_s, clsO_o, inA_i, ldA_i, stA_i, inJ_l, ldJ_l, stJ_l, inR_r, ldR_r, stR_r, tgR_r, lenA_i, lenA_l, lenA_r, lenA_ex, nl_i, nl_o, nl_l, nl_n, wd_n, wd_i, wd_l, wd_o, fit_i, fit_l, fit_o, K_v, K_n, true_and, and_true, Nat.reduceAdd, Nat.reduceLeDiff, Nat.reduceEqDiff, Nat.reduceMul, Nat.reduceLT, reduceIte, true_or, or_true, cmp_lt, cmp_gt, cmp_eq, wb_0, b_01, cmp_lt', cmp_gt', cmp_eq', b_0, b_1, wb_1, Int.reduceSub, Int.reduceToNat, List.getD_cons_succ, List.getD_cons_zero, Int.reduceLE, Int.reduceLT, Int.reduceEq, Int.reduceNeg, Int.reduceAdd, Int.reduceMul, and_self, em_b, ne_eq, not_false_eq_true, not_true_eq_false]
      try rfl
    | some sl =>
      obtain ⟨so, l⟩ := sl
      obtain ⟨f1, f2, f3, f4, f5⟩ := tr_some r4 ht hT
      dsimp only
      by_cases qy : 0 ≤ y ∧ y < (l.length : Int)
      · rw [if_pos qy]
        obtain ⟨q, rfl⟩ : ∃ t : Nat, y = (t : Int) := ⟨y.toNat, by omega⟩
        obtain ⟨qy1, qy2⟩ := qy
        rw [Int.toNat_natCast]
        have hch : chg ow [12] h (hup h 68 (aL 160 (fset fn ((40 * t + q : Nat) : Int) (cutV so v)))) := chg_up t68 (by decide)
        obtain ⟨q1, q2⟩ := bk_t (T := upT (mT M) t (some (so, l.set q (cutV so v)))) hB' hch ⟨_, _, _, hp_up1, by rw [hp_upn (by omega)]; exact r2, by rw [hp_upn (by omega)]; exact r3, tyO_set r4 ht hT (by omega) (cutV_64 hv)⟩
        refine ⟨kc, ow, _, e, _, _, rfl, q1, q2, fun d Q => ?_⟩
        have st := C_store (v := v) b1 r1 r3 f3 f2 ht (show q < 40 by omega)
        simp (disch := omega) only [e_146_0, e_146_1, e_146_2, e_146_5, e_146_8, e_146_11, e_146_12, e_146_13, e_146_16, e_146_17, e_146_18, e_146_19, e_146_22, e_146_25, e_146_26, e_146_27, e_146_30, e_146_31, e_146_32, e_146_35, e_146_36, e_146_37, e_146_40, e_146_43, e_146_44, e_146_45, e_146_46, e_146_47, e_146_48, e_146_51, b1, r2, it, f1, st, true_and, bkO_c, bkO_g0, bkO_k0, bkO_g1, bkO_k1, bkO_g2, bkO_k2, bkO_g3, bkO_k3, bkO_g4, bkO_k4, bkO_g5, bkO_k5, bkO_g6, bkO_k6, bkO_g7, bkO_k7, bkO_g8, bkO_k8, bkO_g9, bkO_k9, bkO_g10, bkO_k10, bkO_g11, bkO_k11, bkO_g12, bkO_k12, bkO_g13, bkO_k13, bkO_g14, bkO_k14, bkO_g15, bkO_k15, bkO_g16, bkO_k16, bkO_g17, bkO_k17, bkO_s12, bkO_s16, bkO_s17, moO_c, moO_g0, moO_k0, moO_g1, moO_k1, moO_g2, moO_k2, moO_g3, moO_k3, moO_s0, moO_s1, moO_s2, moO_s3, hoO_c, hoO_g0, hoO_k0, hoO_g1, hoO_k1, hoO_g2, hoO_k2, hoO_g3, hoO_k3, hoO_g4, hoO_k4, hoO_g5, hoO_k5, hoO_g6, hoO_k6, hoO_g7, hoO_k7, hoO_g8, hoO_k8, hoO_g9, hoO_k9, hoO_s0, hoO_s1, hoO_s2, hoO_s9, iup_s, iup_n, hp_up1, hp_upn, ne_eq, not_false_eq_true, sh_0, sh_1, sh_2, sh_3, sh_4, sh_5, sh_8, sh_15, sh_16, sh_24, Int.reducePow, Int.cast_ofNat_Int, w_of, wl_of, ltT, ltF, leT, leF, eqT, eqF, okF_0, okF_s, gF_0, gF_s, consC_o, sF_0, sF_s, clsO_o, inA_i, ldA_i, stA_i, inJ_l, ldJ_l, stJ_l, inR_r, ldR_r, stR_r, tgR_r, lenA_i, lenA_l, lenA_r, lenA_ex, nl_i, nl_o, nl_l, nl_n, wd_n, wd_i, wd_l, wd_o, fit_i, fit_l, fit_o, K_v, K_n, true_and, and_true, Nat.reduceAdd, Nat.reduceLeDiff, Nat.reduceEqDiff, Nat.reduceMul, Nat.reduceLT, reduceIte, true_or, or_true, cmp_lt, cmp_gt, cmp_eq, wb_0, b_01, cmp_lt', cmp_gt', cmp_eq', b_0, b_1, wb_1, Int.reduceSub, Int.reduceToNat, List.getD_cons_succ, List.getD_cons_zero, Int.reduceLE, Int.reduceLT, Int.reduceEq, Int.reduceNeg, Int.reduceAdd, Int.reduceMul, and_self, em_b, ne_eq, not_false_eq_true, not_true_eq_false]
        try rfl
      · rw [if_neg qy]
        refine cRes_r (v := -7) hB' rfl (fun d Q => ?_)
        have qy' : y < 0 ∨ (l.length : Int) ≤ y := by omega
        clear qy
        rcases qy' with g | g
        · simp (disch := omega) only [e_146_0, e_146_1, e_146_2, e_146_5, e_146_8, e_146_11, e_146_12, e_146_13, e_146_16, e_146_17, e_146_18, e_146_19, e_146_22, e_146_25, e_146_26, e_146_27, e_146_30, e_146_31, e_146_32, e_146_35, e_146_36, e_146_37, e_146_40, e_146_43, b1, r2, it, f1, true_and, bkO_c, bkO_g0, bkO_k0, bkO_g1, bkO_k1, bkO_g2, bkO_k2, bkO_g3, bkO_k3, bkO_g4, bkO_k4, bkO_g5, bkO_k5, bkO_g6, bkO_k6, bkO_g7, bkO_k7, bkO_g8, bkO_k8, bkO_g9, bkO_k9, bkO_g10, bkO_k10, bkO_g11, bkO_k11, bkO_g12, bkO_k12, bkO_g13, bkO_k13, bkO_g14, bkO_k14, bkO_g15, bkO_k15, bkO_g16, bkO_k16, bkO_g17, bkO_k17, bkO_s12, bkO_s16, bkO_s17, moO_c, moO_g0, moO_k0, moO_g1, moO_k1, moO_g2, moO_k2, moO_g3, moO_k3, moO_s0, moO_s1, moO_s2, moO_s3, hoO_c, hoO_g0, hoO_k0, hoO_g1, hoO_k1, hoO_g2, hoO_k2, hoO_g3, hoO_k3, hoO_g4, hoO_k4, hoO_g5, hoO_k5, hoO_g6, hoO_k6, hoO_g7, hoO_k7, hoO_g8, hoO_k8, hoO_g9, hoO_k9, hoO_s0, hoO_s1, hoO_s2, hoO_s9, iup_s, iup_n, hp_up1, hp_upn, ne_eq, not_false_eq_true, sh_0, sh_1, sh_2, sh_3, sh_4, sh_5, sh_8, sh_15, sh_16, sh_24, Int.reducePow, Int.cast_ofNat_Int, w_of, wl_of, ltT, ltF, leT, leF, eqT, eqF, okF_0, okF_s, gF_0, gF_s, consC_o, sF_0, sF_s, clsO_o, inA_i, ldA_i, stA_i, inJ_l, ldJ_l, stJ_l, inR_r, ldR_r, stR_r, tgR_r, lenA_i, lenA_l, lenA_r, lenA_ex, nl_i, nl_o, nl_l, nl_n, wd_n, wd_i, wd_l, wd_o, fit_i, fit_l, fit_o, K_v, K_n, true_and, and_true, Nat.reduceAdd, Nat.reduceLeDiff, Nat.reduceEqDiff, Nat.reduceMul, Nat.reduceLT, reduceIte, true_or, or_true, cmp_lt, cmp_gt, cmp_eq, wb_0, b_01, cmp_lt', cmp_gt', cmp_eq', b_0, b_1, wb_1, Int.reduceSub, Int.reduceToNat, List.getD_cons_succ, List.getD_cons_zero, Int.reduceLE, Int.reduceLT, Int.reduceEq, Int.reduceNeg, Int.reduceAdd, Int.reduceMul, and_self, em_b, ne_eq, not_false_eq_true, not_true_eq_false]
          try rfl
        · simp (disch := omega) only [e_146_0, e_146_1, e_146_2, e_146_5, e_146_8, e_146_11, e_146_12, e_146_13, e_146_16, e_146_17, e_146_18, e_146_19, e_146_22, e_146_25, e_146_26, e_146_27, e_146_30, e_146_31, e_146_32, e_146_35, e_146_36, e_146_37, e_146_40, e_146_43, b1, r2, it, f1, true_and, bkO_c, bkO_g0, bkO_k0, bkO_g1, bkO_k1, bkO_g2, bkO_k2, bkO_g3, bkO_k3, bkO_g4, bkO_k4, bkO_g5, bkO_k5, bkO_g6, bkO_k6, bkO_g7, bkO_k7, bkO_g8, bkO_k8, bkO_g9, bkO_k9, bkO_g10, bkO_k10, bkO_g11, bkO_k11, bkO_g12, bkO_k12, bkO_g13, bkO_k13, bkO_g14, bkO_k14, bkO_g15, bkO_k15, bkO_g16, bkO_k16, bkO_g17, bkO_k17, bkO_s12, bkO_s16, bkO_s17, moO_c, moO_g0, moO_k0, moO_g1, moO_k1, moO_g2, moO_k2, moO_g3, moO_k3, moO_s0, moO_s1, moO_s2, moO_s3, hoO_c, hoO_g0, hoO_k0, hoO_g1, hoO_k1, hoO_g2, hoO_k2, hoO_g3, hoO_k3, hoO_g4, hoO_k4, hoO_g5, hoO_k5, hoO_g6, hoO_k6, hoO_g7, hoO_k7, hoO_g8, hoO_k8, hoO_g9, hoO_k9, hoO_s0, hoO_s1, hoO_s2, hoO_s9, iup_s, iup_n, hp_up1, hp_upn, ne_eq, not_false_eq_true, sh_0, sh_1, sh_2, sh_3, sh_4, sh_5, sh_8, sh_15, sh_16, sh_24, Int.reducePow, Int.cast_ofNat_Int, w_of, wl_of, ltT, ltF, leT, leF, eqT, eqF, okF_0, okF_s, gF_0, gF_s, consC_o, sF_0, sF_s, clsO_o, inA_i, ldA_i, stA_i, inJ_l, ldJ_l, stJ_l, inR_r, ldR_r, stR_r, tgR_r, lenA_i, lenA_l, lenA_r, lenA_ex, nl_i, nl_o, nl_l, nl_n, wd_n, wd_i, wd_l, wd_o, fit_i, fit_l, fit_o, K_v, K_n, true_and, and_true, Nat.reduceAdd, Nat.reduceLeDiff, Nat.reduceEqDiff, Nat.reduceMul, Nat.reduceLT, reduceIte, true_or, or_true, cmp_lt, cmp_gt, cmp_eq, wb_0, b_01, cmp_lt', cmp_gt', cmp_eq', b_0, b_1, wb_1, Int.reduceSub, Int.reduceToNat, List.getD_cons_succ, List.getD_cons_zero, Int.reduceLE, Int.reduceLT, Int.reduceEq, Int.reduceNeg, Int.reduceAdd, Int.reduceMul, and_self, em_b, ne_eq, not_false_eq_true, not_true_eq_false]
          try rfl
  · rw [if_neg qx]
    simp only [qx, if_false] at it
    refine cRes_r (v := -2) hB' rfl (fun d Q => ?_)
    simp (disch := omega) only [e_146_0, e_146_1, e_146_2, e_146_5, e_146_8, e_146_11, b1, it, true_and, bkO_c, bkO_g0, bkO_k0, bkO_g1, bkO_k1, bkO_g2, bkO_k2, bkO_g3, bkO_k3, bkO_g4, bkO_k4, bkO_g5, bkO_k5, bkO_g6, bkO_k6, bkO_g7, bkO_k7, bkO_g8, bkO_k8, bkO_g9, bkO_k9, bkO_g10, bkO_k10, bkO_g11, bkO_k11, bkO_g12, bkO_k12, bkO_g13, bkO_k13, bkO_g14, bkO_k14, bkO_g15, bkO_k15, bkO_g16, bkO_k16, bkO_g17, bkO_k17, bkO_s12, bkO_s16, bkO_s17, moO_c, moO_g0, moO_k0, moO_g1, moO_k1, moO_g2, moO_k2, moO_g3, moO_k3, moO_s0, moO_s1, moO_s2, moO_s3, hoO_c, hoO_g0, hoO_k0, hoO_g1, hoO_k1, hoO_g2, hoO_k2, hoO_g3, hoO_k3, hoO_g4, hoO_k4, hoO_g5, hoO_k5, hoO_g6, hoO_k6, hoO_g7, hoO_k7, hoO_g8, hoO_k8, hoO_g9, hoO_k9, hoO_s0, hoO_s1, hoO_s2, hoO_s9, iup_s, iup_n, hp_up1, hp_upn, ne_eq, not_false_eq_true, sh_0, sh_1, sh_2, sh_3, sh_4, sh_5, sh_8, sh_15, sh_16, sh_24, Int.reducePow, Int.cast_ofNat_Int, w_of, wl_of, ltT, ltF, leT, leF, eqT, eqF, okF_0, okF_s, gF_0, gF_s, consC_o, sF_0, sF_s, clsO_o, inA_i, ldA_i, stA_i, inJ_l, ldJ_l, stJ_l, inR_r, ldR_r, stR_r, tgR_r, lenA_i, lenA_l, lenA_r, lenA_ex, nl_i, nl_o, nl_l, nl_n, wd_n, wd_i, wd_l, wd_o, fit_i, fit_l, fit_o, K_v, K_n, true_and, and_true, Nat.reduceAdd, Nat.reduceLeDiff, Nat.reduceEqDiff, Nat.reduceMul, Nat.reduceLT, reduceIte, true_or, or_true, cmp_lt, cmp_gt, cmp_eq, wb_0, b_01, cmp_lt', cmp_gt', cmp_eq', b_0, b_1, wb_1, Int.reduceSub, Int.reduceToNat, List.getD_cons_succ, List.getD_cons_zero, Int.reduceLE, Int.reduceLT, Int.reduceEq, Int.reduceNeg, Int.reduceAdd, Int.reduceMul, and_self, em_b, ne_eq, not_false_eq_true, not_true_eq_false]
    try rfl
theorem ls_Lp {ca nc sr t so : Nat} {c : KC} {sky : Nat} {s0 : ST} {QL : List QE} {i : Nat → Int} {fs fo : Int → Int} {R : List Nat} {el : QE} {jj many : Nat} {x p : Int} (hK : okK c) (ht : t < 4) (hs : so < 4) (f2 : fo t = (so : Int)) (z1 : QL[jj]? = some el) (z3 : rpQ QL jj R) (hm : many ≤ 40) (hm2 : many ≤ R.reverse.length) (hd : ∀ u, u ∈ R.reverse → u < 1000) (hel : encC c el.1 < 24000) :
    ∀ (r q : Nat) (h : PH) (fn : Int → Int) (T : TT) (l : List Int), q + r = many → owF ow h → hp h 10 = bkO i → hp h 68 = aL 160 fn → hp h 69 = aI 0 4 fs → hp h 70 = aI 0 4 fo → tyO T fn fs fo → T t = some (so, l) → many ≤ l.length → ComV ow h ca c sky s0 QL sr nc →
    ∃ (g : PH) (fn' : Int → Int), chg ow [12] h g ∧ hp g 68 = aL 160 fn' ∧ tyO (upT T t (some (so, fillL so q ((R.reverse.drop q).take r) l))) fn' fs fo ∧ hp g 69 = aI 0 4 fs ∧ hp g 70 = aI 0 4 fo ∧ ∀ d Q, WP (d + 2) 147 73 [some (vr 10), some (vi t), some (vi x), some (vi p), some (vi (encC c el.1)), some (vi many), some (vi q)] [] h Q = Q (some (vi many)) g := by
  intro r
  induction r with
  | zero =>
    intro q h fn T l hq hF b1 p1 p2 p3 r4 hT hl hV
    have eq : q = many := by omega
    subst eq
    refine ⟨h, fn, chg_r, p1, ?_, p2, p3, fun d Q => ?_⟩
    · rw [List.take_zero]
      have : upT T t (some (so, fillL so q [] l)) = T := by
        funext x
        unfold upT
        by_cases w : x = t
        · rw [if_pos w, w, hT]; rfl
        · rw [if_neg w]
      rw [this]; exact r4
    · rw [e_147_73]
      simp (disch := omega) only [e_147_75, e_147_77, e_147_106, e_147_108, bkO_c, bkO_g0, bkO_k0, bkO_g1, bkO_k1, bkO_g2, bkO_k2, bkO_g3, bkO_k3, bkO_g4, bkO_k4, bkO_g5, bkO_k5, bkO_g6, bkO_k6, bkO_g7, bkO_k7, bkO_g8, bkO_k8, bkO_g9, bkO_k9, bkO_g10, bkO_k10, bkO_g11, bkO_k11, bkO_g12, bkO_k12, bkO_g13, bkO_k13, bkO_g14, bkO_k14, bkO_g15, bkO_k15, bkO_g16, bkO_k16, bkO_g17, bkO_k17, bkO_s12, bkO_s16, bkO_s17, moO_c, moO_g0, moO_k0, moO_g1, moO_k1, moO_g2, moO_k2, moO_g3, moO_k3, moO_s0, moO_s1, moO_s2, moO_s3, hoO_c, hoO_g0, hoO_k0, hoO_g1, hoO_k1, hoO_g2, hoO_k2, hoO_g3, hoO_k3, hoO_g4, hoO_k4, hoO_g5, hoO_k5, hoO_g6, hoO_k6, hoO_g7, hoO_k7, hoO_g8, hoO_k8, hoO_g9, hoO_k9, hoO_s0, hoO_s1, hoO_s2, hoO_s9, iup_s, iup_n, hp_up1, hp_upn, ne_eq, not_false_eq_true, sh_0, sh_1, sh_2, sh_3, sh_4, sh_5, sh_8, sh_15, sh_16, sh_24, Int.reducePow, Int.cast_ofNat_Int, w_of, wl_of, ltT, ltF, leT, leF, eqT, eqF, okF_0, okF_s, gF_0, gF_s, consC_o, sF_0, sF_s, clsO_o, inA_i, ldA_i, stA_i, inJ_l, ldJ_l, stJ_l, inR_r, ldR_r, stR_r, tgR_r, lenA_i, lenA_l, lenA_r, lenA_ex, nl_i, nl_o, nl_l, nl_n, wd_n, wd_i, wd_l, wd_o, fit_i, fit_l, fit_o, K_v, K_n, true_and, and_true, Nat.reduceAdd, Nat.reduceLeDiff, Nat.reduceEqDiff, Nat.reduceMul, Nat.reduceLT, reduceIte, true_or, or_true, cmp_lt, cmp_gt, cmp_eq, wb_0, b_01, cmp_lt', cmp_gt', cmp_eq', b_0, b_1, wb_1, Int.reduceSub, Int.reduceToNat, List.getD_cons_succ, List.getD_cons_zero, Int.reduceLE, Int.reduceLT, Int.reduceEq, Int.reduceNeg, Int.reduceAdd, Int.reduceMul, and_self, em_b, ne_eq, not_false_eq_true, not_true_eq_false]
      try rfl
  | succ r ih =>
    intro q h fn T l hq hF b1 p1 p2 p3 r4 hT hl hV
    have hv : R.reverse[q]? = some R.reverse[q] := List.getElem?_eq_getElem (by omega)
    have hdr := drop_at hv
    generalize R.reverse[q] = v at hv hdr
    have hvb := hd v (List.mem_of_getElem? hv)
    have da := C_deedAt (I := q) hK (by omega) hV z3 z1
    have en : nthA R.reverse q = (v : Int) := by unfold nthA; rw [hv]
    rw [en] at da
    have st := C_store (v := (v : Int)) b1 p1 p3 hs f2 ht (show q < 40 by omega)
    obtain ⟨-, -, -, -, t68, t69, t70, t10, -⟩ := tg_64 hF
    have hch : chg ow [12] h (hup h 68 (aL 160 (fset fn ((40 * t + q : Nat) : Int) (cutV so (v : Int))))) := chg_up t68 (by decide)
    have hV2 := ComV_c hF hch (by decide) hV
    obtain ⟨g, fn', a1, a2, a3, a4, a5, a6⟩ := ih (q + 1) _ _ (upT T t (some (so, l.set q (cutV so (v : Int))))) (l.set q (cutV so (v : Int))) (by omega) (chg_F hch hF) (by rw [hp_upn (by omega)]; exact b1) hp_up1 (by rw [hp_upn (by omega)]; exact p2) (by rw [hp_upn (by omega)]; exact p3) (tyO_set r4 ht hT (by omega) (cutV_64 ⟨by omega, by omega⟩)) upT_s (by rw [List.length_set]; exact hl) hV2
    refine ⟨g, fn', chg_t hch a1, a2, ?_, a4, a5, fun d Q => ?_⟩
    · rw [hdr, List.take_succ_cons]
      have : upT (upT T t (some (so, l.set q (cutV so (v : Int))))) t (some (so, fillL so (q + 1) ((R.reverse.drop (q + 1)).take r) (l.set q (cutV so (v : Int))))) = upT T t (some (so, fillL so q (v :: (R.reverse.drop (q + 1)).take r) l)) := by
        funext x
        unfold upT
        by_cases w : x = t
        · rw [if_pos w, if_pos w]; rfl
        · rw [if_neg w, if_neg w, if_neg w]
      rw [← this]; exact a3
    · rw [← a6 d Q]
      have eq1 : (q : Int) + 1 = ((q + 1 : Nat) : Int) := by omega
      obtain ⟨ic, c1, c2, c3, c38⟩ : ∃ i a b c, hp h 38 = cmO i a b c := by
        obtain ⟨i, q, g, fq, fg, v1, _⟩ := hV; exact ⟨i, _, _, _, v1.1⟩
      rw [e_147_73]
      simp (disch := omega) only [e_147_75, e_147_77, e_147_80, e_147_81, e_147_82, e_147_84, e_147_85, e_147_88, e_147_90, e_147_92, e_147_95, e_147_96, e_147_99, e_147_100, e_147_103, b1, c38, da, st, eq1, true_and, bkO_c, bkO_g0, bkO_k0, bkO_g1, bkO_k1, bkO_g2, bkO_k2, bkO_g3, bkO_k3, bkO_g4, bkO_k4, bkO_g5, bkO_k5, bkO_g6, bkO_k6, bkO_g7, bkO_k7, bkO_g8, bkO_k8, bkO_g9, bkO_k9, bkO_g10, bkO_k10, bkO_g11, bkO_k11, bkO_g12, bkO_k12, bkO_g13, bkO_k13, bkO_g14, bkO_k14, bkO_g15, bkO_k15, bkO_g16, bkO_k16, bkO_g17, bkO_k17, bkO_s12, bkO_s16, bkO_s17, moO_c, moO_g0, moO_k0, moO_g1, moO_k1, moO_g2, moO_k2, moO_g3, moO_k3, moO_s0, moO_s1, moO_s2, moO_s3, hoO_c, hoO_g0, hoO_k0, hoO_g1, hoO_k1, hoO_g2, hoO_k2, hoO_g3, hoO_k3, hoO_g4, hoO_k4, hoO_g5, hoO_k5, hoO_g6, hoO_k6, hoO_g7, hoO_k7, hoO_g8, hoO_k8, hoO_g9, hoO_k9, hoO_s0, hoO_s1, hoO_s2, hoO_s9, toO_c, toO_g0, toO_k0, toO_g1, toO_k1, toO_g2, toO_k2, toO_g3, toO_k3, toO_g4, toO_k4, toO_g5, toO_k5, toO_g6, toO_k6, toO_s1, toO_s2, toO_s3, toO_s4, toO_s6, rwO_c, rwO_g0, rwO_k0, rwO_g1, rwO_k1, rwO_g2, rwO_k2, rwO_g3, rwO_k3, rwO_g4, rwO_k4, rwO_g5, rwO_k5, rwO_g6, rwO_k6, rwO_s1, rwO_s2, rwO_s4, tkO_c, tkO_g0, tkO_k0, tkO_g1, tkO_k1, tkO_g2, tkO_k2, tkO_g3, tkO_k3, tkO_g4, tkO_k4, tkO_g5, tkO_k5, tkO_g6, tkO_k6, tkO_g7, tkO_k7, tkO_g8, tkO_k8, tkO_s1, tkO_s2, tkO_s3, tkO_s4, tkO_s5, tkO_s6, tkO_s7, tkO_s8, rdO_c, rdO_g0, rdO_k0, rdO_g1, rdO_k1, rdO_g2, rdO_k2, rdO_g3, rdO_k3, rdO_g4, rdO_k4, rdO_g5, rdO_k5, rdO_g6, rdO_k6, rdO_g7, rdO_k7, rdO_g8, rdO_k8, rdO_g9, rdO_k9, rdO_g10, rdO_k10, rdO_g11, rdO_k11, rdO_g12, rdO_k12, rdO_g13, rdO_k13, rdO_g14, rdO_k14, rdO_g15, rdO_k15, rdO_g16, rdO_k16, rdO_g17, rdO_k17, rdO_s2, rdO_s3, rdO_s4, rdO_s10, rdO_s11, rdO_s12, rdO_s13, rdO_s14, rdO_s15, rdO_s16, rdO_s17, kpO_c, kpO_g0, kpO_k0, kpO_g1, kpO_k1, kpO_g2, kpO_k2, kpO_g3, kpO_k3, kpO_g4, kpO_k4, kpO_g5, kpO_k5, kpO_g6, kpO_k6, kpO_s1, kpO_s2, kpO_s3, kpO_s4, beO_c, beO_g0, beO_k0, beO_g1, beO_k1, beO_g2, beO_k2, beO_g3, beO_k3, beO_g4, beO_k4, beO_s1, beO_s2, beO_s3, beO_s4, cmO_c, cmO_g0, cmO_k0, cmO_g1, cmO_k1, cmO_g2, cmO_k2, cmO_g3, cmO_k3, cmO_g4, cmO_k4, cmO_g5, cmO_k5, cmO_g6, cmO_k6, cmO_s0, cmO_s1, cmO_s2, cmO_s3, cmO_s4, cmO_s5, cmO_s6, dkO_c, dkO_g0, dkO_k0, dkO_g1, dkO_k1, dkO_g2, dkO_k2, dkO_s0, dkO_s1, dkO_s2, iup_s, iup_n, hp_up1, hp_upn, ne_eq, not_false_eq_true, sh_0, sh_1, sh_2, sh_3, sh_4, sh_5, sh_8, sh_15, sh_16, sh_24, Int.reducePow, Int.cast_ofNat_Int, w_of, wl_of, ltT, ltF, leT, leF, eqT, eqF, okF_0, okF_s, gF_0, gF_s, consC_o, sF_0, sF_s, clsO_o, inA_i, ldA_i, stA_i, inJ_l, ldJ_l, stJ_l, inR_r, ldR_r, stR_r, tgR_r, lenA_i, lenA_l, lenA_r, lenA_ex, nl_i, nl_o, nl_l, nl_n, wd_n, wd_i, wd_l, wd_o, fit_i, fit_l, fit_o, K_v, K_n, true_and, and_true, Nat.reduceAdd, Nat.reduceLeDiff, Nat.reduceEqDiff, Nat.reduceMul, Nat.reduceLT, reduceIte, true_or, or_true, cmp_lt, cmp_gt, cmp_eq, wb_0, b_01, cmp_lt', cmp_gt', cmp_eq', b_0, b_1, wb_1, Int.reduceSub, Int.reduceToNat, List.getD_cons_succ, List.getD_cons_zero, Int.reduceLE, Int.reduceLT, Int.reduceEq, Int.reduceNeg, Int.reduceAdd, Int.reduceMul, and_self, em_b, ne_eq, not_false_eq_true, not_true_eq_false]
      try rfl
end parts
