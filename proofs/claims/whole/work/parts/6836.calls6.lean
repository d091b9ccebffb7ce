/-! THE CLASS: what can be undone; hour, meal, weather, undo -/
def shF (f : Int → Int) : Int → Int := fun j => if 0 ≤ j ∧ j < 27 then f (j + 3) else f j
theorem rm_cp {d : Nat} {ls : PL} {Q : PQ} {h : PH} {f : Int → Int} (ha : hp h 67 = aI 0 30 f) : WP d 159 26 ls [vi 27, vi 0, vr 67, vi 3, vr 67] h Q = WP d 159 29 ls [] (hup h 67 (aI 0 30 (shF f))) Q := by
  rw [e_159_26 ha ha]
  have e : (fun j : Int => if w 0 ≤ j ∧ j < w 0 + w 27 then f (j - w 0 + w 3) else f j) = shF f := by
    funext j
    unfold shF
    rw [show w 0 = 0 from rfl, show w 27 = 27 from rfl, show w 3 = 3 from rfl, Int.sub_zero, Int.zero_add]
  rw [e]
  exact propext ⟨fun z => z.2, fun z => ⟨⟨by omega, by omega, by decide, by decide, by decide, by decide, by decide, by decide⟩, z⟩⟩
def put3 (f : Int → Int) (k : Nat) (a b c : Int) : Int → Int := fset (fset (fset f ((3 * k : Nat) : Int) a) ((3 * k + 1 : Nat) : Int) b) ((3 * k + 2 : Nat) : Int) c
theorem put3_s {f : Int → Int} {k : Nat} {a b c : Int} : put3 f k a b c ((3 * k : Nat) : Int) = a ∧ put3 f k a b c ((3 * k + 1 : Nat) : Int) = b ∧ put3 f k a b c ((3 * k + 2 : Nat) : Int) = c := by
  unfold put3
  refine ⟨?_, ?_, fs_same⟩
  · rw [fs_ne (by omega), fs_ne (by omega), fs_same]
  · rw [fs_ne (by omega), fs_same]
theorem put3_n {f : Int → Int} {k j : Nat} {a b c : Int} (h : j < 3 * k) : put3 f k a b c (j : Int) = f j := by
  unfold put3
  rw [fs_ne (by omega), fs_ne (by omega), fs_ne (by omega)]
theorem bk_rem {ow : Nat → Nat} {h : PH} {c : KC} {past : List ZT} {z : ZT} {a : Nat} {i j : Nat → Int} {p : PV} (hF : owF ow h) (b1 : hp h 10 = bkO i) (b2 : i 12 = (past.length : Int)) (hP : PaP h c past) (ha : hp h a = moO j p) (j1 : j 1 = (encC c z.1 : Int)) (j2 : j 2 = (z.2.1 : Int)) (j3 : j 3 = (z.2.2 : Int)) (hz : okZ c z) (a10 : a ≠ 10) (a67 : a ≠ 67) : ∃ (h' : PH) (i' : Nat → Int), chg ow [11, 16] h h' ∧ hp h' 10 = bkO i' ∧ i' 12 = ((pushZ z past).length : Int) ∧ i' 16 = i 16 ∧ i' 17 = i 17 ∧ PaP h' c (pushZ z past) ∧ ∀ d Q, WP d 159 0 [some (vr 10), some (vr a), none] [] h Q = Q none h' := by
  obtain ⟨f, p1, p2, p3, p4⟩ := hP
  have t10 : ow 10 = 11 := hF.2 10 (by omega)
  have t67 : ow 67 = 16 := hF.2 67 (by omega)
  by_cases hl : past.length = 10
  · have el : (pushZ z past).length = 10 := by unfold pushZ; rw [if_pos hl, List.length_append, List.length_drop, hl]; rfl
    have hch : chg ow [11, 16] h (hup (hup (hup (hup h 67 (aI 0 30 (shF f))) 10 (bkO (iup i 12 9))) 67 (aI 0 30 (put3 (shF f) 9 (encC c z.1) z.2.1 z.2.2))) 10 (bkO (iup (iup i 12 9) 12 10))) := chg_t (chg_t (chg_t (chg_up t67 (by decide)) (chg_up t10 (by decide))) (chg_up t67 (by decide))) (chg_up t10 (by decide))
    refine ⟨_, _, hch, hp_up1, by rw [iup_s, el]; rfl, by rw [iup_n (by omega), iup_n (by omega)], by rw [iup_n (by omega), iup_n (by omega)], ⟨_, by rw [hp_upn (by omega), hp_up1], by omega, push_ok hz p3, fun k y hy => ?_⟩, fun d Q => ?_⟩
    · have hk : k < 10 := by have := (List.getElem?_eq_some_iff.mp hy).1; omega
      unfold pushZ at hy
      rw [if_pos hl] at hy
      by_cases q : k = 9
      · subst q
        have hdl : (past.drop 1).length = 9 := by rw [List.length_drop, hl]
        rw [List.getElem?_append_right (by omega), hdl, Nat.sub_self] at hy
        have ey : z = y := Option.some.inj hy
        rw [← ey]
        exact put3_s
      · rw [List.getElem?_append_left (by rw [List.length_drop, hl]; omega), List.getElem?_drop] at hy
        obtain ⟨g1, g2, g3⟩ := p4 (1 + k) y hy
        have sh : ∀ m : Nat, m < 27 → put3 (shF f) 9 (encC c z.1) z.2.1 z.2.2 (m : Int) = f ((m + 3 : Nat) : Int) := fun m hm => by
          rw [put3_n (by omega)]
          unfold shF
          rw [if_pos (by omega)]
          congr 1
        rw [sh _ (by omega), sh _ (by omega), sh _ (by omega)]
        rw [show 3 * k + 3 = 3 * (1 + k) by omega, show 3 * k + 1 + 3 = 3 * (1 + k) + 1 by omega, show 3 * k + 2 + 3 = 3 * (1 + k) + 2 by omega]
        exact ⟨g1, g2, g3⟩
    · rw [hl] at b2
      have b2' : i 12 = 10 := b2
      have cp := fun (d : Nat) (ls : PL) (Q : PQ) => rm_cp (d := d) (ls := ls) (Q := Q) p1
      have e30 : ((30 : Nat) : Int) = 30 := rfl
      have a10' : a ≠ 10 := a10
      have pe : put3 (shF f) 9 (encC c z.1) z.2.1 z.2.2 = fset (fset (fset (shF f) 27 (encC c z.1)) 28 z.2.1) 29 z.2.2 := rfl
      rw [pe]
      simp (disch := omega) only [e_159_0, e_159_1, e_159_4, e_159_6, e_159_9, e_159_10, e_159_13, e_159_14, e_159_15, e_159_18, e_159_19, e_159_20, e_159_23, e_159_24, e_159_25, e_159_29, e_159_30i, e_159_30a, e_159_31, e_159_34, e_159_35, e_159_36, e_159_39, e_159_40, e_159_43, e_159_44, e_159_45, e_159_46, e_159_47, e_159_50, e_159_51, e_159_52, e_159_55, e_159_56, e_159_57, e_159_60, e_159_61, e_159_62, e_159_63, e_159_64, e_159_67, e_159_68, e_159_69, e_159_72, e_159_73, e_159_74, e_159_75, e_159_76, e_159_79, e_159_80, e_159_81i, e_159_81a, e_159_82, e_159_85, e_159_86, e_159_87, e_159_90, b1, b2', p1, cp, e30, ha, j1, j2, j3, hup_tt, true_and, bkO_c, bkO_g0, bkO_k0, bkO_g1, bkO_k1, bkO_g2, bkO_k2, bkO_g3, bkO_k3, bkO_g4, bkO_k4, bkO_g5, bkO_k5, bkO_g6, bkO_k6, bkO_g7, bkO_k7, bkO_g8, bkO_k8, bkO_g9, bkO_k9, bkO_g10, bkO_k10, bkO_g11, bkO_k11, bkO_g12, bkO_k12, bkO_g13, bkO_k13, bkO_g14, bkO_k14, bkO_g15, bkO_k15, bkO_g16, bkO_k16, bkO_g17, bkO_k17, bkO_s12, bkO_s16, bkO_s17, moO_c, moO_g0, moO_k0, moO_g1, moO_k1, moO_g2, moO_k2, moO_g3, moO_k3, moO_s0, moO_s1, moO_s2, moO_s3, hoO_c, hoO_g0, hoO_k0, hoO_g1, hoO_k1, hoO_g2, hoO_k2, hoO_g3, hoO_k3, hoO_g4, hoO_k4, hoO_g5, hoO_k5, hoO_g6, hoO_k6, hoO_g7, hoO_k7, hoO_g8, hoO_k8, hoO_g9, hoO_k9, hoO_s0, hoO_s1, hoO_s2, hoO_s9, iup_s, iup_n, hp_up1, hp_upn, ne_eq, not_false_eq_true, sh_0, sh_1, sh_2, sh_3, sh_4, sh_5, sh_8, sh_15, sh_16, sh_24, Int.reducePow, Int.cast_ofNat_Int, w_of, wl_of, ltT, ltF, leT, leF, eqT, eqF, okF_0, okF_s, gF_0, gF_s, consC_o, sF_0, sF_s, clsO_o, inA_i, ldA_i, stA_i, inJ_l, ldJ_l, stJ_l, inR_r, ldR_r, stR_r, tgR_r, lenA_i, lenA_l, lenA_r, lenA_ex, nl_i, nl_o, nl_l, nl_n, wd_n, wd_i, wd_l, wd_o, fit_i, fit_l, fit_o, K_v, K_n, true_and, and_true, Nat.reduceAdd, Nat.reduceLeDiff, Nat.reduceEqDiff, Nat.reduceMul, Nat.reduceLT, reduceIte, true_or, or_true, cmp_lt, cmp_gt, cmp_eq, wb_0, b_01, cmp_lt', cmp_gt', cmp_eq', b_0, b_1, wb_1, Int.reduceSub, Int.reduceToNat, List.getD_cons_succ, List.getD_cons_zero, Int.reduceLE, Int.reduceLT, Int.reduceEq, Int.reduceNeg, Int.reduceAdd, Int.reduceMul, and_self, em_b, ne_eq, not_false_eq_true, not_true_eq_false]
      try rfl
  · have el : (pushZ z past).length = past.length + 1 := by unfold pushZ; rw [if_neg hl, List.length_append]; rfl
    have hch : chg ow [11, 16] h (hup (hup h 67 (aI 0 30 (put3 f past.length (encC c z.1) z.2.1 z.2.2))) 10 (bkO (iup i 12 ((past.length : Int) + 1)))) := chg_t (chg_up t67 (by decide)) (chg_up t10 (by decide))
    refine ⟨_, _, hch, hp_up1, by rw [iup_s, el]; omega, by rw [iup_n (by omega)], by rw [iup_n (by omega)], ⟨_, by rw [hp_upn (by omega), hp_up1], by omega, push_ok hz p3, fun k y hy => ?_⟩, fun d Q => ?_⟩
    · have hk : k < past.length + 1 := by have := (List.getElem?_eq_some_iff.mp hy).1; omega
      unfold pushZ at hy
      rw [if_neg hl] at hy
      by_cases q : k = past.length
      · subst q
        rw [List.getElem?_append_right (Nat.le_refl _), Nat.sub_self] at hy
        have ey : z = y := Option.some.inj hy
        rw [← ey]
        exact put3_s
      · rw [List.getElem?_append_left (by omega)] at hy
        obtain ⟨g1, g2, g3⟩ := p4 k y hy
        rw [put3_n (by omega), put3_n (by omega), put3_n (by omega)]
        exact ⟨g1, g2, g3⟩
    · have e0 : (past.length : Int) * 3 = ((3 * past.length : Nat) : Int) := by omega
      have e1 : ((3 * past.length : Nat) : Int) + 1 = ((3 * past.length + 1 : Nat) : Int) := by omega
      have e2 : ((3 * past.length : Nat) : Int) + 2 = ((3 * past.length + 2 : Nat) : Int) := by omega
      unfold put3
      simp (disch := omega) only [e_159_0, e_159_1, e_159_4, e_159_6, e_159_39, e_159_40, e_159_43, e_159_44, e_159_45, e_159_46, e_159_47, e_159_50, e_159_51, e_159_52, e_159_55, e_159_56, e_159_57, e_159_60, e_159_61, e_159_62, e_159_63, e_159_64, e_159_67, e_159_68, e_159_69, e_159_72, e_159_73, e_159_74, e_159_75, e_159_76, e_159_79, e_159_80, e_159_81i, e_159_81a, e_159_82, e_159_85, e_159_86, e_159_87, e_159_90, b1, b2, p1, ha, j1, j2, j3, e0, e1, e2, hup_tt, true_and, bkO_c, bkO_g0, bkO_k0, bkO_g1, bkO_k1, bkO_g2, bkO_k2, bkO_g3, bkO_k3, bkO_g4, bkO_k4, bkO_g5, bkO_k5, bkO_g6, bkO_k6, bkO_g7, bkO_k7, bkO_g8, bkO_k8, bkO_g9, bkO_k9, bkO_g10, bkO_k10, bkO_g11, bkO_k11, bkO_g12, bkO_k12, bkO_g13, bkO_k13, bkO_g14, bkO_k14, bkO_g15, bkO_k15, bkO_g16, bkO_k16, bkO_g17, bkO_k17, bkO_s12, bkO_s16, bkO_s17, moO_c, moO_g0, moO_k0, moO_g1, moO_k1, moO_g2, moO_k2, moO_g3, moO_k3, moO_s0, moO_s1, moO_s2, moO_s3, hoO_c, hoO_g0, hoO_k0, hoO_g1, hoO_k1, hoO_g2, hoO_k2, hoO_g3, hoO_k3, hoO_g4, hoO_k4, hoO_g5, hoO_k5, hoO_g6, hoO_k6, hoO_g7, hoO_k7, hoO_g8, hoO_k8, hoO_g9, hoO_k9, hoO_s0, hoO_s1, hoO_s2, hoO_s9, iup_s, iup_n, hp_up1, hp_upn, ne_eq, not_false_eq_true, sh_0, sh_1, sh_2, sh_3, sh_4, sh_5, sh_8, sh_15, sh_16, sh_24, Int.reducePow, Int.cast_ofNat_Int, w_of, wl_of, ltT, ltF, leT, leF, eqT, eqF, okF_0, okF_s, gF_0, gF_s, consC_o, sF_0, sF_s, clsO_o, inA_i, ldA_i, stA_i, inJ_l, ldJ_l, stJ_l, inR_r, ldR_r, stR_r, tgR_r, lenA_i, lenA_l, lenA_r, lenA_ex, nl_i, nl_o, nl_l, nl_n, wd_n, wd_i, wd_l, wd_o, fit_i, fit_l, fit_o, K_v, K_n, true_and, and_true, Nat.reduceAdd, Nat.reduceLeDiff, Nat.reduceEqDiff, Nat.reduceMul, Nat.reduceLT, reduceIte, true_or, or_true, cmp_lt, cmp_gt, cmp_eq, wb_0, b_01, cmp_lt', cmp_gt', cmp_eq', b_0, b_1, wb_1, Int.reduceSub, Int.reduceToNat, List.getD_cons_succ, List.getD_cons_zero, Int.reduceLE, Int.reduceLT, Int.reduceEq, Int.reduceNeg, Int.reduceAdd, Int.reduceMul, and_self, em_b, ne_eq, not_false_eq_true, not_true_eq_false]
      try rfl
/-- other deeds and what can be undone: what stands then -/
theorem bk_z {kc : Nat → KC} {ow : Nat → Nat} {h h' : PH} {M : MS} {S0 e e' k : Nat} {ca0 sky0 : Nat} {z : ZT} {past : List ZT} {T : List Nat} (hB : bkI kc ow h M S0 e k) (hx : chg ow T h h') (hT : ∀ t, t ∈ T → t ∈ [1, 8, 9, 11, 16]) (hH : HoP ow h' ca0 (kc ca0) sky0 e') (he : e' ≤ e + 50) (hO : ∃ i : Nat → Int, hp h' 10 = bkO i ∧ i 12 = (past.length : Int) ∧ i 16 = mF M ∧ i 17 = mG M) (hM : ∃ ca, kc ca = mC M ∧ MoP ow h' 64 ca (mC M) z) (hT65 : ∃ i p, hp h' 65 = moO i p) (hP : PaP h' (mC M) past) : bkI kc ow h' (setZ M z past) S0 e' (k + 1) ∧ extO ow h ow h' allT := by
  obtain ⟨hF, ⟨s1, s2, s3, s4, s5, s6, s7, s8⟩, -, he0, nd, nc, nk, nr, nb, hE, hR⟩ := hB
  have hx' := ext_c hx
  have no : ∀ t, t ∈ [0, 2, 3, 4, 5, 6, 7, 10, 12, 13, 14, 17, 18, 20] → ¬ t ∈ T := fun t ht z => by
    have := hT t z
    simp only [List.mem_cons, List.not_mem_nil, or_false] at this ht
    omega
  refine ⟨⟨ext_F hx' hF, ⟨hO, hM, hT65, ImP_e hF hx' (no 0 (by decide)) (no 10 (by decide)) s4, hP, TrP_e hF hx' (no 12 (by decide)) s6, TkP_e hF hx' (no 13 (by decide)) s7, RdP_e hF hx' (no 14 (by decide)) s8⟩, ⟨ca0, sky0, hH⟩, by omega, nd, nc, nk, nr, nb, EngP_e hF hx' (fun t ht => no t (by
    simp only [List.mem_cons, List.not_mem_nil, or_false] at ht ⊢
    omega)) hE, room_up (room_same hx.1 hx.2.1 hR)⟩, ext_w hx' (fun t ht => ?_)⟩
  have := hT t ht
  unfold allT
  simp only [List.mem_cons, List.not_mem_nil, or_false] at this ⊢
  omega
