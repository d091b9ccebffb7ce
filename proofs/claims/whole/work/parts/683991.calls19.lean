/-! THE CLASS: feed -/
section parts
variable {kc : Nat → KC} {ow : Nat → Nat} {M : MS} {S0 e k : Nat}
theorem pt_1 {h : PH} {b : List Int} {x : Int} {s : Nat} (hF : owF ow h) (hV : TkP h b) (hl : b.length < 900) (h1 : -2147483648 ≤ x) (h2 : x < 2147483648) (hs : s ≤ 24) : ∃ g, chg ow [13] h g ∧ TkP g (b ++ [x / 2 ^ s % 256]) ∧ ∀ d Q, WP d 91 12 [some (vr 11), some (vi x), some (vi s)] [] h Q = WP d 91 12 [some (vr 11), some (vi x), some (vi ((s : Int) - 8))] [] g Q := by
  obtain ⟨i, f, v1, v2, v3, v4, v5⟩ := hV
  obtain ⟨-, -, -, -, -, -, -, -, t11, t12⟩ := tg_64 hF
  have hb := (bmod_b (x / 2 ^ s)).1
  have hch : chg ow [13] h (hup (hup h 12 (aI 1 900 (fset f b.length (Int.bmod (x / 2 ^ s) 256)))) 11 (tkO (iup i 1 ((b.length : Int) + 1)))) := chg_t (chg_up t12 (by decide)) (chg_up t11 (by decide))
  refine ⟨_, hch, ⟨_, _, hp_up1, by rw [hp_upn (by omega), hp_up1], by rw [iup_s, List.length_append]; rfl, by rw [List.length_append]; show b.length + 1 ≤ 900; omega, fun m y hy => ?_⟩, fun d Q => ?_⟩
  · by_cases w : m < b.length
    · rw [List.getElem?_append_left w] at hy
      rw [fs_ne (by omega)]; exact v5 m y hy
    · have hml := (List.getElem?_eq_some_iff.mp hy).1
      rw [List.length_append] at hml
      have hm2 : m = b.length := by simp only [List.length_cons, List.length_nil] at hml; omega
      rw [List.getElem?_append_right (by omega), hm2, Nat.sub_self] at hy
      cases hy
      rw [hm2, fs_same]
      exact ⟨(Int.emod_bmod (x / 2 ^ s) 256).symm, Int.emod_nonneg _ (by omega), Int.emod_lt_of_pos _ (by omega)⟩
  · have es : sh (s : Int) = s := sh_nat (by omega)
    have em : (s : Int) + (-8) = (s : Int) - 8 := by omega
    rw [e_91_12]
    simp (disch := omega) only [e_91_13, e_91_16, e_91_17, e_91_20, e_91_21, e_91_24, e_91_25, e_91_26, e_91_27, e_91_28, e_91_29, e_91_30i, e_91_30a, e_91_31, e_91_34, e_91_35, e_91_36, e_91_39, e_91_42, v1, v2, v3, es, em, true_and, tkO_c, tkO_g0, tkO_k0, tkO_g1, tkO_k1, tkO_g2, tkO_k2, tkO_g3, tkO_k3, tkO_g4, tkO_k4, tkO_g5, tkO_k5, tkO_g6, tkO_k6, tkO_g7, tkO_k7, tkO_g8, tkO_k8, tkO_s1, tkO_s2, tkO_s3, tkO_s4, tkO_s5, tkO_s6, tkO_s7, tkO_s8, rdO_c, rdO_g0, rdO_k0, rdO_g1, rdO_k1, rdO_g2, rdO_k2, rdO_g3, rdO_k3, rdO_g4, rdO_k4, rdO_g5, rdO_k5, rdO_g6, rdO_k6, rdO_g7, rdO_k7, rdO_g8, rdO_k8, rdO_g9, rdO_k9, rdO_g10, rdO_k10, rdO_g11, rdO_k11, rdO_g12, rdO_k12, rdO_g13, rdO_k13, rdO_g14, rdO_k14, rdO_g15, rdO_k15, rdO_g16, rdO_k16, rdO_g17, rdO_k17, rdO_s2, rdO_s3, rdO_s4, rdO_s10, rdO_s11, rdO_s12, rdO_s13, rdO_s14, rdO_s15, rdO_s16, rdO_s17, iup_s, iup_n, hp_up1, hp_upn, ne_eq, not_false_eq_true, sh_0, sh_1, sh_2, sh_3, sh_4, sh_5, sh_8, sh_15, sh_16, sh_24, Int.reducePow, Int.cast_ofNat_Int, w_of, wl_of, ltT, ltF, leT, leF, eqT, eqF, okF_0, okF_s, gF_0, gF_s, consC_o, sF_0, sF_s, clsO_o, inA_i, ldA_i, stA_i, inJ_l, ldJ_l, stJ_l, inR_r, ldR_r, stR_r, tgR_r, lenA_i, lenA_l, lenA_r, lenA_ex, nl_i, nl_o, nl_l, nl_n, wd_n, wd_i, wd_l, wd_o, fit_i, fit_l, fit_o, K_v, K_n, true_and, and_true, Nat.reduceAdd, Nat.reduceLeDiff, Nat.reduceEqDiff, Nat.reduceMul, Nat.reduceLT, reduceIte, true_or, or_true, cmp_lt, cmp_gt, cmp_eq, wb_0, b_01, cmp_lt', cmp_gt', cmp_eq', b_0, b_1, wb_1, Int.reduceSub, Int.reduceToNat, List.getD_cons_succ, List.getD_cons_zero, Int.reduceLE, Int.reduceLT, Int.reduceEq, Int.reduceNeg, Int.reduceAdd, Int.reduceMul, and_self, em_b, ne_eq, not_false_eq_true, not_true_eq_false]
    try rfl
theorem C_put {h : PH} {b : List Int} {x : Int} (hF : owF ow h) (hV : TkP h b) (hl : b.length + 4 ≤ 900) (h1 : -2147483648 ≤ x) (h2 : x < 2147483648) : ∃ g, chg ow [13] h g ∧ TkP g (b ++ [x / 2 ^ 24 % 256, x / 2 ^ 16 % 256, x / 2 ^ 8 % 256, x / 2 ^ 0 % 256]) ∧ ∀ d Q, WP (d + 1) 91 0 [some (vr 11), some (vi x), none] [] h Q = Q none g := by
  obtain ⟨g1, a1, a2, a3⟩ := pt_1 (s := 24) hF hV (by omega) h1 h2 (by omega)
  have hF1 := chg_F a1 hF
  obtain ⟨g2, b1, b2, b3⟩ := pt_1 (s := 16) hF1 a2 (by rw [List.length_append]; show b.length + 1 < 900; omega) h1 h2 (by omega)
  have hF2 := chg_F b1 hF1
  obtain ⟨g3, c1, c2, c3⟩ := pt_1 (s := 8) hF2 b2 (by rw [List.length_append, List.length_append]; show b.length + 1 + 1 < 900; omega) h1 h2 (by omega)
  have hF3 := chg_F c1 hF2
  obtain ⟨g4, d1, d2, d3⟩ := pt_1 (s := 0) hF3 c2 (by rw [List.length_append, List.length_append, List.length_append]; show b.length + 1 + 1 + 1 < 900; omega) h1 h2 (by omega)
  refine ⟨g4, chg_t a1 (chg_t b1 (chg_t c1 d1)), ?_, fun d Q => ?_⟩
  · rw [List.append_assoc, List.append_assoc, List.append_assoc] at d2
    exact d2
  · obtain ⟨i, f, v1, v2, v3, v4, v5⟩ := hV
    have a3' := a3 (d + 1) Q
    have b3' := b3 (d + 1) Q
    have c3' := c3 (d + 1) Q
    have d3' := d3 (d + 1) Q
    simp only [show ((24 : Nat) : Int) = 24 from rfl, show ((16 : Nat) : Int) = 16 from rfl, show ((8 : Nat) : Int) = 8 from rfl, show ((0 : Nat) : Int) = 0 from rfl, Int.reduceSub] at a3' b3' c3' d3'
    have st : WP (d + 1) 91 0 [some (vr 11), some (vi x), none] [] h Q = WP (d + 1) 91 12 [some (vr 11), some (vi x), some (vi 24)] [] h Q := by
      simp (disch := omega) only [e_91_0, e_91_1, e_91_2, e_91_5, e_91_8, e_91_9, e_91_11, e_90_0, e_90_1, e_90_4, e_90_5, e_90_6, e_90_9, e_90_12, e_90_13, e_90_16, e_90_17, v1, v3, true_and, tkO_c, tkO_g0, tkO_k0, tkO_g1, tkO_k1, tkO_g2, tkO_k2, tkO_g3, tkO_k3, tkO_g4, tkO_k4, tkO_g5, tkO_k5, tkO_g6, tkO_k6, tkO_g7, tkO_k7, tkO_g8, tkO_k8, tkO_s1, tkO_s2, tkO_s3, tkO_s4, tkO_s5, tkO_s6, tkO_s7, tkO_s8, rdO_c, rdO_g0, rdO_k0, rdO_g1, rdO_k1, rdO_g2, rdO_k2, rdO_g3, rdO_k3, rdO_g4, rdO_k4, rdO_g5, rdO_k5, rdO_g6, rdO_k6, rdO_g7, rdO_k7, rdO_g8, rdO_k8, rdO_g9, rdO_k9, rdO_g10, rdO_k10, rdO_g11, rdO_k11, rdO_g12, rdO_k12, rdO_g13, rdO_k13, rdO_g14, rdO_k14, rdO_g15, rdO_k15, rdO_g16, rdO_k16, rdO_g17, rdO_k17, rdO_s2, rdO_s3, rdO_s4, rdO_s10, rdO_s11, rdO_s12, rdO_s13, rdO_s14, rdO_s15, rdO_s16, rdO_s17, iup_s, iup_n, hp_up1, hp_upn, ne_eq, not_false_eq_true, sh_0, sh_1, sh_2, sh_3, sh_4, sh_5, sh_8, sh_15, sh_16, sh_24, Int.reducePow, Int.cast_ofNat_Int, w_of, wl_of, ltT, ltF, leT, leF, eqT, eqF, okF_0, okF_s, gF_0, gF_s, consC_o, sF_0, sF_s, clsO_o, inA_i, ldA_i, stA_i, inJ_l, ldJ_l, stJ_l, inR_r, ldR_r, stR_r, tgR_r, lenA_i, lenA_l, lenA_r, lenA_ex, nl_i, nl_o, nl_l, nl_n, wd_n, wd_i, wd_l, wd_o, fit_i, fit_l, fit_o, K_v, K_n, true_and, and_true, Nat.reduceAdd, Nat.reduceLeDiff, Nat.reduceEqDiff, Nat.reduceMul, Nat.reduceLT, reduceIte, true_or, or_true, cmp_lt, cmp_gt, cmp_eq, wb_0, b_01, cmp_lt', cmp_gt', cmp_eq', b_0, b_1, wb_1, Int.reduceSub, Int.reduceToNat, List.getD_cons_succ, List.getD_cons_zero, Int.reduceLE, Int.reduceLT, Int.reduceEq, Int.reduceNeg, Int.reduceAdd, Int.reduceMul, and_self, em_b, ne_eq, not_false_eq_true, not_true_eq_false]
      try rfl
    rw [st, a3', b3', c3', d3']
    rw [e_91_12]
    simp (disch := omega) only [e_91_13, e_91_45, tkO_c, tkO_g0, tkO_k0, tkO_g1, tkO_k1, tkO_g2, tkO_k2, tkO_g3, tkO_k3, tkO_g4, tkO_k4, tkO_g5, tkO_k5, tkO_g6, tkO_k6, tkO_g7, tkO_k7, tkO_g8, tkO_k8, tkO_s1, tkO_s2, tkO_s3, tkO_s4, tkO_s5, tkO_s6, tkO_s7, tkO_s8, rdO_c, rdO_g0, rdO_k0, rdO_g1, rdO_k1, rdO_g2, rdO_k2, rdO_g3, rdO_k3, rdO_g4, rdO_k4, rdO_g5, rdO_k5, rdO_g6, rdO_k6, rdO_g7, rdO_k7, rdO_g8, rdO_k8, rdO_g9, rdO_k9, rdO_g10, rdO_k10, rdO_g11, rdO_k11, rdO_g12, rdO_k12, rdO_g13, rdO_k13, rdO_g14, rdO_k14, rdO_g15, rdO_k15, rdO_g16, rdO_k16, rdO_g17, rdO_k17, rdO_s2, rdO_s3, rdO_s4, rdO_s10, rdO_s11, rdO_s12, rdO_s13, rdO_s14, rdO_s15, rdO_s16, rdO_s17, iup_s, iup_n, hp_up1, hp_upn, ne_eq, not_false_eq_true, sh_0, sh_1, sh_2, sh_3, sh_4, sh_5, sh_8, sh_15, sh_16, sh_24, Int.reducePow, Int.cast_ofNat_Int, w_of, wl_of, ltT, ltF, leT, leF, eqT, eqF, okF_0, okF_s, gF_0, gF_s, consC_o, sF_0, sF_s, clsO_o, inA_i, ldA_i, stA_i, inJ_l, ldJ_l, stJ_l, inR_r, ldR_r, stR_r, tgR_r, lenA_i, lenA_l, lenA_r, lenA_ex, nl_i, nl_o, nl_l, nl_n, wd_n, wd_i, wd_l, wd_o, fit_i, fit_l, fit_o, K_v, K_n, true_and, and_true, Nat.reduceAdd, Nat.reduceLeDiff, Nat.reduceEqDiff, Nat.reduceMul, Nat.reduceLT, reduceIte, true_or, or_true, cmp_lt, cmp_gt, cmp_eq, wb_0, b_01, cmp_lt', cmp_gt', cmp_eq', b_0, b_1, wb_1, Int.reduceSub, Int.reduceToNat, List.getD_cons_succ, List.getD_cons_zero, Int.reduceLE, Int.reduceLT, Int.reduceEq, Int.reduceNeg, Int.reduceAdd, Int.reduceMul, and_self, em_b, ne_eq, not_false_eq_true, not_true_eq_false]
    try rfl
def setB (M : MS) (b : List Int) : MS := (mC M, mZ M, mP M, mI M, mT M, b, mF M, mG M)
theorem bk_k {h h' : PH} {b : List Int} (hB : bkI kc ow h M S0 e k) (hx : chg ow [13] h h') (hT : TkP h' b) : bkI kc ow h' (setB M b) S0 e (k + 1) ∧ extO ow h ow h' allT := by
  obtain ⟨hF, ⟨s1, ⟨ca, k1, s2⟩, ⟨i65, p65, s3⟩, s4, s5, s6, s7, s8⟩, ⟨ca0, sky0, hH⟩, he0, nd, nc, nk, nr, nb, hE, hR⟩ := hB
  have hx' := ext_c hx
  have h90 := hF.1
  obtain ⟨t64, t65, -⟩ := tg_64 hF
  exact ⟨⟨ext_F hx' hF, ⟨BkO_e hF hx' (by decide) s1, ⟨ca, k1, MoP_e hx' (by omega) (by decide) (by rw [t64]; decide) s2⟩, ⟨i65, p65, by rw [hx'.2.2 65 (by omega) (by rw [t65]; decide)]; exact s3⟩, ImP_e hF hx' (by decide) (by decide) s4, PaP_e hF hx' (by decide) s5, TrP_e hF hx' (by decide) s6, hT, RdP_e hF hx' (by decide) s8⟩, ⟨ca0, sky0, HoP_c hF hx (by decide) (by decide) hH⟩, by omega, nd, nc, nk, nr, nb, EngP_e hF hx' (by decide) hE, room_up (room_same hx.1 hx.2.1 hR)⟩, ext_w hx' (by decide)⟩
theorem C_feed {h : PH} {a b c f g : Int} (hB : bkI kc ow h M S0 e k) (ha : -2147483648 ≤ a ∧ a < 2147483648) (hb : -2147483648 ≤ b ∧ b < 2147483648) (hc : -2147483648 ≤ c ∧ c < 2147483648) (hf : -2147483648 ≤ f ∧ f < 2147483648) (hg : -2147483648 ≤ g ∧ g < 2147483648) : cRes ow h S0 k 113 [some (vr 10), some (vi a), some (vi b), some (vi c), some (vi f), some (vi g)] vi (fun v M' => (v, M') = feedF M a b c f g) := by
  have hB' := hB
  obtain ⟨hF, ⟨⟨i, b1, b2, b3, b4⟩, -, -, -, -, -, hV, -⟩, -⟩ := hB
  obtain ⟨-, -, -, -, -, -, -, t10, -⟩ := tg_64 hF
  have hV' := hV
  obtain ⟨i0, f0, v1, v2, v3, v4, v5⟩ := hV
  unfold feedF
  by_cases q : (mB M).length + 20 ≤ 900
  · rw [if_pos q]
    obtain ⟨g1, p1, p2, p3⟩ := C_put hF hV' (by omega) ha.1 ha.2
    have hF1 := chg_F p1 hF
    obtain ⟨g2, q1, q2, q3⟩ := C_put hF1 p2 (by rw [List.length_append]; show (mB M).length + 4 + 4 ≤ 900; omega) hb.1 hb.2
    have hF2 := chg_F q1 hF1
    obtain ⟨g3, r1, r2, r3⟩ := C_put hF2 q2 (by rw [List.length_append, List.length_append]; show (mB M).length + 4 + 4 + 4 ≤ 900; omega) hc.1 hc.2
    have hF3 := chg_F r1 hF2
    obtain ⟨g4, s1, s2, s3⟩ := C_put hF3 r2 (by rw [List.length_append, List.length_append, List.length_append]; show (mB M).length + 4 + 4 + 4 + 4 ≤ 900; omega) hf.1 hf.2
    have hF4 := chg_F s1 hF3
    obtain ⟨g5, u1, u2, u3⟩ := C_put hF4 s2 (by rw [List.length_append, List.length_append, List.length_append, List.length_append]; show (mB M).length + 4 + 4 + 4 + 4 + 4 ≤ 900; omega) hg.1 hg.2
    have c5 := chg_t p1 (chg_t q1 (chg_t r1 (chg_t s1 u1)))
    have e20 : mB M ++ [a / 2 ^ 24 % 256, a / 2 ^ 16 % 256, a / 2 ^ 8 % 256, a / 2 ^ 0 % 256] ++ [b / 2 ^ 24 % 256, b / 2 ^ 16 % 256, b / 2 ^ 8 % 256, b / 2 ^ 0 % 256] ++ [c / 2 ^ 24 % 256, c / 2 ^ 16 % 256, c / 2 ^ 8 % 256, c / 2 ^ 0 % 256] ++ [f / 2 ^ 24 % 256, f / 2 ^ 16 % 256, f / 2 ^ 8 % 256, f / 2 ^ 0 % 256] ++ [g / 2 ^ 24 % 256, g / 2 ^ 16 % 256, g / 2 ^ 8 % 256, g / 2 ^ 0 % 256] = mB M ++ bytL a b c f g 20 := by
      rw [List.append_assoc, List.append_assoc, List.append_assoc, List.append_assoc]
      rfl
    rw [e20] at u2
    obtain ⟨x1, x2⟩ := bk_k hB' c5 u2
    refine ⟨kc, ow, g5, e, _, _, rfl, x1, x2, fun d Q => ?_⟩
    have a1 : hp g1 10 = bkO i := by rw [chg_at p1 t10 (by decide)]; exact b1
    have a2 : hp g2 10 = bkO i := by rw [chg_at q1 t10 (by decide)]; exact a1
    have a3 : hp g3 10 = bkO i := by rw [chg_at r1 t10 (by decide)]; exact a2
    have a4 : hp g4 10 = bkO i := by rw [chg_at s1 t10 (by decide)]; exact a3
    have a5 : hp g5 10 = bkO i := by rw [chg_at u1 t10 (by decide)]; exact a4
    obtain ⟨i1, k1⟩ : ∃ i, hp g1 11 = tkO i := by obtain ⟨i, f, v, _⟩ := p2; exact ⟨i, v⟩
    obtain ⟨i2, k2⟩ : ∃ i, hp g2 11 = tkO i := by obtain ⟨i, f, v, _⟩ := q2; exact ⟨i, v⟩
    obtain ⟨i3, k3⟩ : ∃ i, hp g3 11 = tkO i := by obtain ⟨i, f, v, _⟩ := r2; exact ⟨i, v⟩
    obtain ⟨i4, k4⟩ : ∃ i, hp g4 11 = tkO i := by obtain ⟨i, f, v, _⟩ := s2; exact ⟨i, v⟩
    obtain ⟨i5, k5, k6⟩ : ∃ i, hp g5 11 = tkO i ∧ i 1 = (((mB M).length + 20 : Nat) : Int) := by
      obtain ⟨i, f, v, v2, v3, _⟩ := u2
      rw [List.length_append, bytL_len] at v3
      exact ⟨i, v, v3⟩
    have p3' := fun (Q : PQ) => p3 (d + 28) Q
    have q3' := fun (Q : PQ) => q3 (d + 28) Q
    have r3' := fun (Q : PQ) => r3 (d + 28) Q
    have s3' := fun (Q : PQ) => s3 (d + 28) Q
    have u3' := fun (Q : PQ) => u3 (d + 28) Q
    simp (disch := omega) only [e_113_0, e_113_1, e_113_4, e_113_6, e_113_9, e_113_12, e_113_14, e_113_15, e_113_16, e_113_19, e_113_20, e_113_23, e_113_24, e_113_27, e_113_28, e_113_31, e_113_32, e_113_35, e_113_36, e_113_39, e_113_40, e_113_43, e_113_45, e_113_48, e_113_49, e_113_52, e_113_54, e_113_57, e_113_58, e_113_61, e_113_64, e_90_0, e_90_1, e_90_4, e_90_5, e_90_6, e_90_9, e_90_12, e_90_13, e_90_16, e_90_17, b1, v1, v3, a1, a2, a3, a4, a5, k1, k2, k3, k4, k5, k6, p3', q3', r3', s3', u3', true_and, tkO_c, tkO_g0, tkO_k0, tkO_g1, tkO_k1, tkO_g2, tkO_k2, tkO_g3, tkO_k3, tkO_g4, tkO_k4, tkO_g5, tkO_k5, tkO_g6, tkO_k6, tkO_g7, tkO_k7, tkO_g8, tkO_k8, tkO_s1, tkO_s2, tkO_s3, tkO_s4, tkO_s5, tkO_s6, tkO_s7, tkO_s8, rdO_c, rdO_g0, rdO_k0, rdO_g1, rdO_k1, rdO_g2, rdO_k2, rdO_g3, rdO_k3, rdO_g4, rdO_k4, rdO_g5, rdO_k5, rdO_g6, rdO_k6, rdO_g7, rdO_k7, rdO_g8, rdO_k8, rdO_g9, rdO_k9, rdO_g10, rdO_k10, rdO_g11, rdO_k11, rdO_g12, rdO_k12, rdO_g13, rdO_k13, rdO_g14, rdO_k14, rdO_g15, rdO_k15, rdO_g16, rdO_k16, rdO_g17, rdO_k17, rdO_s2, rdO_s3, rdO_s4, rdO_s10, rdO_s11, rdO_s12, rdO_s13, rdO_s14, rdO_s15, rdO_s16, rdO_s17, iup_s, iup_n, hp_up1, hp_upn, ne_eq, not_false_eq_true, bkO_c, bkO_g0, bkO_k0, bkO_g1, bkO_k1, bkO_g2, bkO_k2, bkO_g3, bkO_k3, bkO_g4, bkO_k4, bkO_g5, bkO_k5, bkO_g6, bkO_k6, bkO_g7, bkO_k7, bkO_g8, bkO_k8, bkO_g9, bkO_k9, bkO_g10, bkO_k10, bkO_g11, bkO_k11, bkO_g12, bkO_k12, bkO_g13, bkO_k13, bkO_g14, bkO_k14, bkO_g15, bkO_k15, bkO_g16, bkO_k16, bkO_g17, bkO_k17, bkO_s12, bkO_s16, bkO_s17, sh_0, sh_1, sh_2, sh_3, sh_4, sh_5, sh_8, sh_15, sh_16, sh_24, Int.reducePow, Int.cast_ofNat_Int, w_of, wl_of, ltT, ltF, leT, leF, eqT, eqF, okF_0, okF_s, gF_0, gF_s, consC_o, sF_0, sF_s, clsO_o, inA_i, ldA_i, stA_i, inJ_l, ldJ_l, stJ_l, inR_r, ldR_r, stR_r, tgR_r, lenA_i, lenA_l, lenA_r, lenA_ex, nl_i, nl_o, nl_l, nl_n, wd_n, wd_i, wd_l, wd_o, fit_i, fit_l, fit_o, K_v, K_n, true_and, and_true, Nat.reduceAdd, Nat.reduceLeDiff, Nat.reduceEqDiff, Nat.reduceMul, Nat.reduceLT, reduceIte, true_or, or_true, cmp_lt, cmp_gt, cmp_eq, wb_0, b_01, cmp_lt', cmp_gt', cmp_eq', b_0, b_1, wb_1, Int.reduceSub, Int.reduceToNat, List.getD_cons_succ, List.getD_cons_zero, Int.reduceLE, Int.reduceLT, Int.reduceEq, Int.reduceNeg, Int.reduceAdd, Int.reduceMul, and_self, em_b, ne_eq, not_false_eq_true, not_true_eq_false]
    try rfl
  · rw [if_neg q]
    refine cRes_r (v := -5) hB' rfl (fun d Q => ?_)
    simp (disch := omega) only [e_113_0, e_113_1, e_113_4, e_113_6, e_113_9, e_113_12, e_113_14, e_90_0, e_90_1, e_90_4, e_90_5, e_90_6, e_90_9, e_90_12, e_90_13, e_90_16, e_90_17, b1, v1, v3, true_and, tkO_c, tkO_g0, tkO_k0, tkO_g1, tkO_k1, tkO_g2, tkO_k2, tkO_g3, tkO_k3, tkO_g4, tkO_k4, tkO_g5, tkO_k5, tkO_g6, tkO_k6, tkO_g7, tkO_k7, tkO_g8, tkO_k8, tkO_s1, tkO_s2, tkO_s3, tkO_s4, tkO_s5, tkO_s6, tkO_s7, tkO_s8, rdO_c, rdO_g0, rdO_k0, rdO_g1, rdO_k1, rdO_g2, rdO_k2, rdO_g3, rdO_k3, rdO_g4, rdO_k4, rdO_g5, rdO_k5, rdO_g6, rdO_k6, rdO_g7, rdO_k7, rdO_g8, rdO_k8, rdO_g9, rdO_k9, rdO_g10, rdO_k10, rdO_g11, rdO_k11, rdO_g12, rdO_k12, rdO_g13, rdO_k13, rdO_g14, rdO_k14, rdO_g15, rdO_k15, rdO_g16, rdO_k16, rdO_g17, rdO_k17, rdO_s2, rdO_s3, rdO_s4, rdO_s10, rdO_s11, rdO_s12, rdO_s13, rdO_s14, rdO_s15, rdO_s16, rdO_s17, iup_s, iup_n, hp_up1, hp_upn, ne_eq, not_false_eq_true, bkO_c, bkO_g0, bkO_k0, bkO_g1, bkO_k1, bkO_g2, bkO_k2, bkO_g3, bkO_k3, bkO_g4, bkO_k4, bkO_g5, bkO_k5, bkO_g6, bkO_k6, bkO_g7, bkO_k7, bkO_g8, bkO_k8, bkO_g9, bkO_k9, bkO_g10, bkO_k10, bkO_g11, bkO_k11, bkO_g12, bkO_k12, bkO_g13, bkO_k13, bkO_g14, bkO_k14, bkO_g15, bkO_k15, bkO_g16, bkO_k16, bkO_g17, bkO_k17, bkO_s12, bkO_s16, bkO_s17, sh_0, sh_1, sh_2, sh_3, sh_4, sh_5, sh_8, sh_15, sh_16, sh_24, Int.reducePow, Int.cast_ofNat_Int, w_of, wl_of, ltT, ltF, leT, leF, eqT, eqF, okF_0, okF_s, gF_0, gF_s, consC_o, sF_0, sF_s, clsO_o, inA_i, ldA_i, stA_i, inJ_l, ldJ_l, stJ_l, inR_r, ldR_r, stR_r, tgR_r, lenA_i, lenA_l, lenA_r, lenA_ex, nl_i, nl_o, nl_l, nl_n, wd_n, wd_i, wd_l, wd_o, fit_i, fit_l, fit_o, K_v, K_n, true_and, and_true, Nat.reduceAdd, Nat.reduceLeDiff, Nat.reduceEqDiff, Nat.reduceMul, Nat.reduceLT, reduceIte, true_or, or_true, cmp_lt, cmp_gt, cmp_eq, wb_0, b_01, cmp_lt', cmp_gt', cmp_eq', b_0, b_1, wb_1, Int.reduceSub, Int.reduceToNat, List.getD_cons_succ, List.getD_cons_zero, Int.reduceLE, Int.reduceLT, Int.reduceEq, Int.reduceNeg, Int.reduceAdd, Int.reduceMul, and_self, em_b, ne_eq, not_false_eq_true, not_true_eq_false]
    try rfl
end parts
