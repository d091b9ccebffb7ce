/-! THE CLASS: a County out of the draft: the table of places -/
theorem xup_id {X : Nat → PC} {r : Nat} {c : PC} (h : X r = c) : xup X r c = X := by
  funext k
  unfold xup
  by_cases e : k = r
  · rw [if_pos e, e, h]
  · rw [if_neg e]
theorem pl_mat {P p : Nat} {g g' : Int → Int} (h1 : ∀ y : Nat, y < P ^ p → g' y = g y) (h2 : ∀ y : Nat, P ^ p ≤ y → y < P ^ (p + 1) → g' y = g' ((y : Int) - ((P ^ p : Nat) : Int)) + ((8 ^ p : Nat) : Int)) (r : Nat) (hr : r < P ^ p) : ∀ d : Nat, d < P → g' ((r + d * P ^ p : Nat) : Int) = g r + ((d * 8 ^ p : Nat) : Int) := by
  intro d
  induction d with
  | zero => intro _; rw [Nat.zero_mul, Nat.zero_mul, Nat.add_zero, h1 r hr]; simp
  | succ d ih =>
    intro hd
    have e : (d + 1) * P ^ p = d * P ^ p + P ^ p := by rw [Nat.add_mul, Nat.one_mul]
    have e8 : (d + 1) * 8 ^ p = d * 8 ^ p + 8 ^ p := by rw [Nat.add_mul, Nat.one_mul]
    have e2 : (d + 2) * P ^ p ≤ P * P ^ p := Nat.mul_le_mul_right _ (by omega)
    have e3 : (d + 2) * P ^ p = d * P ^ p + P ^ p + P ^ p := by rw [Nat.add_mul]; omega
    have e4 : P ^ (p + 1) = P * P ^ p := by rw [Nat.pow_succ, Nat.mul_comm]
    rw [h2 _ (by omega) (by omega)]
    have e5 : ((r + (d + 1) * P ^ p : Nat) : Int) - ((P ^ p : Nat) : Int) = ((r + d * P ^ p : Nat) : Int) := by omega
    rw [e5, ih (by omega)]
    omega
section ci
variable {h : PH} {a : Nat} {j : Nat → Int} {A : Nat → Int → Int} {c : KC} {C : List Int}
theorem ci_in {sl p : Nat} {tf tt mf mt pv lv sv : Int} {fg : Int → Int} (ha : 20 ≤ a) (hD : okD c) (hpN : p < kN c) (hg : ∀ k : Nat, k < kN c → fg k = ((kP c ^ k : Nat) : Int)) :
    ∀ (r x : Nat) (X : Nat → PC) (g : Int → Int), x + r = kP c ^ (p + 1) → kP c ^ p ≤ x → X 0 = cyF c a tf tt mf mt ((kP c ^ kN c : Nat) : Int) 0 0 (vr (a + 6)) → X 5 = aI 0 3 fg → X 6 = aI 0 (kP c ^ kN c) g → (∀ y : Nat, y < x → 0 ≤ g y ∧ g y ≤ 64 * (y : Int)) →
    ∃ g' : Int → Int, (∀ y : Nat, y < x → g' y = g y) ∧ (∀ y : Nat, x ≤ y → y < kP c ^ (p + 1) → g' y = g' ((y : Int) - ((kP c ^ p : Nat) : Int)) + ((8 ^ p : Nat) : Int)) ∧ (∀ y : Nat, y < kP c ^ (p + 1) → 0 ≤ g' y ∧ g' y ≤ 64 * (y : Int)) ∧ ∀ d Q, WP d 17 244 [some (vr a), some (vr 13), some (vi pv), some (vi lv), some (vi sv), some (vi p), some (vi x)] [] (cH h a 7 sl X) Q = WP d 17 296 [some (vr a), some (vr 13), some (vi pv), some (vi lv), some (vi sv), some (vi p), some (vi ((kP c ^ (p + 1) : Nat) : Int))] [] (cH h a 7 sl (xup X 6 (aI 0 (kP c ^ kN c) g'))) Q := by
  obtain ⟨hP1, hP5, hN3⟩ := hD.1
  have hPp : kP c ^ p ≤ 25 := by
    have : kP c ^ p ≤ 5 ^ 2 := Nat.le_trans (Nat.pow_le_pow_left hP5 _) (Nat.pow_le_pow_right (by decide) (by omega))
    exact this
  have hPq : 1 ≤ kP c ^ p := Nat.pow_pos (by omega)
  have hP3 : kP c ^ (p + 1) ≤ kP c ^ kN c := Nat.pow_le_pow_right (by omega) (by omega)
  have hPN : kP c ^ kN c ≤ 125 := by
    have : kP c ^ kN c ≤ 5 ^ 3 := Nat.le_trans (Nat.pow_le_pow_left hP5 _) (Nat.pow_le_pow_right (by decide) (by omega))
    exact this
  have h8 : (8 : Nat) ^ p ≤ 64 := by
    have : (8 : Nat) ^ p ≤ 8 ^ 2 := Nat.pow_le_pow_right (by decide) (by omega)
    exact this
  have o3 : ((kP c ^ p : Nat) : Int) * (kP c : Int) = ((kP c ^ (p + 1) : Nat) : Int) := by rw [Nat.pow_succ, Int.natCast_mul]
  have s8 : (1 : Int) * 2 ^ sh (3 * (p : Int)) = ((8 ^ p : Nat) : Int) := by
    rw [show (3 * (p : Int)) = ((3 * p : Nat) : Int) by omega, sh_nat (by omega), castP, Nat.pow_mul, Int.one_mul]
  have hgp := hg p hpN
  have t10 : ∀ r : Nat, (10 ≤ a + r) = True := fun r => eq_true (by omega)
  intro r
  induction r with
  | zero =>
    intro x X g hx hx2 h0 h5 h6 hb
    have ex : x = kP c ^ (p + 1) := by omega
    refine ⟨g, fun _ _ => rfl, fun y y1 y2 => by omega, fun y y1 => hb y (by omega), fun d Q => ?_⟩
    rw [xup_id h6]
    have g0 : hp (cH h a 7 sl X) a = cyF c a tf tt mf mt ((kP c ^ kN c : Nat) : Int) 0 0 (vr (a + 6)) := by rw [cH_0 (by omega)]; exact h0
    have g5 : hp (cH h a 7 sl X) (a + 5) = aI 0 3 fg := by rw [cH_in (by omega)]; exact h5
    unfold cyF at g0
    rw [ex]
    rw [e_17_244]
    simp (disch := omega) only [e_17_246, e_17_247, e_17_250, e_17_252, e_17_253, e_17_254, e_17_257, e_17_258, g0, g5, hgp, o3, t10, true_and, rdO_c, rdO_g0, rdO_k0, rdO_g1, rdO_k1, rdO_g2, rdO_k2, rdO_g3, rdO_k3, rdO_g4, rdO_k4, rdO_g5, rdO_k5, rdO_g6, rdO_k6, rdO_g7, rdO_k7, rdO_g8, rdO_k8, rdO_g9, rdO_k9, rdO_g10, rdO_k10, rdO_g11, rdO_k11, rdO_g12, rdO_k12, rdO_g13, rdO_k13, rdO_g14, rdO_k14, rdO_g15, rdO_k15, rdO_g16, rdO_k16, rdO_g17, rdO_k17, rdO_s2, rdO_s3, rdO_s4, rdO_s10, rdO_s11, rdO_s12, rdO_s13, rdO_s14, rdO_s15, rdO_s16, rdO_s17, sh_0, sh_1, sh_2, sh_3, sh_4, sh_5, sh_8, sh_15, sh_16, sh_24, Int.reducePow, Int.cast_ofNat_Int, w_of, wl_of, ltT, ltF, leT, leF, eqT, eqF, okF_0, okF_s, gF_0, gF_s, consC_o, sF_0, sF_s, clsO_o, inA_i, ldA_i, stA_i, inJ_l, ldJ_l, stJ_l, inR_r, ldR_r, stR_r, tgR_r, lenA_i, lenA_l, lenA_r, lenA_ex, nl_i, nl_o, nl_l, nl_n, wd_n, wd_i, wd_l, wd_o, fit_i, fit_l, fit_o, K_v, K_n, true_and, and_true, Nat.reduceAdd, Nat.reduceLeDiff, Nat.reduceEqDiff, Nat.reduceMul, Nat.reduceLT, reduceIte, true_or, or_true, cmp_lt, cmp_gt, cmp_eq, wb_0, b_01, cmp_lt', cmp_gt', cmp_eq', b_0, b_1, wb_1, Int.reduceSub, Int.reduceToNat, List.getD_cons_succ, List.getD_cons_zero, Int.reduceLE, Int.reduceLT, Int.reduceEq, Int.reduceNeg, Int.reduceAdd, Int.reduceMul, and_self, em_b, ne_eq, not_false_eq_true, not_true_eq_false]
    try rfl
  | succ r ih =>
    intro x X g hx hx2 h0 h5 h6 hb
    have hbx := hb (x - kP c ^ p) (by omega)
    have ec : ((x - kP c ^ p : Nat) : Int) = (x : Int) - ((kP c ^ p : Nat) : Int) := by omega
    rw [ec] at hbx
    obtain ⟨b1, b2⟩ := hbx
    obtain ⟨g', a1, a2, a3, a5⟩ := ih (x + 1) (xup X 6 (aI 0 (kP c ^ kN c) (fset g (x : Nat) (g ((x : Int) - ((kP c ^ p : Nat) : Int)) + ((8 ^ p : Nat) : Int))))) (fset g (x : Nat) (g ((x : Int) - ((kP c ^ p : Nat) : Int)) + ((8 ^ p : Nat) : Int))) (by omega) (by omega) (by rw [xup_n (by omega)]; exact h0) (by rw [xup_n (by omega)]; exact h5) xup_s (fun y hy => by
      by_cases z : y = x
      · have h80 : (0 : Int) ≤ ((8 ^ p : Nat) : Int) := Int.natCast_nonneg _
        rw [z, fs_same]; omega
      · rw [fs_ne (by omega)]; exact hb y (by omega))
    refine ⟨g', fun y hy => ?_, fun y y1 y2 => ?_, a3, fun d Q => ?_⟩
    · rw [a1 y (by omega), fs_ne (by omega)]
    · by_cases z : y = x
      · subst z
        have := a1 (y - kP c ^ p) (by omega)
        rw [ec] at this
        rw [a1 y (by omega), this, fs_same, fs_ne (by omega)]
      · exact a2 y (by omega) y2
    · rw [xup_xup] at a5
      rw [← a5 d Q]
      have g0 : hp (cH h a 7 sl X) a = cyF c a tf tt mf mt ((kP c ^ kN c : Nat) : Int) 0 0 (vr (a + 6)) := by rw [cH_0 (by omega)]; exact h0
      have g5 : hp (cH h a 7 sl X) (a + 5) = aI 0 3 fg := by rw [cH_in (by omega)]; exact h5
      have g6 : hp (cH h a 7 sl X) (a + 6) = aI 0 (kP c ^ kN c) g := by rw [cH_in (by omega)]; exact h6
      have hu : ∀ c', hup (cH h a 7 sl X) (a + 6) c' = cH h a 7 sl (xup X 6 c') := fun c' => cH_u (by omega)
      have ep : (x : Int) + 1 = ((x + 1 : Nat) : Int) := by omega
      unfold cyF at g0
      rw [e_17_244]
      simp (disch := omega) only [e_17_246, e_17_247, e_17_250, e_17_252, e_17_253, e_17_254, e_17_257, e_17_258, e_17_261, e_17_262, e_17_265, e_17_267, e_17_268, e_17_271, e_17_273, e_17_274, e_17_277, e_17_279, e_17_280, e_17_281, e_17_282, e_17_283, e_17_284, e_17_286, e_17_287, e_17_288, e_17_289, e_17_290, e_17_293, g0, g5, g6, hgp, o3, s8, hu, ep, t10, true_and, rdO_c, rdO_g0, rdO_k0, rdO_g1, rdO_k1, rdO_g2, rdO_k2, rdO_g3, rdO_k3, rdO_g4, rdO_k4, rdO_g5, rdO_k5, rdO_g6, rdO_k6, rdO_g7, rdO_k7, rdO_g8, rdO_k8, rdO_g9, rdO_k9, rdO_g10, rdO_k10, rdO_g11, rdO_k11, rdO_g12, rdO_k12, rdO_g13, rdO_k13, rdO_g14, rdO_k14, rdO_g15, rdO_k15, rdO_g16, rdO_k16, rdO_g17, rdO_k17, rdO_s2, rdO_s3, rdO_s4, rdO_s10, rdO_s11, rdO_s12, rdO_s13, rdO_s14, rdO_s15, rdO_s16, rdO_s17, sh_0, sh_1, sh_2, sh_3, sh_4, sh_5, sh_8, sh_15, sh_16, sh_24, Int.reducePow, Int.cast_ofNat_Int, w_of, wl_of, ltT, ltF, leT, leF, eqT, eqF, okF_0, okF_s, gF_0, gF_s, consC_o, sF_0, sF_s, clsO_o, inA_i, ldA_i, stA_i, inJ_l, ldJ_l, stJ_l, inR_r, ldR_r, stR_r, tgR_r, lenA_i, lenA_l, lenA_r, lenA_ex, nl_i, nl_o, nl_l, nl_n, wd_n, wd_i, wd_l, wd_o, fit_i, fit_l, fit_o, K_v, K_n, true_and, and_true, Nat.reduceAdd, Nat.reduceLeDiff, Nat.reduceEqDiff, Nat.reduceMul, Nat.reduceLT, reduceIte, true_or, or_true, cmp_lt, cmp_gt, cmp_eq, wb_0, b_01, cmp_lt', cmp_gt', cmp_eq', b_0, b_1, wb_1, Int.reduceSub, Int.reduceToNat, List.getD_cons_succ, List.getD_cons_zero, Int.reduceLE, Int.reduceLT, Int.reduceEq, Int.reduceNeg, Int.reduceAdd, Int.reduceMul, and_self, em_b, ne_eq, not_false_eq_true, not_true_eq_false]
      try rfl
end ci
section ci
variable {h : PH} {a : Nat} {j : Nat → Int} {A : Nat → Int → Int} {c : KC} {C : List Int}
theorem ci_out {sl : Nat} {tf tt mf mt pv lv sv : Int} {fg : Int → Int} (ha : 20 ≤ a) (hD : okD c) (hg : ∀ k : Nat, k < kN c → fg k = ((kP c ^ k : Nat) : Int)) :
    ∀ (r p : Nat) (X : Nat → PC) (g : Int → Int) (o6 : Option PV), p + r = kN c → X 0 = cyF c a tf tt mf mt ((kP c ^ kN c : Nat) : Int) 0 0 (vr (a + 6)) → X 5 = aI 0 3 fg → X 6 = aI 0 (kP c ^ kN c) g → (∀ y : Nat, y < kP c ^ p → 0 ≤ g y ∧ g y ≤ 64 * (y : Int)) → (∀ f : Nat → Nat, (∀ i, i < p → f i < kP c) → g (encP (kP c) p f : Nat) = (encP 8 p f : Nat)) →
    ∃ (g' : Int → Int) (o6' : Option PV), (∀ f : Nat → Nat, (∀ i, i < kN c → f i < kP c) → g' (encP (kP c) (kN c) f : Nat) = (encP 8 (kN c) f : Nat)) ∧ ∀ d Q, WP d 17 226 [some (vr a), some (vr 13), some (vi pv), some (vi lv), some (vi sv), some (vi p), o6] [] (cH h a 7 sl X) Q = WP d 17 302 [some (vr a), some (vr 13), some (vi pv), some (vi lv), some (vi sv), some (vi (kN c)), o6'] [] (cH h a 7 sl (xup X 6 (aI 0 (kP c ^ kN c) g'))) Q := by
  obtain ⟨hP1, hP5, hN3⟩ := hD.1
  have t10 : ∀ r : Nat, (10 ≤ a + r) = True := fun r => eq_true (by omega)
  intro r
  induction r with
  | zero =>
    intro p X g o6 hx h0 h5 h6 hb hf
    have ex : p = kN c := by omega
    subst ex
    refine ⟨g, o6, hf, fun d Q => ?_⟩
    rw [xup_id h6]
    have g0 : hp (cH h a 7 sl X) a = cyF c a tf tt mf mt ((kP c ^ kN c : Nat) : Int) 0 0 (vr (a + 6)) := by rw [cH_0 (by omega)]; exact h0
    unfold cyF at g0
    rw [e_17_226]
    simp (disch := omega) only [e_17_228, e_17_229, e_17_232, g0, true_and, rdO_c, rdO_g0, rdO_k0, rdO_g1, rdO_k1, rdO_g2, rdO_k2, rdO_g3, rdO_k3, rdO_g4, rdO_k4, rdO_g5, rdO_k5, rdO_g6, rdO_k6, rdO_g7, rdO_k7, rdO_g8, rdO_k8, rdO_g9, rdO_k9, rdO_g10, rdO_k10, rdO_g11, rdO_k11, rdO_g12, rdO_k12, rdO_g13, rdO_k13, rdO_g14, rdO_k14, rdO_g15, rdO_k15, rdO_g16, rdO_k16, rdO_g17, rdO_k17, rdO_s2, rdO_s3, rdO_s4, rdO_s10, rdO_s11, rdO_s12, rdO_s13, rdO_s14, rdO_s15, rdO_s16, rdO_s17, sh_0, sh_1, sh_2, sh_3, sh_4, sh_5, sh_8, sh_15, sh_16, sh_24, Int.reducePow, Int.cast_ofNat_Int, w_of, wl_of, ltT, ltF, leT, leF, eqT, eqF, okF_0, okF_s, gF_0, gF_s, consC_o, sF_0, sF_s, clsO_o, inA_i, ldA_i, stA_i, inJ_l, ldJ_l, stJ_l, inR_r, ldR_r, stR_r, tgR_r, lenA_i, lenA_l, lenA_r, lenA_ex, nl_i, nl_o, nl_l, nl_n, wd_n, wd_i, wd_l, wd_o, fit_i, fit_l, fit_o, K_v, K_n, true_and, and_true, Nat.reduceAdd, Nat.reduceLeDiff, Nat.reduceEqDiff, Nat.reduceMul, Nat.reduceLT, reduceIte, true_or, or_true, cmp_lt, cmp_gt, cmp_eq, wb_0, b_01, cmp_lt', cmp_gt', cmp_eq', b_0, b_1, wb_1, Int.reduceSub, Int.reduceToNat, List.getD_cons_succ, List.getD_cons_zero, Int.reduceLE, Int.reduceLT, Int.reduceEq, Int.reduceNeg, Int.reduceAdd, Int.reduceMul, and_self, em_b, ne_eq, not_false_eq_true, not_true_eq_false]
    try rfl
  | succ r ih =>
    intro p X g o6 hx h0 h5 h6 hb hf
    have hPq : 1 ≤ kP c ^ p := Nat.pow_pos (by omega)
    have hPm : kP c ^ p ≤ kP c ^ (p + 1) := Nat.pow_le_pow_right (by omega) (by omega)
    have hPp : kP c ^ p ≤ 25 := by
      have : kP c ^ p ≤ 5 ^ 2 := Nat.le_trans (Nat.pow_le_pow_left hP5 _) (Nat.pow_le_pow_right (by decide) (by omega))
      exact this
    obtain ⟨g1, b1, b2, b3, b4⟩ := ci_in (h := h) (sl := sl) (pv := pv) (lv := lv) (sv := sv) ha hD (by omega : p < kN c) hg (kP c ^ (p + 1) - kP c ^ p) (kP c ^ p) X g (by omega) (Nat.le_refl _) h0 h5 h6 hb
    obtain ⟨g', o6', c1, c2⟩ := ih (p + 1) (xup X 6 (aI 0 (kP c ^ kN c) g1)) g1 (some (vi ((kP c ^ (p + 1) : Nat) : Int))) (by omega) (by rw [xup_n (by omega)]; exact h0) (by rw [xup_n (by omega)]; exact h5) xup_s b3 (fun f hff => by
      have q := pl_mat b1 b2 (encP (kP c) p f) (encP_lt (fun i hi => hff i (by omega))) (f p) (hff p (by omega))
      show g1 ((encP (kP c) p f + f p * kP c ^ p : Nat) : Int) = ((encP 8 p f + f p * 8 ^ p : Nat) : Int)
      rw [q, hf f (fun i hi => hff i (by omega)), Int.natCast_add (encP 8 p f)])
    refine ⟨g', o6', c1, fun d Q => ?_⟩
    rw [xup_xup] at c2
    rw [← c2 d Q]
    have g0 : hp (cH h a 7 sl X) a = cyF c a tf tt mf mt ((kP c ^ kN c : Nat) : Int) 0 0 (vr (a + 6)) := by rw [cH_0 (by omega)]; exact h0
    have g5 : hp (cH h a 7 sl X) (a + 5) = aI 0 3 fg := by rw [cH_in (by omega)]; exact h5
    have hgp := hg p (by omega)
    have ep : (p : Int) + 1 = ((p + 1 : Nat) : Int) := by omega
    unfold cyF at g0
    rw [e_17_226]
    simp (disch := omega) only [e_17_228, e_17_229, e_17_232, e_17_235, e_17_236, e_17_239, e_17_241, e_17_242, e_17_296, e_17_299, g0, g5, hgp, b4, ep, t10, true_and, rdO_c, rdO_g0, rdO_k0, rdO_g1, rdO_k1, rdO_g2, rdO_k2, rdO_g3, rdO_k3, rdO_g4, rdO_k4, rdO_g5, rdO_k5, rdO_g6, rdO_k6, rdO_g7, rdO_k7, rdO_g8, rdO_k8, rdO_g9, rdO_k9, rdO_g10, rdO_k10, rdO_g11, rdO_k11, rdO_g12, rdO_k12, rdO_g13, rdO_k13, rdO_g14, rdO_k14, rdO_g15, rdO_k15, rdO_g16, rdO_k16, rdO_g17, rdO_k17, rdO_s2, rdO_s3, rdO_s4, rdO_s10, rdO_s11, rdO_s12, rdO_s13, rdO_s14, rdO_s15, rdO_s16, rdO_s17, sh_0, sh_1, sh_2, sh_3, sh_4, sh_5, sh_8, sh_15, sh_16, sh_24, Int.reducePow, Int.cast_ofNat_Int, w_of, wl_of, ltT, ltF, leT, leF, eqT, eqF, okF_0, okF_s, gF_0, gF_s, consC_o, sF_0, sF_s, clsO_o, inA_i, ldA_i, stA_i, inJ_l, ldJ_l, stJ_l, inR_r, ldR_r, stR_r, tgR_r, lenA_i, lenA_l, lenA_r, lenA_ex, nl_i, nl_o, nl_l, nl_n, wd_n, wd_i, wd_l, wd_o, fit_i, fit_l, fit_o, K_v, K_n, true_and, and_true, Nat.reduceAdd, Nat.reduceLeDiff, Nat.reduceEqDiff, Nat.reduceMul, Nat.reduceLT, reduceIte, true_or, or_true, cmp_lt, cmp_gt, cmp_eq, wb_0, b_01, cmp_lt', cmp_gt', cmp_eq', b_0, b_1, wb_1, Int.reduceSub, Int.reduceToNat, List.getD_cons_succ, List.getD_cons_zero, Int.reduceLE, Int.reduceLT, Int.reduceEq, Int.reduceNeg, Int.reduceAdd, Int.reduceMul, and_self, em_b, ne_eq, not_false_eq_true, not_true_eq_false]
    try rfl
end ci
