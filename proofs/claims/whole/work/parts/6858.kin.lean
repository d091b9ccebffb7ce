/-! READING A COUNTY: kin -/
section ln
variable {b : List Int} {n q : Nat} {c : KC} {C : List Int}
def FLc (b : List Int) (n k : Nat) (s : TS) (a t : Nat) (s' : TS) (a' t' : Nat) : Prop := ∀ (h : PH) (i j : Nat → Int) (A : Nat → Int → Int) (kn : Nat), txE h → tapC b A → clT b n i (nrm b n s) → kn < 3 → j 4 = (kn : Int) → (alC b n s → A 18 (kn : Nat) = (a : Int) ∧ A 19 (kn : Nat) = (t : Int)) → ∃ i' A' k', clT b n i' (nrm b n s') ∧ (alC b n s' → A' 18 (kn : Nat) = (a' : Int) ∧ A' 19 (kn : Nat) = (t' : Int)) ∧ frI [3, 4, 5, 6, 7, 8] i i' ∧ frA [18, 19] A A' ∧ (∀ x : Int, x ≠ (kn : Int) → A' 18 x = A 18 x ∧ A' 19 x = A 19 x) ∧ ∀ d Q, 9 ≤ d → WP d 65 75 [some (vr 13), some (vi k)] [] (rdH h i j A) Q = WP d 65 162 [some (vr 13), some (vi k')] [] (rdH h i' j A') Q
def FLf (b : List Int) (n : Nat) (s : TS) (a t : Nat) (s' : TS) (a' t' : Nat) : Prop := ∀ (h : PH) (i : Nat → Int) (A : Nat → Int → Int) (p : Nat), txE h → tapM b A → rfT b n i s → p < 3 → (alR s → A 75 ((19 + p : Nat) : Int) = (a : Int) ∧ A 75 ((25 + p : Nat) : Int) = (t : Int)) → ∃ i' A', rfT b n i' s' ∧ (alR s' → A' 75 ((19 + p : Nat) : Int) = (a' : Int) ∧ A' 75 ((25 + p : Nat) : Int) = (t' : Int)) ∧ frI [6, 7, 9, 10, 11, 12] i i' ∧ frA [75] A A' ∧ (∀ x : Int, x ≠ ((19 + p : Nat) : Int) → x ≠ ((25 + p : Nat) : Int) → A' 75 x = A 75 x) ∧ ∀ d Q, 10 ≤ d → WP d 191 74 [some (vr 71), some (vi p)] [] (mdH h i A) Q = WP d 191 92 [some (vr 71), some (vi p)] [] (mdH h i' A') Q
theorem ex_flag {s : TS} {a t : Nat} (hq : okq n s) (ha : a ≤ 9) (ht : t ≤ 3) (hB1 : ¬ isB b n s 6 = true) (hB2 : ¬ isB b n s 7 = true) : ∃ (s' : TS) (a' t' : Nat), prg n s s' [] ∧ a' ≤ 9 ∧ t' ≤ 3 ∧ (∀ k : Nat, k ≤ 900 → FLc b n k s a t s' a' t') ∧ FLf b n s a t s' a' t' := by
  refine ⟨s, a, t, prg_r hq, ha, ht, fun k hk9 h i j A kn hX hT hc hkn hj hv => ⟨i, A, (k : Int), hc, hv, frI_r, frA_r, fun x _ => ⟨rfl, rfl⟩, fun d Q hd => ?_⟩, fun h i A p hX hT hr hp hv => ⟨i, A, hr, hv, frI_r, frA_r, fun x _ _ => rfl, fun d Q hd => ?_⟩⟩
  · obtain ⟨c1, c2, c3⟩ := cl_kind (by omega) (by omega) hc hB1
    obtain ⟨c4, -, -⟩ := cl_kind (by omega) (by omega) hc hB2
    by_cases z : (k : Int) < 900
    · rw [e_65_75]
      simp (disch := omega) only [e_65_76, e_65_79, e_65_82, e_65_83, e_65_86, e_65_89, e_65_91, e_65_121, e_65_122, e_65_125, e_65_128, e_65_130, true_and, tkO_c, tkO_g0, tkO_k0, tkO_g1, tkO_k1, tkO_g2, tkO_k2, tkO_g3, tkO_k3, tkO_g4, tkO_k4, tkO_g5, tkO_k5, tkO_g6, tkO_k6, tkO_g7, tkO_k7, tkO_g8, tkO_k8, tkO_s1, tkO_s2, tkO_s3, tkO_s4, tkO_s5, tkO_s6, tkO_s7, tkO_s8, rdO_c, rdO_g0, rdO_k0, rdO_g1, rdO_k1, rdO_g2, rdO_k2, rdO_g3, rdO_k3, rdO_g4, rdO_k4, rdO_g5, rdO_k5, rdO_g6, rdO_k6, rdO_g7, rdO_k7, rdO_g8, rdO_k8, rdO_g9, rdO_k9, rdO_g10, rdO_k10, rdO_g11, rdO_k11, rdO_g12, rdO_k12, rdO_g13, rdO_k13, rdO_g14, rdO_k14, rdO_g15, rdO_k15, rdO_g16, rdO_k16, rdO_g17, rdO_k17, rdO_s2, rdO_s3, rdO_s4, rdO_s10, rdO_s11, rdO_s12, rdO_s13, rdO_s14, rdO_s15, rdO_s16, rdO_s17, rh_1, rh_2, rh_g11, rh_g12, rh_g13, rh_g14, rh_g15, rh_g16, rh_g17, rh_g18, rh_g19, rh_out, rh_u11, rh_u12, rh_u13, rh_u14, rh_u15, rh_u16, rh_u17, rh_u18, rh_u19, iup_s, iup_n, aup_s, aup_n, ne_eq, not_false_eq_true, sh_0, sh_1, sh_2, sh_3, sh_4, sh_5, sh_8, sh_15, sh_16, sh_24, Int.reducePow, Int.cast_ofNat_Int, w_of, wl_of, ltT, ltF, leT, leF, eqT, eqF, okF_0, okF_s, gF_0, gF_s, consC_o, sF_0, sF_s, clsO_o, inA_i, ldA_i, stA_i, inJ_l, ldJ_l, stJ_l, inR_r, ldR_r, stR_r, tgR_r, lenA_i, lenA_l, lenA_r, lenA_ex, nl_i, nl_o, nl_l, nl_n, wd_n, wd_i, wd_l, wd_o, fit_i, fit_l, fit_o, K_v, K_n, true_and, and_true, Nat.reduceAdd, Nat.reduceLeDiff, Nat.reduceEqDiff, Nat.reduceMul, Nat.reduceLT, reduceIte, true_or, or_true, cmp_lt, cmp_gt, cmp_eq, wb_0, b_01, cmp_lt', cmp_gt', cmp_eq', b_0, b_1, wb_1, Int.reduceSub, Int.reduceToNat, List.getD_cons_succ, List.getD_cons_zero, Int.reduceLE, Int.reduceLT, Int.reduceEq, Int.reduceNeg, Int.reduceAdd, Int.reduceMul, and_self, em_b, ne_eq, not_false_eq_true, not_true_eq_false]
      try rfl
    · rw [e_65_75]
      simp (disch := omega) only [e_65_76, e_65_79, true_and, tkO_c, tkO_g0, tkO_k0, tkO_g1, tkO_k1, tkO_g2, tkO_k2, tkO_g3, tkO_k3, tkO_g4, tkO_k4, tkO_g5, tkO_k5, tkO_g6, tkO_k6, tkO_g7, tkO_k7, tkO_g8, tkO_k8, tkO_s1, tkO_s2, tkO_s3, tkO_s4, tkO_s5, tkO_s6, tkO_s7, tkO_s8, rdO_c, rdO_g0, rdO_k0, rdO_g1, rdO_k1, rdO_g2, rdO_k2, rdO_g3, rdO_k3, rdO_g4, rdO_k4, rdO_g5, rdO_k5, rdO_g6, rdO_k6, rdO_g7, rdO_k7, rdO_g8, rdO_k8, rdO_g9, rdO_k9, rdO_g10, rdO_k10, rdO_g11, rdO_k11, rdO_g12, rdO_k12, rdO_g13, rdO_k13, rdO_g14, rdO_k14, rdO_g15, rdO_k15, rdO_g16, rdO_k16, rdO_g17, rdO_k17, rdO_s2, rdO_s3, rdO_s4, rdO_s10, rdO_s11, rdO_s12, rdO_s13, rdO_s14, rdO_s15, rdO_s16, rdO_s17, rh_1, rh_2, rh_g11, rh_g12, rh_g13, rh_g14, rh_g15, rh_g16, rh_g17, rh_g18, rh_g19, rh_out, rh_u11, rh_u12, rh_u13, rh_u14, rh_u15, rh_u16, rh_u17, rh_u18, rh_u19, iup_s, iup_n, aup_s, aup_n, ne_eq, not_false_eq_true, sh_0, sh_1, sh_2, sh_3, sh_4, sh_5, sh_8, sh_15, sh_16, sh_24, Int.reducePow, Int.cast_ofNat_Int, w_of, wl_of, ltT, ltF, leT, leF, eqT, eqF, okF_0, okF_s, gF_0, gF_s, consC_o, sF_0, sF_s, clsO_o, inA_i, ldA_i, stA_i, inJ_l, ldJ_l, stJ_l, inR_r, ldR_r, stR_r, tgR_r, lenA_i, lenA_l, lenA_r, lenA_ex, nl_i, nl_o, nl_l, nl_n, wd_n, wd_i, wd_l, wd_o, fit_i, fit_l, fit_o, K_v, K_n, true_and, and_true, Nat.reduceAdd, Nat.reduceLeDiff, Nat.reduceEqDiff, Nat.reduceMul, Nat.reduceLT, reduceIte, true_or, or_true, cmp_lt, cmp_gt, cmp_eq, wb_0, b_01, cmp_lt', cmp_gt', cmp_eq', b_0, b_1, wb_1, Int.reduceSub, Int.reduceToNat, List.getD_cons_succ, List.getD_cons_zero, Int.reduceLE, Int.reduceLT, Int.reduceEq, Int.reduceNeg, Int.reduceAdd, Int.reduceMul, and_self, em_b, ne_eq, not_false_eq_true, not_true_eq_false]
      try rfl
  · have is1 := r_is (h := h) (A := A) (kd := 6) (by decide) hr
    have is2 := r_is (h := h) (A := A) (kd := 7) (by decide) hr
    rw [if_neg hB1, show rkK 6 = 6 from rfl] at is1
    rw [if_neg hB2, show rkK 7 = 7 from rfl] at is2
    obtain ⟨d', rfl⟩ : ∃ d', d = d' + 3 := ⟨d - 3, by omega⟩
    by_cases hal : alR s
    · have c11 := (rf_wr hr).1 hal
      rw [e_191_74]
      simp (disch := omega) only [e_191_75, e_191_78, e_191_81, e_191_82, e_191_83, e_191_86, e_190_0, e_190_1, e_190_3, e_190_6, e_190_28, e_190_29, e_190_31, e_190_34, e_190_55, e_190_56, e_175_0, e_175_1, e_175_2, e_175_5, e_175_8, e_175_9, c11, is1, is2, true_and, mdO_c, mdO_g0, mdO_k0, mdO_g1, mdO_k1, mdO_g2, mdO_k2, mdO_g3, mdO_k3, mdO_g4, mdO_k4, mdO_g5, mdO_k5, mdO_g6, mdO_k6, mdO_g7, mdO_k7, mdO_g8, mdO_k8, mdO_g9, mdO_k9, mdO_g10, mdO_k10, mdO_g11, mdO_k11, mdO_g12, mdO_k12, mdO_g13, mdO_k13, mdO_g14, mdO_k14, mdO_g15, mdO_k15, mdO_g16, mdO_k16, mdO_g17, mdO_k17, mdO_g18, mdO_k18, mdO_g19, mdO_k19, mdO_g20, mdO_k20, mdO_g21, mdO_k21, mdO_g22, mdO_k22, mdO_g23, mdO_k23, mdO_g24, mdO_k24, mdO_g25, mdO_k25, mdO_g26, mdO_k26, mdO_g27, mdO_k27, mdO_g28, mdO_k28, mdO_g29, mdO_k29, mdO_g30, mdO_k30, mdO_g31, mdO_k31, mdO_g32, mdO_k32, mdO_g33, mdO_k33, mdO_g34, mdO_k34, mdO_g35, mdO_k35, mdO_s0, mdO_s5, mdO_s6, mdO_s7, mdO_s8, mdO_s9, mdO_s10, mdO_s11, mdO_s12, mdO_s13, mdO_s14, mdO_s15, mdO_s19, mdO_s20, mdO_s25, mdO_s26, mdO_s31, mdO_s32, md_1, md_2, md_g71, md_g72, md_g73, md_g74, md_g75, md_g76, md_g77, md_g78, md_g79, md_g80, md_g81, md_g82, md_g83, md_g84, md_g85, md_g86, md_g87, md_g88, md_g89, md_out, md_u71, md_u72, md_u73, md_u74, md_u75, md_u76, md_u77, md_u78, md_u79, md_u80, md_u81, md_u82, md_u83, md_u84, md_u85, md_u86, md_u87, md_u88, md_u89, md_uo, iup_s, iup_n, aup_s, aup_n, ne_eq, not_false_eq_true, sh_0, sh_1, sh_2, sh_3, sh_4, sh_5, sh_8, sh_15, sh_16, sh_24, Int.reducePow, Int.cast_ofNat_Int, w_of, wl_of, ltT, ltF, leT, leF, eqT, eqF, okF_0, okF_s, gF_0, gF_s, consC_o, sF_0, sF_s, clsO_o, inA_i, ldA_i, stA_i, inJ_l, ldJ_l, stJ_l, inR_r, ldR_r, stR_r, tgR_r, lenA_i, lenA_l, lenA_r, lenA_ex, nl_i, nl_o, nl_l, nl_n, wd_n, wd_i, wd_l, wd_o, fit_i, fit_l, fit_o, K_v, K_n, true_and, and_true, Nat.reduceAdd, Nat.reduceLeDiff, Nat.reduceEqDiff, Nat.reduceMul, Nat.reduceLT, reduceIte, true_or, or_true, cmp_lt, cmp_gt, cmp_eq, wb_0, b_01, cmp_lt', cmp_gt', cmp_eq', b_0, b_1, wb_1, Int.reduceSub, Int.reduceToNat, List.getD_cons_succ, List.getD_cons_zero, Int.reduceLE, Int.reduceLT, Int.reduceEq, Int.reduceNeg, Int.reduceAdd, Int.reduceMul, and_self, em_b, ne_eq, not_false_eq_true, not_true_eq_false]
      try rfl
    · obtain ⟨c11, c12⟩ := (rf_wr hr).2 hal
      rw [e_191_74]
      simp (disch := omega) only [e_191_75, e_191_78, true_and, mdO_c, mdO_g0, mdO_k0, mdO_g1, mdO_k1, mdO_g2, mdO_k2, mdO_g3, mdO_k3, mdO_g4, mdO_k4, mdO_g5, mdO_k5, mdO_g6, mdO_k6, mdO_g7, mdO_k7, mdO_g8, mdO_k8, mdO_g9, mdO_k9, mdO_g10, mdO_k10, mdO_g11, mdO_k11, mdO_g12, mdO_k12, mdO_g13, mdO_k13, mdO_g14, mdO_k14, mdO_g15, mdO_k15, mdO_g16, mdO_k16, mdO_g17, mdO_k17, mdO_g18, mdO_k18, mdO_g19, mdO_k19, mdO_g20, mdO_k20, mdO_g21, mdO_k21, mdO_g22, mdO_k22, mdO_g23, mdO_k23, mdO_g24, mdO_k24, mdO_g25, mdO_k25, mdO_g26, mdO_k26, mdO_g27, mdO_k27, mdO_g28, mdO_k28, mdO_g29, mdO_k29, mdO_g30, mdO_k30, mdO_g31, mdO_k31, mdO_g32, mdO_k32, mdO_g33, mdO_k33, mdO_g34, mdO_k34, mdO_g35, mdO_k35, mdO_s0, mdO_s5, mdO_s6, mdO_s7, mdO_s8, mdO_s9, mdO_s10, mdO_s11, mdO_s12, mdO_s13, mdO_s14, mdO_s15, mdO_s19, mdO_s20, mdO_s25, mdO_s26, mdO_s31, mdO_s32, md_1, md_2, md_g71, md_g72, md_g73, md_g74, md_g75, md_g76, md_g77, md_g78, md_g79, md_g80, md_g81, md_g82, md_g83, md_g84, md_g85, md_g86, md_g87, md_g88, md_g89, md_out, md_u71, md_u72, md_u73, md_u74, md_u75, md_u76, md_u77, md_u78, md_u79, md_u80, md_u81, md_u82, md_u83, md_u84, md_u85, md_u86, md_u87, md_u88, md_u89, md_uo, iup_s, iup_n, aup_s, aup_n, ne_eq, not_false_eq_true, sh_0, sh_1, sh_2, sh_3, sh_4, sh_5, sh_8, sh_15, sh_16, sh_24, Int.reducePow, Int.cast_ofNat_Int, w_of, wl_of, ltT, ltF, leT, leF, eqT, eqF, okF_0, okF_s, gF_0, gF_s, consC_o, sF_0, sF_s, clsO_o, inA_i, ldA_i, stA_i, inJ_l, ldJ_l, stJ_l, inR_r, ldR_r, stR_r, tgR_r, lenA_i, lenA_l, lenA_r, lenA_ex, nl_i, nl_o, nl_l, nl_n, wd_n, wd_i, wd_l, wd_o, fit_i, fit_l, fit_o, K_v, K_n, true_and, and_true, Nat.reduceAdd, Nat.reduceLeDiff, Nat.reduceEqDiff, Nat.reduceMul, Nat.reduceLT, reduceIte, true_or, or_true, cmp_lt, cmp_gt, cmp_eq, wb_0, b_01, cmp_lt', cmp_gt', cmp_eq', b_0, b_1, wb_1, Int.reduceSub, Int.reduceToNat, List.getD_cons_succ, List.getD_cons_zero, Int.reduceLE, Int.reduceLT, Int.reduceEq, Int.reduceNeg, Int.reduceAdd, Int.reduceMul, and_self, em_b, ne_eq, not_false_eq_true, not_true_eq_false]
      try rfl
theorem lp_flag (hnb : n ≤ b.length) (hb9 : b.length ≤ 900) : ∀ (r : Nat) (s : TS) (a t : Nat), okq n s → (∀ q, s = .inl q → n - q < r) → a ≤ 9 → t ≤ 3 → ∃ (s' : TS) (a' t' : Nat), prg n s s' [] ∧ a' ≤ 9 ∧ t' ≤ 3 ∧ (∀ k : Nat, k ≤ 900 → (∀ q, s = .inl q → k ≤ q) → FLc b n k s a t s' a' t') ∧ FLf b n s a t s' a' t' := by
  intro r
  induction r with
  | zero =>
    intro s a t hq hr ha ht
    have hB : ∀ kd, ¬ isB b n s kd = true := fun kd w => by
      match s, w with
      | .inl q, w => exact absurd (hr q rfl) (by omega)
      | .inr x, w => cases w
    obtain ⟨s', a', t', p1, p2, p3, p4, p5⟩ := ex_flag hq ha ht (hB 6) (hB 7)
    exact ⟨s', a', t', p1, p2, p3, fun k hk _ => p4 k hk, p5⟩
  | succ r ih =>
    intro s a t hq hr ha ht
    by_cases hB1 : isB b n s 6 = true
    · obtain ⟨q, rfl, hk⟩ := isB_t hB1
      have hqn := hq q rfl
      have hlt := tkE_lt hqn (show tkK b n q ≠ 32 by omega)
      have hle := (tkE_le (b := b) hqn).2
      have h33 : tkK b n q ≠ 33 := by omega
      have ok1 : okq n (.inl (tkE b n q)) := fun z e => by cases e; exact hle
      have ok2 := nu_ok (b := b) (lo := 0) (hi := 9) (oth := -1) ok1
      have hrq := hr q rfl
      obtain ⟨v, hv9, hv⟩ : ∃ v : Nat, v ≤ 9 ∧ ∀ q2 x, nuO b n 0 9 (-1) (.inl (tkE b n q)) = some (q2, x) → x = (v : Int) := by
        cases e : nuO b n 0 9 (-1) (.inl (tkE b n q)) with
        | none => exact ⟨0, by omega, (fun q2 x z => by cases z)⟩
        | some y =>
          obtain ⟨q2, x⟩ := y
          obtain ⟨_, _, _, z1, z2, _⟩ := nu_O ok1 e
          exact ⟨x.toNat, by omega, fun q3 x3 z => by cases z; omega⟩
      have hp2 : ∀ q2, nuS b n 0 9 (-1) (.inl (tkE b n q)) = .inl q2 → tkE b n q < q2 ∧ q2 ≤ n := fun q2 e => by
        obtain ⟨x, hx⟩ := nu_al e
        obtain ⟨_, e1, _, _, _, _, z1, z2⟩ := nu_O ok1 hx
        cases e1
        exact ⟨z1, z2⟩
      obtain ⟨s3, a3, t3, p3, w1, w2, cs3, fs3⟩ := ih (nuS b n 0 9 (-1) (.inl (tkE b n q))) v t ok2 (fun q2 e => by have := hp2 q2 e; omega) hv9 ht
      refine ⟨s3, a3, t3, ⟨fun q3 e => ?_, fun x e => by cases e⟩, w1, w2, fun k hk9 hkq h i j A kn hX hT hc hkn hj hvv => ?_, fun h i A p hX hT hr hp hvv => ?_⟩
      · obtain ⟨q2, e1, e2, e3⟩ := p3.1 q3 e
        have := hp2 q2 e1
        have e2' : q2 + 0 ≤ q3 := e2
        exact ⟨q, rfl, by show q + 0 ≤ q3; omega, e3⟩
      · have hkq' := hkq q rfl
        obtain ⟨v18, v19⟩ := hvv ⟨q, rfl, h33⟩
        rw [nrm_ok h33] at hc
        have c5 : i 5 = 6 := by rw [hc.2.2.2.2.2.1]; exact hk
        obtain ⟨i1, a1, a2, a3'⟩ := C_st1 (h := h) (j := j) hX hT hnb hc
        obtain ⟨i2, x1, b1, b2, b3, b4, b5⟩ := C_nu (h := h) (j := j) (A := A) (s := .inl (tkE b n q)) (lo := 0) (hi := 9) (oth := -1) hX hT hnb (by omega) (by omega) (by omega) a1
        obtain ⟨i3, A3, k3, f1, f2, f3, f4, f5, f6⟩ := cs3 (k + 1) (by omega) (fun q2 e => by have := hp2 q2 e; omega) h i2 j (aup A 18 (fset (A 18) (kn : Nat) x1)) kn hX ⟨hT.1, fun y z hz => by rw [aup_n (by omega)]; exact hT.2 y z hz⟩ b1 hkn hj (fun z => ⟨by
          obtain ⟨q2, e⟩ := alC_R z
          obtain ⟨x, hx⟩ := nu_al e
          rw [aup_s, fs_same, b4 _ _ hx, hv _ _ hx], by rw [aup_n (by omega)]; exact v19⟩)
        refine ⟨i3, A3, k3, f1, f2, frI_t a2 (frI_t b2 f3), frA_t (frA_u (by decide)) f4, fun x hx => by rw [(f5 x hx).1, (f5 x hx).2, aup_s, aup_n (by omega), fs_ne hx]; exact ⟨rfl, rfl⟩, fun d Q hd => ?_⟩
        obtain ⟨d', rfl⟩ : ∃ d', d = d' + 1 := ⟨d - 1, by omega⟩
        rw [← f6 (d' + 1) Q hd]
        have ek : (k : Int) + 1 = ((k + 1 : Nat) : Int) := by omega
        have hk900 : (k : Int) < 900 := by omega
        rw [e_65_75]
        simp (disch := omega) only [e_65_76, e_65_79, e_65_82, e_65_83, e_65_86, e_65_89, e_65_91, e_65_94, e_65_95, e_65_98, e_65_101, e_65_102, e_65_105, e_65_106, e_65_109, e_65_110, e_65_111, e_65_113, e_65_114, e_65_117, e_65_118, e_65_156, e_65_159, c5, a3', hj, b5, ek, true_and, tkO_c, tkO_g0, tkO_k0, tkO_g1, tkO_k1, tkO_g2, tkO_k2, tkO_g3, tkO_k3, tkO_g4, tkO_k4, tkO_g5, tkO_k5, tkO_g6, tkO_k6, tkO_g7, tkO_k7, tkO_g8, tkO_k8, tkO_s1, tkO_s2, tkO_s3, tkO_s4, tkO_s5, tkO_s6, tkO_s7, tkO_s8, rdO_c, rdO_g0, rdO_k0, rdO_g1, rdO_k1, rdO_g2, rdO_k2, rdO_g3, rdO_k3, rdO_g4, rdO_k4, rdO_g5, rdO_k5, rdO_g6, rdO_k6, rdO_g7, rdO_k7, rdO_g8, rdO_k8, rdO_g9, rdO_k9, rdO_g10, rdO_k10, rdO_g11, rdO_k11, rdO_g12, rdO_k12, rdO_g13, rdO_k13, rdO_g14, rdO_k14, rdO_g15, rdO_k15, rdO_g16, rdO_k16, rdO_g17, rdO_k17, rdO_s2, rdO_s3, rdO_s4, rdO_s10, rdO_s11, rdO_s12, rdO_s13, rdO_s14, rdO_s15, rdO_s16, rdO_s17, rh_1, rh_2, rh_g11, rh_g12, rh_g13, rh_g14, rh_g15, rh_g16, rh_g17, rh_g18, rh_g19, rh_out, rh_u11, rh_u12, rh_u13, rh_u14, rh_u15, rh_u16, rh_u17, rh_u18, rh_u19, iup_s, iup_n, aup_s, aup_n, ne_eq, not_false_eq_true, sh_0, sh_1, sh_2, sh_3, sh_4, sh_5, sh_8, sh_15, sh_16, sh_24, Int.reducePow, Int.cast_ofNat_Int, w_of, wl_of, ltT, ltF, leT, leF, eqT, eqF, okF_0, okF_s, gF_0, gF_s, consC_o, sF_0, sF_s, clsO_o, inA_i, ldA_i, stA_i, inJ_l, ldJ_l, stJ_l, inR_r, ldR_r, stR_r, tgR_r, lenA_i, lenA_l, lenA_r, lenA_ex, nl_i, nl_o, nl_l, nl_n, wd_n, wd_i, wd_l, wd_o, fit_i, fit_l, fit_o, K_v, K_n, true_and, and_true, Nat.reduceAdd, Nat.reduceLeDiff, Nat.reduceEqDiff, Nat.reduceMul, Nat.reduceLT, reduceIte, true_or, or_true, cmp_lt, cmp_gt, cmp_eq, wb_0, b_01, cmp_lt', cmp_gt', cmp_eq', b_0, b_1, wb_1, Int.reduceSub, Int.reduceToNat, List.getD_cons_succ, List.getD_cons_zero, Int.reduceLE, Int.reduceLT, Int.reduceEq, Int.reduceNeg, Int.reduceAdd, Int.reduceMul, and_self, em_b, ne_eq, not_false_eq_true, not_true_eq_false]
        try rfl
      · obtain ⟨v19, v25⟩ := hvv ⟨q, rfl⟩
        have c11 : i 11 = 0 := hr.2.2.1
        obtain ⟨i1, a1, a2, a3'⟩ := R_ea (h := h) (A := A) (kd := 6) hX hT hnb (by decide) hr
        rw [if_pos hB1] at a1
        rw [if_pos hB1, show rkK 6 = 6 from rfl] at a3'
        obtain ⟨i2, x1, b1, b2, b4, b5⟩ := R_tk (h := h) (A := A) (lo := 0) (hi := 9) hX hT hnb (by omega) (by omega) a1
        have b1' : rfT b n i2 (nuS b n 0 9 (-1) (.inl (tkE b n q))) := b1
        have e19 : (19 : Int) + (p : Int) = ((19 + p : Nat) : Int) := by omega
        obtain ⟨i3, A3, f1, f2, f3, f4, f5, f6⟩ := fs3 h i2 (aup A 75 (fset (A 75) ((19 + p : Nat) : Int) x1)) p hX ⟨hT.1, fun y z hz => by rw [aup_n (by omega)]; exact hT.2 y z hz⟩ b1' hp (fun z => ⟨by
          obtain ⟨q2, e⟩ := z
          obtain ⟨x, hx⟩ := nu_al e
          rw [aup_s, fs_same, b4 _ _ hx, hv _ _ hx], by rw [aup_s, fs_ne (by omega)]; exact v25⟩)
        refine ⟨i3, A3, f1, f2, frI_t a2 (frI_t b2 f3), frA_t (frA_u (by decide)) f4, fun x h1 h2 => by rw [f5 x h1 h2, aup_s, fs_ne h1], fun d Q hd => ?_⟩
        obtain ⟨d', rfl⟩ : ∃ d', d = d' + 2 := ⟨d - 2, by omega⟩
        rw [← f6 (d' + 2) Q hd]
        by_cases hal : alR (nuS b n 0 9 (-1) (.inl (tkE b n q)))
        · have e11 := (rf_wr b1').1 hal
          rw [e_191_74]
          simp (disch := omega) only [e_191_75, e_191_78, e_191_81, e_191_82, e_191_83, e_191_86, e_191_89, e_190_0, e_190_1, e_190_3, e_190_6, e_190_9, e_190_10, e_190_13, e_190_15, e_190_16, e_190_17, e_190_18, e_190_19, e_190_21, e_190_24, e_190_25, e_190_57, e_190_58, e_190_61, e_190_64, e_190_65, e_190_68, e_190_69, c11, a3', b5, e11, e19, true_and, mdO_c, mdO_g0, mdO_k0, mdO_g1, mdO_k1, mdO_g2, mdO_k2, mdO_g3, mdO_k3, mdO_g4, mdO_k4, mdO_g5, mdO_k5, mdO_g6, mdO_k6, mdO_g7, mdO_k7, mdO_g8, mdO_k8, mdO_g9, mdO_k9, mdO_g10, mdO_k10, mdO_g11, mdO_k11, mdO_g12, mdO_k12, mdO_g13, mdO_k13, mdO_g14, mdO_k14, mdO_g15, mdO_k15, mdO_g16, mdO_k16, mdO_g17, mdO_k17, mdO_g18, mdO_k18, mdO_g19, mdO_k19, mdO_g20, mdO_k20, mdO_g21, mdO_k21, mdO_g22, mdO_k22, mdO_g23, mdO_k23, mdO_g24, mdO_k24, mdO_g25, mdO_k25, mdO_g26, mdO_k26, mdO_g27, mdO_k27, mdO_g28, mdO_k28, mdO_g29, mdO_k29, mdO_g30, mdO_k30, mdO_g31, mdO_k31, mdO_g32, mdO_k32, mdO_g33, mdO_k33, mdO_g34, mdO_k34, mdO_g35, mdO_k35, mdO_s0, mdO_s5, mdO_s6, mdO_s7, mdO_s8, mdO_s9, mdO_s10, mdO_s11, mdO_s12, mdO_s13, mdO_s14, mdO_s15, mdO_s19, mdO_s20, mdO_s25, mdO_s26, mdO_s31, mdO_s32, md_1, md_2, md_g71, md_g72, md_g73, md_g74, md_g75, md_g76, md_g77, md_g78, md_g79, md_g80, md_g81, md_g82, md_g83, md_g84, md_g85, md_g86, md_g87, md_g88, md_g89, md_out, md_u71, md_u72, md_u73, md_u74, md_u75, md_u76, md_u77, md_u78, md_u79, md_u80, md_u81, md_u82, md_u83, md_u84, md_u85, md_u86, md_u87, md_u88, md_u89, md_uo, iup_s, iup_n, aup_s, aup_n, ne_eq, not_false_eq_true, sh_0, sh_1, sh_2, sh_3, sh_4, sh_5, sh_8, sh_15, sh_16, sh_24, Int.reducePow, Int.cast_ofNat_Int, w_of, wl_of, ltT, ltF, leT, leF, eqT, eqF, okF_0, okF_s, gF_0, gF_s, consC_o, sF_0, sF_s, clsO_o, inA_i, ldA_i, stA_i, inJ_l, ldJ_l, stJ_l, inR_r, ldR_r, stR_r, tgR_r, lenA_i, lenA_l, lenA_r, lenA_ex, nl_i, nl_o, nl_l, nl_n, wd_n, wd_i, wd_l, wd_o, fit_i, fit_l, fit_o, K_v, K_n, true_and, and_true, Nat.reduceAdd, Nat.reduceLeDiff, Nat.reduceEqDiff, Nat.reduceMul, Nat.reduceLT, reduceIte, true_or, or_true, cmp_lt, cmp_gt, cmp_eq, wb_0, b_01, cmp_lt', cmp_gt', cmp_eq', b_0, b_1, wb_1, Int.reduceSub, Int.reduceToNat, List.getD_cons_succ, List.getD_cons_zero, Int.reduceLE, Int.reduceLT, Int.reduceEq, Int.reduceNeg, Int.reduceAdd, Int.reduceMul, and_self, em_b, ne_eq, not_false_eq_true, not_true_eq_false]
          try rfl
        · obtain ⟨e11, e12⟩ := (rf_wr b1').2 hal
          rw [e_191_74]
          simp (disch := omega) only [e_191_75, e_191_78, e_191_81, e_191_82, e_191_83, e_191_86, e_190_0, e_190_1, e_190_3, e_190_6, e_190_9, e_190_10, e_190_13, e_190_15, e_190_16, e_190_17, e_190_18, e_190_19, e_190_21, e_190_24, e_190_25, e_190_57, e_190_58, e_190_61, e_190_64, e_190_65, e_190_68, e_190_69, c11, a3', b5, e19, true_and, mdO_c, mdO_g0, mdO_k0, mdO_g1, mdO_k1, mdO_g2, mdO_k2, mdO_g3, mdO_k3, mdO_g4, mdO_k4, mdO_g5, mdO_k5, mdO_g6, mdO_k6, mdO_g7, mdO_k7, mdO_g8, mdO_k8, mdO_g9, mdO_k9, mdO_g10, mdO_k10, mdO_g11, mdO_k11, mdO_g12, mdO_k12, mdO_g13, mdO_k13, mdO_g14, mdO_k14, mdO_g15, mdO_k15, mdO_g16, mdO_k16, mdO_g17, mdO_k17, mdO_g18, mdO_k18, mdO_g19, mdO_k19, mdO_g20, mdO_k20, mdO_g21, mdO_k21, mdO_g22, mdO_k22, mdO_g23, mdO_k23, mdO_g24, mdO_k24, mdO_g25, mdO_k25, mdO_g26, mdO_k26, mdO_g27, mdO_k27, mdO_g28, mdO_k28, mdO_g29, mdO_k29, mdO_g30, mdO_k30, mdO_g31, mdO_k31, mdO_g32, mdO_k32, mdO_g33, mdO_k33, mdO_g34, mdO_k34, mdO_g35, mdO_k35, mdO_s0, mdO_s5, mdO_s6, mdO_s7, mdO_s8, mdO_s9, mdO_s10, mdO_s11, mdO_s12, mdO_s13, mdO_s14, mdO_s15, mdO_s19, mdO_s20, mdO_s25, mdO_s26, mdO_s31, mdO_s32, md_1, md_2, md_g71, md_g72, md_g73, md_g74, md_g75, md_g76, md_g77, md_g78, md_g79, md_g80, md_g81, md_g82, md_g83, md_g84, md_g85, md_g86, md_g87, md_g88, md_g89, md_out, md_u71, md_u72, md_u73, md_u74, md_u75, md_u76, md_u77, md_u78, md_u79, md_u80, md_u81, md_u82, md_u83, md_u84, md_u85, md_u86, md_u87, md_u88, md_u89, md_uo, iup_s, iup_n, aup_s, aup_n, ne_eq, not_false_eq_true, sh_0, sh_1, sh_2, sh_3, sh_4, sh_5, sh_8, sh_15, sh_16, sh_24, Int.reducePow, Int.cast_ofNat_Int, w_of, wl_of, ltT, ltF, leT, leF, eqT, eqF, okF_0, okF_s, gF_0, gF_s, consC_o, sF_0, sF_s, clsO_o, inA_i, ldA_i, stA_i, inJ_l, ldJ_l, stJ_l, inR_r, ldR_r, stR_r, tgR_r, lenA_i, lenA_l, lenA_r, lenA_ex, nl_i, nl_o, nl_l, nl_n, wd_n, wd_i, wd_l, wd_o, fit_i, fit_l, fit_o, K_v, K_n, true_and, and_true, Nat.reduceAdd, Nat.reduceLeDiff, Nat.reduceEqDiff, Nat.reduceMul, Nat.reduceLT, reduceIte, true_or, or_true, cmp_lt, cmp_gt, cmp_eq, wb_0, b_01, cmp_lt', cmp_gt', cmp_eq', b_0, b_1, wb_1, Int.reduceSub, Int.reduceToNat, List.getD_cons_succ, List.getD_cons_zero, Int.reduceLE, Int.reduceLT, Int.reduceEq, Int.reduceNeg, Int.reduceAdd, Int.reduceMul, and_self, em_b, ne_eq, not_false_eq_true, not_true_eq_false]
          rw [e_191_74]
          simp (disch := omega) only [e_191_75, e_191_78, true_and, mdO_c, mdO_g0, mdO_k0, mdO_g1, mdO_k1, mdO_g2, mdO_k2, mdO_g3, mdO_k3, mdO_g4, mdO_k4, mdO_g5, mdO_k5, mdO_g6, mdO_k6, mdO_g7, mdO_k7, mdO_g8, mdO_k8, mdO_g9, mdO_k9, mdO_g10, mdO_k10, mdO_g11, mdO_k11, mdO_g12, mdO_k12, mdO_g13, mdO_k13, mdO_g14, mdO_k14, mdO_g15, mdO_k15, mdO_g16, mdO_k16, mdO_g17, mdO_k17, mdO_g18, mdO_k18, mdO_g19, mdO_k19, mdO_g20, mdO_k20, mdO_g21, mdO_k21, mdO_g22, mdO_k22, mdO_g23, mdO_k23, mdO_g24, mdO_k24, mdO_g25, mdO_k25, mdO_g26, mdO_k26, mdO_g27, mdO_k27, mdO_g28, mdO_k28, mdO_g29, mdO_k29, mdO_g30, mdO_k30, mdO_g31, mdO_k31, mdO_g32, mdO_k32, mdO_g33, mdO_k33, mdO_g34, mdO_k34, mdO_g35, mdO_k35, mdO_s0, mdO_s5, mdO_s6, mdO_s7, mdO_s8, mdO_s9, mdO_s10, mdO_s11, mdO_s12, mdO_s13, mdO_s14, mdO_s15, mdO_s19, mdO_s20, mdO_s25, mdO_s26, mdO_s31, mdO_s32, md_1, md_2, md_g71, md_g72, md_g73, md_g74, md_g75, md_g76, md_g77, md_g78, md_g79, md_g80, md_g81, md_g82, md_g83, md_g84, md_g85, md_g86, md_g87, md_g88, md_g89, md_out, md_u71, md_u72, md_u73, md_u74, md_u75, md_u76, md_u77, md_u78, md_u79, md_u80, md_u81, md_u82, md_u83, md_u84, md_u85, md_u86, md_u87, md_u88, md_u89, md_uo, iup_s, iup_n, aup_s, aup_n, ne_eq, not_false_eq_true, sh_0, sh_1, sh_2, sh_3, sh_4, sh_5, sh_8, sh_15, sh_16, sh_24, Int.reducePow, Int.cast_ofNat_Int, w_of, wl_of, ltT, ltF, leT, leF, eqT, eqF, okF_0, okF_s, gF_0, gF_s, consC_o, sF_0, sF_s, clsO_o, inA_i, ldA_i, stA_i, inJ_l, ldJ_l, stJ_l, inR_r, ldR_r, stR_r, tgR_r, lenA_i, lenA_l, lenA_r, lenA_ex, nl_i, nl_o, nl_l, nl_n, wd_n, wd_i, wd_l, wd_o, fit_i, fit_l, fit_o, K_v, K_n, true_and, and_true, Nat.reduceAdd, Nat.reduceLeDiff, Nat.reduceEqDiff, Nat.reduceMul, Nat.reduceLT, reduceIte, true_or, or_true, cmp_lt, cmp_gt, cmp_eq, wb_0, b_01, cmp_lt', cmp_gt', cmp_eq', b_0, b_1, wb_1, Int.reduceSub, Int.reduceToNat, List.getD_cons_succ, List.getD_cons_zero, Int.reduceLE, Int.reduceLT, Int.reduceEq, Int.reduceNeg, Int.reduceAdd, Int.reduceMul, and_self, em_b, ne_eq, not_false_eq_true, not_true_eq_false]
          try rfl
    · by_cases hB2 : isB b n s 7 = true
      · obtain ⟨q, rfl, hk⟩ := isB_t hB2
        have hqn := hq q rfl
        have hlt := tkE_lt hqn (show tkK b n q ≠ 32 by omega)
        have hle := (tkE_le (b := b) hqn).2
        have h33 : tkK b n q ≠ 33 := by omega
        have ok1 : okq n (.inl (tkE b n q)) := fun z e => by cases e; exact hle
        have ok2 := nu_ok (b := b) (lo := 0) (hi := 3) (oth := -1) ok1
        have hrq := hr q rfl
        obtain ⟨v, hv9, hv⟩ : ∃ v : Nat, v ≤ 3 ∧ ∀ q2 x, nuO b n 0 3 (-1) (.inl (tkE b n q)) = some (q2, x) → x = (v : Int) := by
          cases e : nuO b n 0 3 (-1) (.inl (tkE b n q)) with
          | none => exact ⟨0, by omega, (fun q2 x z => by cases z)⟩
          | some y =>
            obtain ⟨q2, x⟩ := y
            obtain ⟨_, _, _, z1, z2, _⟩ := nu_O ok1 e
            exact ⟨x.toNat, by omega, fun q3 x3 z => by cases z; omega⟩
        have hp2 : ∀ q2, nuS b n 0 3 (-1) (.inl (tkE b n q)) = .inl q2 → tkE b n q < q2 ∧ q2 ≤ n := fun q2 e => by
          obtain ⟨x, hx⟩ := nu_al e
          obtain ⟨_, e1, _, _, _, _, z1, z2⟩ := nu_O ok1 hx
          cases e1
          exact ⟨z1, z2⟩
        obtain ⟨s3, a3, t3, p3, w1, w2, cs3, fs3⟩ := ih (nuS b n 0 3 (-1) (.inl (tkE b n q))) a v ok2 (fun q2 e => by have := hp2 q2 e; omega) ha hv9
        refine ⟨s3, a3, t3, ⟨fun q3 e => ?_, fun x e => by cases e⟩, w1, w2, fun k hk9 hkq h i j A kn hX hT hc hkn hj hvv => ?_, fun h i A p hX hT hr hp hvv => ?_⟩
        · obtain ⟨q2, e1, e2, e3⟩ := p3.1 q3 e
          have := hp2 q2 e1
          have e2' : q2 + 0 ≤ q3 := e2
          exact ⟨q, rfl, by show q + 0 ≤ q3; omega, e3⟩
        · have hkq' := hkq q rfl
          obtain ⟨v18, v19⟩ := hvv ⟨q, rfl, h33⟩
          rw [nrm_ok h33] at hc
          have c5 : i 5 = 7 := by rw [hc.2.2.2.2.2.1]; exact hk
          obtain ⟨i1, a1, a2, a3'⟩ := C_st1 (h := h) (j := j) hX hT hnb hc
          obtain ⟨i2, x1, b1, b2, b3, b4, b5⟩ := C_nu (h := h) (j := j) (A := A) (s := .inl (tkE b n q)) (lo := 0) (hi := 3) (oth := -1) hX hT hnb (by omega) (by omega) (by omega) a1
          obtain ⟨i3, A3, k3, f1, f2, f3, f4, f5, f6⟩ := cs3 (k + 1) (by omega) (fun q2 e => by have := hp2 q2 e; omega) h i2 j (aup A 19 (fset (A 19) (kn : Nat) x1)) kn hX ⟨hT.1, fun y z hz => by rw [aup_n (by omega)]; exact hT.2 y z hz⟩ b1 hkn hj (fun z => ⟨by rw [aup_n (by omega)]; exact v18, by
            obtain ⟨q2, e⟩ := alC_R z
            obtain ⟨x, hx⟩ := nu_al e
            rw [aup_s, fs_same, b4 _ _ hx, hv _ _ hx]⟩)
          refine ⟨i3, A3, k3, f1, f2, frI_t a2 (frI_t b2 f3), frA_t (frA_u (by decide)) f4, fun x hx => by rw [(f5 x hx).1, (f5 x hx).2, aup_s, aup_n (by omega), fs_ne hx]; exact ⟨rfl, rfl⟩, fun d Q hd => ?_⟩
          obtain ⟨d', rfl⟩ : ∃ d', d = d' + 1 := ⟨d - 1, by omega⟩
          rw [← f6 (d' + 1) Q hd]
          have ek : (k : Int) + 1 = ((k + 1 : Nat) : Int) := by omega
          have hk900 : (k : Int) < 900 := by omega
          rw [e_65_75]
          simp (disch := omega) only [e_65_76, e_65_79, e_65_82, e_65_83, e_65_86, e_65_89, e_65_91, e_65_121, e_65_122, e_65_125, e_65_128, e_65_130, e_65_133, e_65_134, e_65_137, e_65_140, e_65_141, e_65_144, e_65_145, e_65_148, e_65_149, e_65_150, e_65_151, e_65_152, e_65_155, e_65_156, e_65_159, c5, a3', hj, b5, ek, true_and, tkO_c, tkO_g0, tkO_k0, tkO_g1, tkO_k1, tkO_g2, tkO_k2, tkO_g3, tkO_k3, tkO_g4, tkO_k4, tkO_g5, tkO_k5, tkO_g6, tkO_k6, tkO_g7, tkO_k7, tkO_g8, tkO_k8, tkO_s1, tkO_s2, tkO_s3, tkO_s4, tkO_s5, tkO_s6, tkO_s7, tkO_s8, rdO_c, rdO_g0, rdO_k0, rdO_g1, rdO_k1, rdO_g2, rdO_k2, rdO_g3, rdO_k3, rdO_g4, rdO_k4, rdO_g5, rdO_k5, rdO_g6, rdO_k6, rdO_g7, rdO_k7, rdO_g8, rdO_k8, rdO_g9, rdO_k9, rdO_g10, rdO_k10, rdO_g11, rdO_k11, rdO_g12, rdO_k12, rdO_g13, rdO_k13, rdO_g14, rdO_k14, rdO_g15, rdO_k15, rdO_g16, rdO_k16, rdO_g17, rdO_k17, rdO_s2, rdO_s3, rdO_s4, rdO_s10, rdO_s11, rdO_s12, rdO_s13, rdO_s14, rdO_s15, rdO_s16, rdO_s17, rh_1, rh_2, rh_g11, rh_g12, rh_g13, rh_g14, rh_g15, rh_g16, rh_g17, rh_g18, rh_g19, rh_out, rh_u11, rh_u12, rh_u13, rh_u14, rh_u15, rh_u16, rh_u17, rh_u18, rh_u19, iup_s, iup_n, aup_s, aup_n, ne_eq, not_false_eq_true, sh_0, sh_1, sh_2, sh_3, sh_4, sh_5, sh_8, sh_15, sh_16, sh_24, Int.reducePow, Int.cast_ofNat_Int, w_of, wl_of, ltT, ltF, leT, leF, eqT, eqF, okF_0, okF_s, gF_0, gF_s, consC_o, sF_0, sF_s, clsO_o, inA_i, ldA_i, stA_i, inJ_l, ldJ_l, stJ_l, inR_r, ldR_r, stR_r, tgR_r, lenA_i, lenA_l, lenA_r, lenA_ex, nl_i, nl_o, nl_l, nl_n, wd_n, wd_i, wd_l, wd_o, fit_i, fit_l, fit_o, K_v, K_n, true_and, and_true, Nat.reduceAdd, Nat.reduceLeDiff, Nat.reduceEqDiff, Nat.reduceMul, Nat.reduceLT, reduceIte, true_or, or_true, cmp_lt, cmp_gt, cmp_eq, wb_0, b_01, cmp_lt', cmp_gt', cmp_eq', b_0, b_1, wb_1, Int.reduceSub, Int.reduceToNat, List.getD_cons_succ, List.getD_cons_zero, Int.reduceLE, Int.reduceLT, Int.reduceEq, Int.reduceNeg, Int.reduceAdd, Int.reduceMul, and_self, em_b, ne_eq, not_false_eq_true, not_true_eq_false]
          try rfl
        · obtain ⟨v19, v25⟩ := hvv ⟨q, rfl⟩
          have c11 : i 11 = 0 := hr.2.2.1
          have is1 := r_is (h := h) (A := A) (kd := 6) (by decide) hr
          rw [if_neg hB1, show rkK 6 = 6 from rfl] at is1
          obtain ⟨i1, a1, a2, a3'⟩ := R_ea (h := h) (A := A) (kd := 7) hX hT hnb (by decide) hr
          rw [if_pos hB2] at a1
          rw [if_pos hB2, show rkK 7 = 7 from rfl] at a3'
          obtain ⟨i2, x1, b1, b2, b4, b5⟩ := R_tk (h := h) (A := A) (lo := 0) (hi := 3) hX hT hnb (by omega) (by omega) a1
          have b1' : rfT b n i2 (nuS b n 0 3 (-1) (.inl (tkE b n q))) := b1
          have e25 : (25 : Int) + (p : Int) = ((25 + p : Nat) : Int) := by omega
          obtain ⟨i3, A3, f1, f2, f3, f4, f5, f6⟩ := fs3 h i2 (aup A 75 (fset (A 75) ((25 + p : Nat) : Int) x1)) p hX ⟨hT.1, fun y z hz => by rw [aup_n (by omega)]; exact hT.2 y z hz⟩ b1' hp (fun z => ⟨by rw [aup_s, fs_ne (by omega)]; exact v19, by
            obtain ⟨q2, e⟩ := z
            obtain ⟨x, hx⟩ := nu_al e
            rw [aup_s, fs_same, b4 _ _ hx, hv _ _ hx]⟩)
          refine ⟨i3, A3, f1, f2, frI_t a2 (frI_t b2 f3), frA_t (frA_u (by decide)) f4, fun x h1 h2 => by rw [f5 x h1 h2, aup_s, fs_ne h2], fun d Q hd => ?_⟩
          obtain ⟨d', rfl⟩ : ∃ d', d = d' + 3 := ⟨d - 3, by omega⟩
          rw [← f6 (d' + 3) Q hd]
          by_cases hal : alR (nuS b n 0 3 (-1) (.inl (tkE b n q)))
          · have e11 := (rf_wr b1').1 hal
            rw [e_191_74]
            simp (disch := omega) only [e_191_75, e_191_78, e_191_81, e_191_82, e_191_83, e_191_86, e_191_89, e_190_0, e_190_1, e_190_3, e_190_6, e_190_28, e_190_29, e_190_31, e_190_34, e_190_37, e_190_38, e_190_41, e_190_43, e_190_44, e_190_45, e_190_46, e_190_47, e_190_48, e_190_51, e_190_52, e_190_57, e_190_58, e_190_61, e_190_64, e_190_65, e_190_68, e_190_69, e_175_0, e_175_1, e_175_2, e_175_5, e_175_8, e_175_9, c11, is1, a3', b5, e11, e25, true_and, mdO_c, mdO_g0, mdO_k0, mdO_g1, mdO_k1, mdO_g2, mdO_k2, mdO_g3, mdO_k3, mdO_g4, mdO_k4, mdO_g5, mdO_k5, mdO_g6, mdO_k6, mdO_g7, mdO_k7, mdO_g8, mdO_k8, mdO_g9, mdO_k9, mdO_g10, mdO_k10, mdO_g11, mdO_k11, mdO_g12, mdO_k12, mdO_g13, mdO_k13, mdO_g14, mdO_k14, mdO_g15, mdO_k15, mdO_g16, mdO_k16, mdO_g17, mdO_k17, mdO_g18, mdO_k18, mdO_g19, mdO_k19, mdO_g20, mdO_k20, mdO_g21, mdO_k21, mdO_g22, mdO_k22, mdO_g23, mdO_k23, mdO_g24, mdO_k24, mdO_g25, mdO_k25, mdO_g26, mdO_k26, mdO_g27, mdO_k27, mdO_g28, mdO_k28, mdO_g29, mdO_k29, mdO_g30, mdO_k30, mdO_g31, mdO_k31, mdO_g32, mdO_k32, mdO_g33, mdO_k33, mdO_g34, mdO_k34, mdO_g35, mdO_k35, mdO_s0, mdO_s5, mdO_s6, mdO_s7, mdO_s8, mdO_s9, mdO_s10, mdO_s11, mdO_s12, mdO_s13, mdO_s14, mdO_s15, mdO_s19, mdO_s20, mdO_s25, mdO_s26, mdO_s31, mdO_s32, md_1, md_2, md_g71, md_g72, md_g73, md_g74, md_g75, md_g76, md_g77, md_g78, md_g79, md_g80, md_g81, md_g82, md_g83, md_g84, md_g85, md_g86, md_g87, md_g88, md_g89, md_out, md_u71, md_u72, md_u73, md_u74, md_u75, md_u76, md_u77, md_u78, md_u79, md_u80, md_u81, md_u82, md_u83, md_u84, md_u85, md_u86, md_u87, md_u88, md_u89, md_uo, iup_s, iup_n, aup_s, aup_n, ne_eq, not_false_eq_true, sh_0, sh_1, sh_2, sh_3, sh_4, sh_5, sh_8, sh_15, sh_16, sh_24, Int.reducePow, Int.cast_ofNat_Int, w_of, wl_of, ltT, ltF, leT, leF, eqT, eqF, okF_0, okF_s, gF_0, gF_s, consC_o, sF_0, sF_s, clsO_o, inA_i, ldA_i, stA_i, inJ_l, ldJ_l, stJ_l, inR_r, ldR_r, stR_r, tgR_r, lenA_i, lenA_l, lenA_r, lenA_ex, nl_i, nl_o, nl_l, nl_n, wd_n, wd_i, wd_l, wd_o, fit_i, fit_l, fit_o, K_v, K_n, true_and, and_true, Nat.reduceAdd, Nat.reduceLeDiff, Nat.reduceEqDiff, Nat.reduceMul, Nat.reduceLT, reduceIte, true_or, or_true, cmp_lt, cmp_gt, cmp_eq, wb_0, b_01, cmp_lt', cmp_gt', cmp_eq', b_0, b_1, wb_1, Int.reduceSub, Int.reduceToNat, List.getD_cons_succ, List.getD_cons_zero, Int.reduceLE, Int.reduceLT, Int.reduceEq, Int.reduceNeg, Int.reduceAdd, Int.reduceMul, and_self, em_b, ne_eq, not_false_eq_true, not_true_eq_false]
            try rfl
          · obtain ⟨e11, e12⟩ := (rf_wr b1').2 hal
            rw [e_191_74]
            simp (disch := omega) only [e_191_75, e_191_78, e_191_81, e_191_82, e_191_83, e_191_86, e_190_0, e_190_1, e_190_3, e_190_6, e_190_28, e_190_29, e_190_31, e_190_34, e_190_37, e_190_38, e_190_41, e_190_43, e_190_44, e_190_45, e_190_46, e_190_47, e_190_48, e_190_51, e_190_52, e_190_57, e_190_58, e_190_61, e_190_64, e_190_65, e_190_68, e_190_69, e_175_0, e_175_1, e_175_2, e_175_5, e_175_8, e_175_9, c11, is1, a3', b5, e25, true_and, mdO_c, mdO_g0, mdO_k0, mdO_g1, mdO_k1, mdO_g2, mdO_k2, mdO_g3, mdO_k3, mdO_g4, mdO_k4, mdO_g5, mdO_k5, mdO_g6, mdO_k6, mdO_g7, mdO_k7, mdO_g8, mdO_k8, mdO_g9, mdO_k9, mdO_g10, mdO_k10, mdO_g11, mdO_k11, mdO_g12, mdO_k12, mdO_g13, mdO_k13, mdO_g14, mdO_k14, mdO_g15, mdO_k15, mdO_g16, mdO_k16, mdO_g17, mdO_k17, mdO_g18, mdO_k18, mdO_g19, mdO_k19, mdO_g20, mdO_k20, mdO_g21, mdO_k21, mdO_g22, mdO_k22, mdO_g23, mdO_k23, mdO_g24, mdO_k24, mdO_g25, mdO_k25, mdO_g26, mdO_k26, mdO_g27, mdO_k27, mdO_g28, mdO_k28, mdO_g29, mdO_k29, mdO_g30, mdO_k30, mdO_g31, mdO_k31, mdO_g32, mdO_k32, mdO_g33, mdO_k33, mdO_g34, mdO_k34, mdO_g35, mdO_k35, mdO_s0, mdO_s5, mdO_s6, mdO_s7, mdO_s8, mdO_s9, mdO_s10, mdO_s11, mdO_s12, mdO_s13, mdO_s14, mdO_s15, mdO_s19, mdO_s20, mdO_s25, mdO_s26, mdO_s31, mdO_s32, md_1, md_2, md_g71, md_g72, md_g73, md_g74, md_g75, md_g76, md_g77, md_g78, md_g79, md_g80, md_g81, md_g82, md_g83, md_g84, md_g85, md_g86, md_g87, md_g88, md_g89, md_out, md_u71, md_u72, md_u73, md_u74, md_u75, md_u76, md_u77, md_u78, md_u79, md_u80, md_u81, md_u82, md_u83, md_u84, md_u85, md_u86, md_u87, md_u88, md_u89, md_uo, iup_s, iup_n, aup_s, aup_n, ne_eq, not_false_eq_true, sh_0, sh_1, sh_2, sh_3, sh_4, sh_5, sh_8, sh_15, sh_16, sh_24, Int.reducePow, Int.cast_ofNat_Int, w_of, wl_of, ltT, ltF, leT, leF, eqT, eqF, okF_0, okF_s, gF_0, gF_s, consC_o, sF_0, sF_s, clsO_o, inA_i, ldA_i, stA_i, inJ_l, ldJ_l, stJ_l, inR_r, ldR_r, stR_r, tgR_r, lenA_i, lenA_l, lenA_r, lenA_ex, nl_i, nl_o, nl_l, nl_n, wd_n, wd_i, wd_l, wd_o, fit_i, fit_l, fit_o, K_v, K_n, true_and, and_true, Nat.reduceAdd, Nat.reduceLeDiff, Nat.reduceEqDiff, Nat.reduceMul, Nat.reduceLT, reduceIte, true_or, or_true, cmp_lt, cmp_gt, cmp_eq, wb_0, b_01, cmp_lt', cmp_gt', cmp_eq', b_0, b_1, wb_1, Int.reduceSub, Int.reduceToNat, List.getD_cons_succ, List.getD_cons_zero, Int.reduceLE, Int.reduceLT, Int.reduceEq, Int.reduceNeg, Int.reduceAdd, Int.reduceMul, and_self, em_b, ne_eq, not_false_eq_true, not_true_eq_false]
            rw [e_191_74]
            simp (disch := omega) only [e_191_75, e_191_78, true_and, mdO_c, mdO_g0, mdO_k0, mdO_g1, mdO_k1, mdO_g2, mdO_k2, mdO_g3, mdO_k3, mdO_g4, mdO_k4, mdO_g5, mdO_k5, mdO_g6, mdO_k6, mdO_g7, mdO_k7, mdO_g8, mdO_k8, mdO_g9, mdO_k9, mdO_g10, mdO_k10, mdO_g11, mdO_k11, mdO_g12, mdO_k12, mdO_g13, mdO_k13, mdO_g14, mdO_k14, mdO_g15, mdO_k15, mdO_g16, mdO_k16, mdO_g17, mdO_k17, mdO_g18, mdO_k18, mdO_g19, mdO_k19, mdO_g20, mdO_k20, mdO_g21, mdO_k21, mdO_g22, mdO_k22, mdO_g23, mdO_k23, mdO_g24, mdO_k24, mdO_g25, mdO_k25, mdO_g26, mdO_k26, mdO_g27, mdO_k27, mdO_g28, mdO_k28, mdO_g29, mdO_k29, mdO_g30, mdO_k30, mdO_g31, mdO_k31, mdO_g32, mdO_k32, mdO_g33, mdO_k33, mdO_g34, mdO_k34, mdO_g35, mdO_k35, mdO_s0, mdO_s5, mdO_s6, mdO_s7, mdO_s8, mdO_s9, mdO_s10, mdO_s11, mdO_s12, mdO_s13, mdO_s14, mdO_s15, mdO_s19, mdO_s20, mdO_s25, mdO_s26, mdO_s31, mdO_s32, md_1, md_2, md_g71, md_g72, md_g73, md_g74, md_g75, md_g76, md_g77, md_g78, md_g79, md_g80, md_g81, md_g82, md_g83, md_g84, md_g85, md_g86, md_g87, md_g88, md_g89, md_out, md_u71, md_u72, md_u73, md_u74, md_u75, md_u76, md_u77, md_u78, md_u79, md_u80, md_u81, md_u82, md_u83, md_u84, md_u85, md_u86, md_u87, md_u88, md_u89, md_uo, iup_s, iup_n, aup_s, aup_n, ne_eq, not_false_eq_true, sh_0, sh_1, sh_2, sh_3, sh_4, sh_5, sh_8, sh_15, sh_16, sh_24, Int.reducePow, Int.cast_ofNat_Int, w_of, wl_of, ltT, ltF, leT, leF, eqT, eqF, okF_0, okF_s, gF_0, gF_s, consC_o, sF_0, sF_s, clsO_o, inA_i, ldA_i, stA_i, inJ_l, ldJ_l, stJ_l, inR_r, ldR_r, stR_r, tgR_r, lenA_i, lenA_l, lenA_r, lenA_ex, nl_i, nl_o, nl_l, nl_n, wd_n, wd_i, wd_l, wd_o, fit_i, fit_l, fit_o, K_v, K_n, true_and, and_true, Nat.reduceAdd, Nat.reduceLeDiff, Nat.reduceEqDiff, Nat.reduceMul, Nat.reduceLT, reduceIte, true_or, or_true, cmp_lt, cmp_gt, cmp_eq, wb_0, b_01, cmp_lt', cmp_gt', cmp_eq', b_0, b_1, wb_1, Int.reduceSub, Int.reduceToNat, List.getD_cons_succ, List.getD_cons_zero, Int.reduceLE, Int.reduceLT, Int.reduceEq, Int.reduceNeg, Int.reduceAdd, Int.reduceMul, and_self, em_b, ne_eq, not_false_eq_true, not_true_eq_false]
            try rfl
      · obtain ⟨s', a', t', p1, p2, p3, p4, p5⟩ := ex_flag hq ha ht hB1 hB2
        exact ⟨s', a', t', p1, p2, p3, fun k hk _ => p4 k hk, p5⟩
end ln
