/-! READING A COUNTY: bears, weather, laws -/
section ln
variable {b : List Int} {n q : Nat} {c : KC} {C : List Int}
theorem LN_bears (hnb : n ≤ b.length) (hqn : q ≤ n) (hk : tkK b n q = 8) (hD : okD c) (hC : C.length ≤ q) : ∃ s' c' C', LNp n q c s' c' C' ∧ LNc b n 9 64 171 [some (vi 8), none, none, none] q c C s' c' C' ∧ LNf b n 9 193 0 [] q c C s' c' C' := by
  have hlt := tkE_lt hqn (show tkK b n q ≠ 32 by omega)
  have hle := (tkE_le (b := b) hqn).2
  have h33 : tkK b n q ≠ 33 := by omega
  obtain ⟨hP1, hP5, hN3⟩ := hD.1
  have ok1 : okq n (.inl (tkE b n q)) := fun z e => by cases e; exact hle
  have is0 : ∀ kd, kd ≠ 8 → ¬ isB b n (.inl q) kd = true := fun kd hz w => hz (by have := of_decide_eq_true w; omega)
  have is8 : isB b n (.inl q) 8 = true := decide_eq_true hk
  by_cases hal : alR (nuS b n 0 ((kN c : Int) - 1) (-1) (.inl (tkE b n q)))
  · obtain ⟨q', e'⟩ := hal
    obtain ⟨vz, hv⟩ := nu_al e'
    obtain ⟨q2', e3, v0, v1, v2, v3, v4, v5⟩ := nu_O ok1 hv
    cases e3
    obtain ⟨v, rfl⟩ : ∃ v : Nat, vz = (v : Int) := ⟨vz.toNat, by omega⟩
    refine ⟨.inl q', kB c v, C, fun q'' e => ?_, fun h i j A hX hT hc hR hcd => ?_, fun h i A hX hT hr hR => ?_⟩
    · cases e
      obtain ⟨d1, d2, d3, d4, d5, ⟨s1, s2, s3, s4⟩, d7, d8, d9, d10⟩ := hD
      exact ⟨by omega, v5, ⟨d1, d2, d3, d4, d5, ⟨s1, s2, fun z => by have : kN c = 0 := z; omega, fun _ => by show v < kN c; omega⟩, d7, d8, d9, d10⟩, by omega, rfl⟩
    · obtain ⟨r1, r2, r3, r4, r5, r6, r7, r8, r9⟩ := hR
      obtain ⟨i1, a1, a2, a3⟩ := C_st1 (h := h) (j := j) hX hT hnb hc
      obtain ⟨i2, w1, b1, b2, b3, b4, b5⟩ := C_nu (h := h) (j := j) (A := A) (s := .inl (tkE b n q)) (lo := 0) (hi := (kN c : Int) - 1) (oth := -1) hX hT hnb (by omega) (by omega) (by omega) a1
      have ew1 := b4 _ _ hv
      subst ew1
      rw [e'] at b1
      refine ⟨i2, iup j 10 (v : Nat), A, b1, fun _ => ⟨by rw [iup_n (by omega)]; exact r1, by rw [iup_n (by omega)]; exact r2, by rw [iup_n (by omega)]; exact r3, by rw [iup_n (by omega)]; exact r4, iup_s, r6, r7, by rw [iup_n (by omega), iup_n (by omega)]; exact r8, by rw [iup_n (by omega), iup_n (by omega)]; exact r9⟩, cd_t (cd_fr hcd (iup_n (by omega)) rfl) (fun _ => trivial), frI_t a2 b2, frA_r, fun d Q hd => ?_⟩
      obtain ⟨d', rfl⟩ : ∃ d', d = d' + 1 := ⟨d - 1, by omega⟩
      simp (disch := omega) only [e_64_171, e_64_172, e_64_175, e_64_178, e_64_179, e_64_180, e_64_181, e_64_182, e_64_185, e_64_186, e_64_187, e_64_188, e_64_191, e_64_194, e_64_235, r2, a3, b5, true_and, tkO_c, tkO_g0, tkO_k0, tkO_g1, tkO_k1, tkO_g2, tkO_k2, tkO_g3, tkO_k3, tkO_g4, tkO_k4, tkO_g5, tkO_k5, tkO_g6, tkO_k6, tkO_g7, tkO_k7, tkO_g8, tkO_k8, tkO_s1, tkO_s2, tkO_s3, tkO_s4, tkO_s5, tkO_s6, tkO_s7, tkO_s8, rdO_c, rdO_g0, rdO_k0, rdO_g1, rdO_k1, rdO_g2, rdO_k2, rdO_g3, rdO_k3, rdO_g4, rdO_k4, rdO_g5, rdO_k5, rdO_g6, rdO_k6, rdO_g7, rdO_k7, rdO_g8, rdO_k8, rdO_g9, rdO_k9, rdO_g10, rdO_k10, rdO_g11, rdO_k11, rdO_g12, rdO_k12, rdO_g13, rdO_k13, rdO_g14, rdO_k14, rdO_g15, rdO_k15, rdO_g16, rdO_k16, rdO_g17, rdO_k17, rdO_s2, rdO_s3, rdO_s4, rdO_s10, rdO_s11, rdO_s12, rdO_s13, rdO_s14, rdO_s15, rdO_s16, rdO_s17, rh_1, rh_2, rh_g11, rh_g12, rh_g13, rh_g14, rh_g15, rh_g16, rh_g17, rh_g18, rh_g19, rh_out, rh_u11, rh_u12, rh_u13, rh_u14, rh_u15, rh_u16, rh_u17, rh_u18, rh_u19, iup_s, iup_n, aup_s, aup_n, ne_eq, not_false_eq_true, sh_0, sh_1, sh_2, sh_3, sh_4, sh_5, sh_8, sh_15, sh_16, sh_24, Int.reducePow, Int.cast_ofNat_Int, w_of, wl_of, ltT, ltF, leT, leF, eqT, eqF, okF_0, okF_s, gF_0, gF_s, consC_o, sF_0, sF_s, clsO_o, inA_i, ldA_i, stA_i, inJ_l, ldJ_l, stJ_l, inR_r, ldR_r, stR_r, tgR_r, lenA_i, lenA_l, lenA_r, lenA_ex, nl_i, nl_o, nl_l, nl_n, wd_n, wd_i, wd_l, wd_o, fit_i, fit_l, fit_o, K_v, K_n, true_and, and_true, Nat.reduceAdd, Nat.reduceLeDiff, Nat.reduceEqDiff, Nat.reduceMul, Nat.reduceLT, reduceIte, true_or, or_true, cmp_lt, cmp_gt, cmp_eq, wb_0, b_01, cmp_lt', cmp_gt', cmp_eq', b_0, b_1, wb_1, Int.reduceSub, Int.reduceToNat, List.getD_cons_succ, List.getD_cons_zero, Int.reduceLE, Int.reduceLT, Int.reduceEq, Int.reduceNeg, Int.reduceAdd, Int.reduceMul, and_self, em_b, ne_eq, not_false_eq_true, not_true_eq_false]
      try rfl
    · obtain ⟨r0, r1, r2, r3, r4, r5, r6, r7, r8, r9, r10, r11, r12⟩ := hR
      have c11 : i 11 = 0 := hr.2.2.1
      have j2 := r_is (h := h) (A := A) (kd := 2) (by decide) hr
      have j3 := r_is (h := h) (A := A) (kd := 3) (by decide) hr
      have j4 := r_is (h := h) (A := A) (kd := 4) (by decide) hr
      rw [if_neg (is0 2 (by omega)), show rkK 2 = 2 from rfl] at j2
      rw [if_neg (is0 3 (by omega)), show rkK 3 = 3 from rfl] at j3
      rw [if_neg (is0 4 (by omega)), show rkK 4 = 4 from rfl] at j4
      obtain ⟨i1, a1, a2, a3⟩ := R_ea (h := h) (A := A) (kd := 8) hX hT hnb (by decide) hr
      rw [if_pos is8] at a1
      rw [if_pos is8, show rkK 8 = 8 from rfl] at a3
      obtain ⟨i2, w1, b1, b2, b4, b5⟩ := R_tk (h := h) (A := A) (lo := 0) (hi := (kN c : Int) - 1) hX hT hnb (by omega) (by omega) a1
      have ew1 := b4 _ _ hv
      subst ew1
      have e'' : nuS b n 0 ((kN c : Int) - 1) (-1) (stS b n (.inl q)) = .inl q' := e'
      rw [e''] at b1
      refine ⟨i2, aup A 75 (fset (A 75) 28 (v : Nat)), b1, fun _ => ⟨by rw [aup_s, fs_ne (by omega)]; exact r0, by rw [aup_s, fs_ne (by omega)]; exact r1, by rw [aup_s, fs_ne (by omega)]; exact r2, fun x hx => by rw [aup_s, fs_ne (by omega), fs_ne (by omega)]; exact r3 x hx, fun p hp => by rw [aup_s, fs_ne (by omega), fs_ne (by omega), fs_ne (by omega)]; exact r4 p hp, by rw [aup_s, fs_same]; rfl, by rw [aup_s, fs_ne (by omega)]; exact r6, by rw [aup_s, fs_ne (by omega)]; exact r7, by rw [aup_s, fs_ne (by omega)]; exact r8, by rw [aup_s, fs_ne (by omega)]; exact r9, r10, lwR_fr (by omega) (fun y hy => by rw [aup_s, fs_ne (by omega)]) r11, lwR_fr (by omega) (fun y hy => by rw [aup_s, fs_ne (by omega)]) r12⟩, frI_w (frI_t a2 b2) (by decide), frA_u (by decide), fun d Q hd => ?_⟩
      obtain ⟨d', rfl⟩ : ∃ d', d = d' + 1 := ⟨d - 1, by omega⟩
      simp (disch := omega) only [e_193_0, e_193_1, e_193_4, e_193_7, e_193_8, e_193_9, e_193_10, e_193_13, e_193_23, e_193_24, e_193_25, e_193_28, e_193_38, e_193_39, e_193_40, e_193_43, e_193_53, e_193_54, e_193_56, e_193_59, e_193_62, e_193_63, e_193_66, e_193_68, e_193_69, e_193_70, e_193_71, e_193_74, e_193_75, e_193_76, e_193_77, e_193_78, e_193_81, e_193_82, e_193_148, c11, j2, j3, j4, a3, r2, b5, true_and, mdO_c, mdO_g0, mdO_k0, mdO_g1, mdO_k1, mdO_g2, mdO_k2, mdO_g3, mdO_k3, mdO_g4, mdO_k4, mdO_g5, mdO_k5, mdO_g6, mdO_k6, mdO_g7, mdO_k7, mdO_g8, mdO_k8, mdO_g9, mdO_k9, mdO_g10, mdO_k10, mdO_g11, mdO_k11, mdO_g12, mdO_k12, mdO_g13, mdO_k13, mdO_g14, mdO_k14, mdO_g15, mdO_k15, mdO_g16, mdO_k16, mdO_g17, mdO_k17, mdO_g18, mdO_k18, mdO_g19, mdO_k19, mdO_g20, mdO_k20, mdO_g21, mdO_k21, mdO_g22, mdO_k22, mdO_g23, mdO_k23, mdO_g24, mdO_k24, mdO_g25, mdO_k25, mdO_g26, mdO_k26, mdO_g27, mdO_k27, mdO_g28, mdO_k28, mdO_g29, mdO_k29, mdO_g30, mdO_k30, mdO_g31, mdO_k31, mdO_g32, mdO_k32, mdO_g33, mdO_k33, mdO_g34, mdO_k34, mdO_g35, mdO_k35, mdO_s0, mdO_s5, mdO_s6, mdO_s7, mdO_s8, mdO_s9, mdO_s10, mdO_s11, mdO_s12, mdO_s13, mdO_s14, mdO_s15, mdO_s19, mdO_s20, mdO_s25, mdO_s26, mdO_s31, mdO_s32, md_1, md_2, md_g71, md_g72, md_g73, md_g74, md_g75, md_g76, md_g77, md_g78, md_g79, md_g80, md_g81, md_g82, md_g83, md_g84, md_g85, md_g86, md_g87, md_g88, md_g89, md_out, md_u71, md_u72, md_u73, md_u74, md_u75, md_u76, md_u77, md_u78, md_u79, md_u80, md_u81, md_u82, md_u83, md_u84, md_u85, md_u86, md_u87, md_u88, md_u89, md_uo, iup_s, iup_n, aup_s, aup_n, ne_eq, not_false_eq_true, sh_0, sh_1, sh_2, sh_3, sh_4, sh_5, sh_8, sh_15, sh_16, sh_24, Int.reducePow, Int.cast_ofNat_Int, w_of, wl_of, ltT, ltF, leT, leF, eqT, eqF, okF_0, okF_s, gF_0, gF_s, consC_o, sF_0, sF_s, clsO_o, inA_i, ldA_i, stA_i, inJ_l, ldJ_l, stJ_l, inR_r, ldR_r, stR_r, tgR_r, lenA_i, lenA_l, lenA_r, lenA_ex, nl_i, nl_o, nl_l, nl_n, wd_n, wd_i, wd_l, wd_o, fit_i, fit_l, fit_o, K_v, K_n, true_and, and_true, Nat.reduceAdd, Nat.reduceLeDiff, Nat.reduceEqDiff, Nat.reduceMul, Nat.reduceLT, reduceIte, true_or, or_true, cmp_lt, cmp_gt, cmp_eq, wb_0, b_01, cmp_lt', cmp_gt', cmp_eq', b_0, b_1, wb_1, Int.reduceSub, Int.reduceToNat, List.getD_cons_succ, List.getD_cons_zero, Int.reduceLE, Int.reduceLT, Int.reduceEq, Int.reduceNeg, Int.reduceAdd, Int.reduceMul, and_self, em_b, ne_eq, not_false_eq_true, not_true_eq_false]
      try rfl
  · refine ⟨nuS b n 0 ((kN c : Int) - 1) (-1) (.inl (tkE b n q)), c, C, fun q'' e => absurd ⟨q'', e⟩ hal, fun h i j A hX hT hc hR hcd => ?_, fun h i A hX hT hr hR => ?_⟩
    · obtain ⟨r1, r2, r3, r4, r5, r6, r7, r8, r9⟩ := hR
      obtain ⟨i1, a1, a2, a3⟩ := C_st1 (h := h) (j := j) hX hT hnb hc
      obtain ⟨i2, w1, b1, b2, b3, b4, b5⟩ := C_nu (h := h) (j := j) (A := A) (s := .inl (tkE b n q)) (lo := 0) (hi := (kN c : Int) - 1) (oth := -1) hX hT hnb (by omega) (by omega) (by omega) a1
      refine ⟨i2, iup j 10 w1, A, b1, fun z => absurd (alC_R z) hal, cd_t (cd_fr hcd (iup_n (by omega)) rfl) (fun _ => trivial), frI_t a2 b2, frA_r, fun d Q hd => ?_⟩
      obtain ⟨d', rfl⟩ : ∃ d', d = d' + 1 := ⟨d - 1, by omega⟩
      simp (disch := omega) only [e_64_171, e_64_172, e_64_175, e_64_178, e_64_179, e_64_180, e_64_181, e_64_182, e_64_185, e_64_186, e_64_187, e_64_188, e_64_191, e_64_194, e_64_235, r2, a3, b5, true_and, tkO_c, tkO_g0, tkO_k0, tkO_g1, tkO_k1, tkO_g2, tkO_k2, tkO_g3, tkO_k3, tkO_g4, tkO_k4, tkO_g5, tkO_k5, tkO_g6, tkO_k6, tkO_g7, tkO_k7, tkO_g8, tkO_k8, tkO_s1, tkO_s2, tkO_s3, tkO_s4, tkO_s5, tkO_s6, tkO_s7, tkO_s8, rdO_c, rdO_g0, rdO_k0, rdO_g1, rdO_k1, rdO_g2, rdO_k2, rdO_g3, rdO_k3, rdO_g4, rdO_k4, rdO_g5, rdO_k5, rdO_g6, rdO_k6, rdO_g7, rdO_k7, rdO_g8, rdO_k8, rdO_g9, rdO_k9, rdO_g10, rdO_k10, rdO_g11, rdO_k11, rdO_g12, rdO_k12, rdO_g13, rdO_k13, rdO_g14, rdO_k14, rdO_g15, rdO_k15, rdO_g16, rdO_k16, rdO_g17, rdO_k17, rdO_s2, rdO_s3, rdO_s4, rdO_s10, rdO_s11, rdO_s12, rdO_s13, rdO_s14, rdO_s15, rdO_s16, rdO_s17, rh_1, rh_2, rh_g11, rh_g12, rh_g13, rh_g14, rh_g15, rh_g16, rh_g17, rh_g18, rh_g19, rh_out, rh_u11, rh_u12, rh_u13, rh_u14, rh_u15, rh_u16, rh_u17, rh_u18, rh_u19, iup_s, iup_n, aup_s, aup_n, ne_eq, not_false_eq_true, sh_0, sh_1, sh_2, sh_3, sh_4, sh_5, sh_8, sh_15, sh_16, sh_24, Int.reducePow, Int.cast_ofNat_Int, w_of, wl_of, ltT, ltF, leT, leF, eqT, eqF, okF_0, okF_s, gF_0, gF_s, consC_o, sF_0, sF_s, clsO_o, inA_i, ldA_i, stA_i, inJ_l, ldJ_l, stJ_l, inR_r, ldR_r, stR_r, tgR_r, lenA_i, lenA_l, lenA_r, lenA_ex, nl_i, nl_o, nl_l, nl_n, wd_n, wd_i, wd_l, wd_o, fit_i, fit_l, fit_o, K_v, K_n, true_and, and_true, Nat.reduceAdd, Nat.reduceLeDiff, Nat.reduceEqDiff, Nat.reduceMul, Nat.reduceLT, reduceIte, true_or, or_true, cmp_lt, cmp_gt, cmp_eq, wb_0, b_01, cmp_lt', cmp_gt', cmp_eq', b_0, b_1, wb_1, Int.reduceSub, Int.reduceToNat, List.getD_cons_succ, List.getD_cons_zero, Int.reduceLE, Int.reduceLT, Int.reduceEq, Int.reduceNeg, Int.reduceAdd, Int.reduceMul, and_self, em_b, ne_eq, not_false_eq_true, not_true_eq_false]
      try rfl
    · obtain ⟨r0, r1, r2, r3, r4, r5, r6, r7, r8, r9, r10, r11, r12⟩ := hR
      have c11 : i 11 = 0 := hr.2.2.1
      have j2 := r_is (h := h) (A := A) (kd := 2) (by decide) hr
      have j3 := r_is (h := h) (A := A) (kd := 3) (by decide) hr
      have j4 := r_is (h := h) (A := A) (kd := 4) (by decide) hr
      rw [if_neg (is0 2 (by omega)), show rkK 2 = 2 from rfl] at j2
      rw [if_neg (is0 3 (by omega)), show rkK 3 = 3 from rfl] at j3
      rw [if_neg (is0 4 (by omega)), show rkK 4 = 4 from rfl] at j4
      obtain ⟨i1, a1, a2, a3⟩ := R_ea (h := h) (A := A) (kd := 8) hX hT hnb (by decide) hr
      rw [if_pos is8] at a1
      rw [if_pos is8, show rkK 8 = 8 from rfl] at a3
      obtain ⟨i2, w1, b1, b2, b4, b5⟩ := R_tk (h := h) (A := A) (lo := 0) (hi := (kN c : Int) - 1) hX hT hnb (by omega) (by omega) a1
      refine ⟨i2, aup A 75 (fset (A 75) 28 w1), b1, fun z => absurd z hal, frI_w (frI_t a2 b2) (by decide), frA_u (by decide), fun d Q hd => ?_⟩
      obtain ⟨d', rfl⟩ : ∃ d', d = d' + 1 := ⟨d - 1, by omega⟩
      simp (disch := omega) only [e_193_0, e_193_1, e_193_4, e_193_7, e_193_8, e_193_9, e_193_10, e_193_13, e_193_23, e_193_24, e_193_25, e_193_28, e_193_38, e_193_39, e_193_40, e_193_43, e_193_53, e_193_54, e_193_56, e_193_59, e_193_62, e_193_63, e_193_66, e_193_68, e_193_69, e_193_70, e_193_71, e_193_74, e_193_75, e_193_76, e_193_77, e_193_78, e_193_81, e_193_82, e_193_148, c11, j2, j3, j4, a3, r2, b5, true_and, mdO_c, mdO_g0, mdO_k0, mdO_g1, mdO_k1, mdO_g2, mdO_k2, mdO_g3, mdO_k3, mdO_g4, mdO_k4, mdO_g5, mdO_k5, mdO_g6, mdO_k6, mdO_g7, mdO_k7, mdO_g8, mdO_k8, mdO_g9, mdO_k9, mdO_g10, mdO_k10, mdO_g11, mdO_k11, mdO_g12, mdO_k12, mdO_g13, mdO_k13, mdO_g14, mdO_k14, mdO_g15, mdO_k15, mdO_g16, mdO_k16, mdO_g17, mdO_k17, mdO_g18, mdO_k18, mdO_g19, mdO_k19, mdO_g20, mdO_k20, mdO_g21, mdO_k21, mdO_g22, mdO_k22, mdO_g23, mdO_k23, mdO_g24, mdO_k24, mdO_g25, mdO_k25, mdO_g26, mdO_k26, mdO_g27, mdO_k27, mdO_g28, mdO_k28, mdO_g29, mdO_k29, mdO_g30, mdO_k30, mdO_g31, mdO_k31, mdO_g32, mdO_k32, mdO_g33, mdO_k33, mdO_g34, mdO_k34, mdO_g35, mdO_k35, mdO_s0, mdO_s5, mdO_s6, mdO_s7, mdO_s8, mdO_s9, mdO_s10, mdO_s11, mdO_s12, mdO_s13, mdO_s14, mdO_s15, mdO_s19, mdO_s20, mdO_s25, mdO_s26, mdO_s31, mdO_s32, md_1, md_2, md_g71, md_g72, md_g73, md_g74, md_g75, md_g76, md_g77, md_g78, md_g79, md_g80, md_g81, md_g82, md_g83, md_g84, md_g85, md_g86, md_g87, md_g88, md_g89, md_out, md_u71, md_u72, md_u73, md_u74, md_u75, md_u76, md_u77, md_u78, md_u79, md_u80, md_u81, md_u82, md_u83, md_u84, md_u85, md_u86, md_u87, md_u88, md_u89, md_uo, iup_s, iup_n, aup_s, aup_n, ne_eq, not_false_eq_true, sh_0, sh_1, sh_2, sh_3, sh_4, sh_5, sh_8, sh_15, sh_16, sh_24, Int.reducePow, Int.cast_ofNat_Int, w_of, wl_of, ltT, ltF, leT, leF, eqT, eqF, okF_0, okF_s, gF_0, gF_s, consC_o, sF_0, sF_s, clsO_o, inA_i, ldA_i, stA_i, inJ_l, ldJ_l, stJ_l, inR_r, ldR_r, stR_r, tgR_r, lenA_i, lenA_l, lenA_r, lenA_ex, nl_i, nl_o, nl_l, nl_n, wd_n, wd_i, wd_l, wd_o, fit_i, fit_l, fit_o, K_v, K_n, true_and, and_true, Nat.reduceAdd, Nat.reduceLeDiff, Nat.reduceEqDiff, Nat.reduceMul, Nat.reduceLT, reduceIte, true_or, or_true, cmp_lt, cmp_gt, cmp_eq, wb_0, b_01, cmp_lt', cmp_gt', cmp_eq', b_0, b_1, wb_1, Int.reduceSub, Int.reduceToNat, List.getD_cons_succ, List.getD_cons_zero, Int.reduceLE, Int.reduceLT, Int.reduceEq, Int.reduceNeg, Int.reduceAdd, Int.reduceMul, and_self, em_b, ne_eq, not_false_eq_true, not_true_eq_false]
      try rfl
theorem LN_weather (hnb : n ≤ b.length) (hqn : q ≤ n) (hk : tkK b n q = 9) (hD : okD c) (hC : C.length ≤ q) : ∃ s' c' C', LNp n q c s' c' C' ∧ LNc b n 9 64 197 [some (vi 9), none, none, none] q c C s' c' C' ∧ LNf b n 9 193 0 [] q c C s' c' C' := by
  have hlt := tkE_lt hqn (show tkK b n q ≠ 32 by omega)
  have hle := (tkE_le (b := b) hqn).2
  have h33 : tkK b n q ≠ 33 := by omega
  have ok1 : okq n (.inl (tkE b n q)) := fun z e => by cases e; exact hle
  have is0 : ∀ kd, kd ≠ 9 → ¬ isB b n (.inl q) kd = true := fun kd hz w => hz (by have := of_decide_eq_true w; omega)
  have is9 : isB b n (.inl q) 9 = true := decide_eq_true hk
  by_cases hal : alR (nuS b n 0 9 (-1) (.inl (tkE b n q)))
  · obtain ⟨q', e'⟩ := hal
    obtain ⟨vz, hv⟩ := nu_al e'
    obtain ⟨q2', e3, v0, v1, v2, v3, v4, v5⟩ := nu_O ok1 hv
    cases e3
    obtain ⟨v, rfl⟩ : ∃ v : Nat, vz = (v : Int) := ⟨vz.toNat, by omega⟩
    refine ⟨.inl q', kY c v, C, fun q'' e => ?_, fun h i j A hX hT hc hR hcd => ?_, fun h i A hX hT hr hR => ?_⟩
    · cases e
      obtain ⟨d1, d2, d3, d4, d5, d6, d7, d8, d9, d10⟩ := hD
      exact ⟨by omega, v5, ⟨d1, d2, d3, d4, by show v ≤ 9; omega, d6, d7, d8, d9, d10⟩, by omega, rfl⟩
    · obtain ⟨r1, r2, r3, r4, r5, r6, r7, r8, r9⟩ := hR
      obtain ⟨i1, a1, a2, a3⟩ := C_st1 (h := h) (j := j) hX hT hnb hc
      obtain ⟨i2, w1, b1, b2, b3, b4, b5⟩ := C_nu (h := h) (j := j) (A := A) (s := .inl (tkE b n q)) (lo := 0) (hi := 9) (oth := -1) hX hT hnb (by omega) (by omega) (by omega) a1
      have ew1 := b4 _ _ hv
      subst ew1
      rw [e'] at b1
      refine ⟨i2, iup j 11 (v : Nat), A, b1, fun _ => ⟨by rw [iup_n (by omega)]; exact r1, by rw [iup_n (by omega)]; exact r2, by rw [iup_n (by omega)]; exact r3, iup_s, by rw [iup_n (by omega)]; exact r5, r6, r7, by rw [iup_n (by omega), iup_n (by omega)]; exact r8, by rw [iup_n (by omega), iup_n (by omega)]; exact r9⟩, cd_t (cd_fr hcd (iup_n (by omega)) rfl) (fun _ => trivial), frI_t a2 b2, frA_r, fun d Q hd => ?_⟩
      obtain ⟨d', rfl⟩ : ∃ d', d = d' + 1 := ⟨d - 1, by omega⟩
      simp (disch := omega) only [e_64_197, e_64_198, e_64_201, e_64_204, e_64_205, e_64_206, e_64_207, e_64_209, e_64_210, e_64_213, e_64_216, e_64_235, a3, b5, true_and, tkO_c, tkO_g0, tkO_k0, tkO_g1, tkO_k1, tkO_g2, tkO_k2, tkO_g3, tkO_k3, tkO_g4, tkO_k4, tkO_g5, tkO_k5, tkO_g6, tkO_k6, tkO_g7, tkO_k7, tkO_g8, tkO_k8, tkO_s1, tkO_s2, tkO_s3, tkO_s4, tkO_s5, tkO_s6, tkO_s7, tkO_s8, rdO_c, rdO_g0, rdO_k0, rdO_g1, rdO_k1, rdO_g2, rdO_k2, rdO_g3, rdO_k3, rdO_g4, rdO_k4, rdO_g5, rdO_k5, rdO_g6, rdO_k6, rdO_g7, rdO_k7, rdO_g8, rdO_k8, rdO_g9, rdO_k9, rdO_g10, rdO_k10, rdO_g11, rdO_k11, rdO_g12, rdO_k12, rdO_g13, rdO_k13, rdO_g14, rdO_k14, rdO_g15, rdO_k15, rdO_g16, rdO_k16, rdO_g17, rdO_k17, rdO_s2, rdO_s3, rdO_s4, rdO_s10, rdO_s11, rdO_s12, rdO_s13, rdO_s14, rdO_s15, rdO_s16, rdO_s17, rh_1, rh_2, rh_g11, rh_g12, rh_g13, rh_g14, rh_g15, rh_g16, rh_g17, rh_g18, rh_g19, rh_out, rh_u11, rh_u12, rh_u13, rh_u14, rh_u15, rh_u16, rh_u17, rh_u18, rh_u19, iup_s, iup_n, aup_s, aup_n, ne_eq, not_false_eq_true, sh_0, sh_1, sh_2, sh_3, sh_4, sh_5, sh_8, sh_15, sh_16, sh_24, Int.reducePow, Int.cast_ofNat_Int, w_of, wl_of, ltT, ltF, leT, leF, eqT, eqF, okF_0, okF_s, gF_0, gF_s, consC_o, sF_0, sF_s, clsO_o, inA_i, ldA_i, stA_i, inJ_l, ldJ_l, stJ_l, inR_r, ldR_r, stR_r, tgR_r, lenA_i, lenA_l, lenA_r, lenA_ex, nl_i, nl_o, nl_l, nl_n, wd_n, wd_i, wd_l, wd_o, fit_i, fit_l, fit_o, K_v, K_n, true_and, and_true, Nat.reduceAdd, Nat.reduceLeDiff, Nat.reduceEqDiff, Nat.reduceMul, Nat.reduceLT, reduceIte, true_or, or_true, cmp_lt, cmp_gt, cmp_eq, wb_0, b_01, cmp_lt', cmp_gt', cmp_eq', b_0, b_1, wb_1, Int.reduceSub, Int.reduceToNat, List.getD_cons_succ, List.getD_cons_zero, Int.reduceLE, Int.reduceLT, Int.reduceEq, Int.reduceNeg, Int.reduceAdd, Int.reduceMul, and_self, em_b, ne_eq, not_false_eq_true, not_true_eq_false]
      try rfl
    · obtain ⟨r0, r1, r2, r3, r4, r5, r6, r7, r8, r9, r10, r11, r12⟩ := hR
      have c11 : i 11 = 0 := hr.2.2.1
      have j2 := r_is (h := h) (A := A) (kd := 2) (by decide) hr
      have j3 := r_is (h := h) (A := A) (kd := 3) (by decide) hr
      have j4 := r_is (h := h) (A := A) (kd := 4) (by decide) hr
      have j8 := r_is (h := h) (A := A) (kd := 8) (by decide) hr
      rw [if_neg (is0 2 (by omega)), show rkK 2 = 2 from rfl] at j2
      rw [if_neg (is0 3 (by omega)), show rkK 3 = 3 from rfl] at j3
      rw [if_neg (is0 4 (by omega)), show rkK 4 = 4 from rfl] at j4
      rw [if_neg (is0 8 (by omega)), show rkK 8 = 8 from rfl] at j8
      obtain ⟨i1, a1, a2, a3⟩ := R_ea (h := h) (A := A) (kd := 9) hX hT hnb (by decide) hr
      rw [if_pos is9] at a1
      rw [if_pos is9, show rkK 9 = 9 from rfl] at a3
      obtain ⟨i2, w1, b1, b2, b4, b5⟩ := R_tk (h := h) (A := A) (lo := 0) (hi := 9) hX hT hnb (by omega) (by omega) a1
      have ew1 := b4 _ _ hv
      subst ew1
      have e'' : nuS b n 0 9 (-1) (stS b n (.inl q)) = .inl q' := e'
      rw [e''] at b1
      refine ⟨i2, aup A 75 (fset (A 75) 29 (v : Nat)), b1, fun _ => ⟨by rw [aup_s, fs_ne (by omega)]; exact r0, by rw [aup_s, fs_ne (by omega)]; exact r1, by rw [aup_s, fs_ne (by omega)]; exact r2, fun x hx => by rw [aup_s, fs_ne (by omega), fs_ne (by omega)]; exact r3 x hx, fun p hp => by rw [aup_s, fs_ne (by omega), fs_ne (by omega), fs_ne (by omega)]; exact r4 p hp, by rw [aup_s, fs_ne (by omega)]; exact r5, by rw [aup_s, fs_same]; rfl, by rw [aup_s, fs_ne (by omega)]; exact r7, by rw [aup_s, fs_ne (by omega)]; exact r8, by rw [aup_s, fs_ne (by omega)]; exact r9, r10, lwR_fr (by omega) (fun y hy => by rw [aup_s, fs_ne (by omega)]) r11, lwR_fr (by omega) (fun y hy => by rw [aup_s, fs_ne (by omega)]) r12⟩, frI_w (frI_t a2 b2) (by decide), frA_u (by decide), fun d Q hd => ?_⟩
      obtain ⟨d', rfl⟩ : ∃ d', d = d' + 2 := ⟨d - 2, by omega⟩
      simp (disch := omega) only [e_193_0, e_193_1, e_193_4, e_193_7, e_193_8, e_193_9, e_193_10, e_193_13, e_193_23, e_193_24, e_193_25, e_193_28, e_193_38, e_193_39, e_193_40, e_193_43, e_193_53, e_193_54, e_193_56, e_193_59, e_193_85, e_193_86, e_193_88, e_193_91, e_193_94, e_193_95, e_193_98, e_193_100, e_193_101, e_193_102, e_193_104, e_193_107, e_193_108, e_193_148, e_175_0, e_175_1, e_175_2, e_175_5, e_175_8, e_175_9, c11, j2, j3, j4, j8, a3, b5, true_and, mdO_c, mdO_g0, mdO_k0, mdO_g1, mdO_k1, mdO_g2, mdO_k2, mdO_g3, mdO_k3, mdO_g4, mdO_k4, mdO_g5, mdO_k5, mdO_g6, mdO_k6, mdO_g7, mdO_k7, mdO_g8, mdO_k8, mdO_g9, mdO_k9, mdO_g10, mdO_k10, mdO_g11, mdO_k11, mdO_g12, mdO_k12, mdO_g13, mdO_k13, mdO_g14, mdO_k14, mdO_g15, mdO_k15, mdO_g16, mdO_k16, mdO_g17, mdO_k17, mdO_g18, mdO_k18, mdO_g19, mdO_k19, mdO_g20, mdO_k20, mdO_g21, mdO_k21, mdO_g22, mdO_k22, mdO_g23, mdO_k23, mdO_g24, mdO_k24, mdO_g25, mdO_k25, mdO_g26, mdO_k26, mdO_g27, mdO_k27, mdO_g28, mdO_k28, mdO_g29, mdO_k29, mdO_g30, mdO_k30, mdO_g31, mdO_k31, mdO_g32, mdO_k32, mdO_g33, mdO_k33, mdO_g34, mdO_k34, mdO_g35, mdO_k35, mdO_s0, mdO_s5, mdO_s6, mdO_s7, mdO_s8, mdO_s9, mdO_s10, mdO_s11, mdO_s12, mdO_s13, mdO_s14, mdO_s15, mdO_s19, mdO_s20, mdO_s25, mdO_s26, mdO_s31, mdO_s32, md_1, md_2, md_g71, md_g72, md_g73, md_g74, md_g75, md_g76, md_g77, md_g78, md_g79, md_g80, md_g81, md_g82, md_g83, md_g84, md_g85, md_g86, md_g87, md_g88, md_g89, md_out, md_u71, md_u72, md_u73, md_u74, md_u75, md_u76, md_u77, md_u78, md_u79, md_u80, md_u81, md_u82, md_u83, md_u84, md_u85, md_u86, md_u87, md_u88, md_u89, md_uo, iup_s, iup_n, aup_s, aup_n, ne_eq, not_false_eq_true, sh_0, sh_1, sh_2, sh_3, sh_4, sh_5, sh_8, sh_15, sh_16, sh_24, Int.reducePow, Int.cast_ofNat_Int, w_of, wl_of, ltT, ltF, leT, leF, eqT, eqF, okF_0, okF_s, gF_0, gF_s, consC_o, sF_0, sF_s, clsO_o, inA_i, ldA_i, stA_i, inJ_l, ldJ_l, stJ_l, inR_r, ldR_r, stR_r, tgR_r, lenA_i, lenA_l, lenA_r, lenA_ex, nl_i, nl_o, nl_l, nl_n, wd_n, wd_i, wd_l, wd_o, fit_i, fit_l, fit_o, K_v, K_n, true_and, and_true, Nat.reduceAdd, Nat.reduceLeDiff, Nat.reduceEqDiff, Nat.reduceMul, Nat.reduceLT, reduceIte, true_or, or_true, cmp_lt, cmp_gt, cmp_eq, wb_0, b_01, cmp_lt', cmp_gt', cmp_eq', b_0, b_1, wb_1, Int.reduceSub, Int.reduceToNat, List.getD_cons_succ, List.getD_cons_zero, Int.reduceLE, Int.reduceLT, Int.reduceEq, Int.reduceNeg, Int.reduceAdd, Int.reduceMul, and_self, em_b, ne_eq, not_false_eq_true, not_true_eq_false]
      try rfl
  · refine ⟨nuS b n 0 9 (-1) (.inl (tkE b n q)), c, C, fun q'' e => absurd ⟨q'', e⟩ hal, fun h i j A hX hT hc hR hcd => ?_, fun h i A hX hT hr hR => ?_⟩
    · obtain ⟨i1, a1, a2, a3⟩ := C_st1 (h := h) (j := j) hX hT hnb hc
      obtain ⟨i2, w1, b1, b2, b3, b4, b5⟩ := C_nu (h := h) (j := j) (A := A) (s := .inl (tkE b n q)) (lo := 0) (hi := 9) (oth := -1) hX hT hnb (by omega) (by omega) (by omega) a1
      refine ⟨i2, iup j 11 w1, A, b1, fun z => absurd (alC_R z) hal, cd_t (cd_fr hcd (iup_n (by omega)) rfl) (fun _ => trivial), frI_t a2 b2, frA_r, fun d Q hd => ?_⟩
      obtain ⟨d', rfl⟩ : ∃ d', d = d' + 1 := ⟨d - 1, by omega⟩
      simp (disch := omega) only [e_64_197, e_64_198, e_64_201, e_64_204, e_64_205, e_64_206, e_64_207, e_64_209, e_64_210, e_64_213, e_64_216, e_64_235, a3, b5, true_and, tkO_c, tkO_g0, tkO_k0, tkO_g1, tkO_k1, tkO_g2, tkO_k2, tkO_g3, tkO_k3, tkO_g4, tkO_k4, tkO_g5, tkO_k5, tkO_g6, tkO_k6, tkO_g7, tkO_k7, tkO_g8, tkO_k8, tkO_s1, tkO_s2, tkO_s3, tkO_s4, tkO_s5, tkO_s6, tkO_s7, tkO_s8, rdO_c, rdO_g0, rdO_k0, rdO_g1, rdO_k1, rdO_g2, rdO_k2, rdO_g3, rdO_k3, rdO_g4, rdO_k4, rdO_g5, rdO_k5, rdO_g6, rdO_k6, rdO_g7, rdO_k7, rdO_g8, rdO_k8, rdO_g9, rdO_k9, rdO_g10, rdO_k10, rdO_g11, rdO_k11, rdO_g12, rdO_k12, rdO_g13, rdO_k13, rdO_g14, rdO_k14, rdO_g15, rdO_k15, rdO_g16, rdO_k16, rdO_g17, rdO_k17, rdO_s2, rdO_s3, rdO_s4, rdO_s10, rdO_s11, rdO_s12, rdO_s13, rdO_s14, rdO_s15, rdO_s16, rdO_s17, rh_1, rh_2, rh_g11, rh_g12, rh_g13, rh_g14, rh_g15, rh_g16, rh_g17, rh_g18, rh_g19, rh_out, rh_u11, rh_u12, rh_u13, rh_u14, rh_u15, rh_u16, rh_u17, rh_u18, rh_u19, iup_s, iup_n, aup_s, aup_n, ne_eq, not_false_eq_true, sh_0, sh_1, sh_2, sh_3, sh_4, sh_5, sh_8, sh_15, sh_16, sh_24, Int.reducePow, Int.cast_ofNat_Int, w_of, wl_of, ltT, ltF, leT, leF, eqT, eqF, okF_0, okF_s, gF_0, gF_s, consC_o, sF_0, sF_s, clsO_o, inA_i, ldA_i, stA_i, inJ_l, ldJ_l, stJ_l, inR_r, ldR_r, stR_r, tgR_r, lenA_i, lenA_l, lenA_r, lenA_ex, nl_i, nl_o, nl_l, nl_n, wd_n, wd_i, wd_l, wd_o, fit_i, fit_l, fit_o, K_v, K_n, true_and, and_true, Nat.reduceAdd, Nat.reduceLeDiff, Nat.reduceEqDiff, Nat.reduceMul, Nat.reduceLT, reduceIte, true_or, or_true, cmp_lt, cmp_gt, cmp_eq, wb_0, b_01, cmp_lt', cmp_gt', cmp_eq', b_0, b_1, wb_1, Int.reduceSub, Int.reduceToNat, List.getD_cons_succ, List.getD_cons_zero, Int.reduceLE, Int.reduceLT, Int.reduceEq, Int.reduceNeg, Int.reduceAdd, Int.reduceMul, and_self, em_b, ne_eq, not_false_eq_true, not_true_eq_false]
      try rfl
    · have c11 : i 11 = 0 := hr.2.2.1
      have j2 := r_is (h := h) (A := A) (kd := 2) (by decide) hr
      have j3 := r_is (h := h) (A := A) (kd := 3) (by decide) hr
      have j4 := r_is (h := h) (A := A) (kd := 4) (by decide) hr
      have j8 := r_is (h := h) (A := A) (kd := 8) (by decide) hr
      rw [if_neg (is0 2 (by omega)), show rkK 2 = 2 from rfl] at j2
      rw [if_neg (is0 3 (by omega)), show rkK 3 = 3 from rfl] at j3
      rw [if_neg (is0 4 (by omega)), show rkK 4 = 4 from rfl] at j4
      rw [if_neg (is0 8 (by omega)), show rkK 8 = 8 from rfl] at j8
      obtain ⟨i1, a1, a2, a3⟩ := R_ea (h := h) (A := A) (kd := 9) hX hT hnb (by decide) hr
      rw [if_pos is9] at a1
      rw [if_pos is9, show rkK 9 = 9 from rfl] at a3
      obtain ⟨i2, w1, b1, b2, b4, b5⟩ := R_tk (h := h) (A := A) (lo := 0) (hi := 9) hX hT hnb (by omega) (by omega) a1
      refine ⟨i2, aup A 75 (fset (A 75) 29 w1), b1, fun z => absurd z hal, frI_w (frI_t a2 b2) (by decide), frA_u (by decide), fun d Q hd => ?_⟩
      obtain ⟨d', rfl⟩ : ∃ d', d = d' + 2 := ⟨d - 2, by omega⟩
      simp (disch := omega) only [e_193_0, e_193_1, e_193_4, e_193_7, e_193_8, e_193_9, e_193_10, e_193_13, e_193_23, e_193_24, e_193_25, e_193_28, e_193_38, e_193_39, e_193_40, e_193_43, e_193_53, e_193_54, e_193_56, e_193_59, e_193_85, e_193_86, e_193_88, e_193_91, e_193_94, e_193_95, e_193_98, e_193_100, e_193_101, e_193_102, e_193_104, e_193_107, e_193_108, e_193_148, e_175_0, e_175_1, e_175_2, e_175_5, e_175_8, e_175_9, c11, j2, j3, j4, j8, a3, b5, true_and, mdO_c, mdO_g0, mdO_k0, mdO_g1, mdO_k1, mdO_g2, mdO_k2, mdO_g3, mdO_k3, mdO_g4, mdO_k4, mdO_g5, mdO_k5, mdO_g6, mdO_k6, mdO_g7, mdO_k7, mdO_g8, mdO_k8, mdO_g9, mdO_k9, mdO_g10, mdO_k10, mdO_g11, mdO_k11, mdO_g12, mdO_k12, mdO_g13, mdO_k13, mdO_g14, mdO_k14, mdO_g15, mdO_k15, mdO_g16, mdO_k16, mdO_g17, mdO_k17, mdO_g18, mdO_k18, mdO_g19, mdO_k19, mdO_g20, mdO_k20, mdO_g21, mdO_k21, mdO_g22, mdO_k22, mdO_g23, mdO_k23, mdO_g24, mdO_k24, mdO_g25, mdO_k25, mdO_g26, mdO_k26, mdO_g27, mdO_k27, mdO_g28, mdO_k28, mdO_g29, mdO_k29, mdO_g30, mdO_k30, mdO_g31, mdO_k31, mdO_g32, mdO_k32, mdO_g33, mdO_k33, mdO_g34, mdO_k34, mdO_g35, mdO_k35, mdO_s0, mdO_s5, mdO_s6, mdO_s7, mdO_s8, mdO_s9, mdO_s10, mdO_s11, mdO_s12, mdO_s13, mdO_s14, mdO_s15, mdO_s19, mdO_s20, mdO_s25, mdO_s26, mdO_s31, mdO_s32, md_1, md_2, md_g71, md_g72, md_g73, md_g74, md_g75, md_g76, md_g77, md_g78, md_g79, md_g80, md_g81, md_g82, md_g83, md_g84, md_g85, md_g86, md_g87, md_g88, md_g89, md_out, md_u71, md_u72, md_u73, md_u74, md_u75, md_u76, md_u77, md_u78, md_u79, md_u80, md_u81, md_u82, md_u83, md_u84, md_u85, md_u86, md_u87, md_u88, md_u89, md_uo, iup_s, iup_n, aup_s, aup_n, ne_eq, not_false_eq_true, sh_0, sh_1, sh_2, sh_3, sh_4, sh_5, sh_8, sh_15, sh_16, sh_24, Int.reducePow, Int.cast_ofNat_Int, w_of, wl_of, ltT, ltF, leT, leF, eqT, eqF, okF_0, okF_s, gF_0, gF_s, consC_o, sF_0, sF_s, clsO_o, inA_i, ldA_i, stA_i, inJ_l, ldJ_l, stJ_l, inR_r, ldR_r, stR_r, tgR_r, lenA_i, lenA_l, lenA_r, lenA_ex, nl_i, nl_o, nl_l, nl_n, wd_n, wd_i, wd_l, wd_o, fit_i, fit_l, fit_o, K_v, K_n, true_and, and_true, Nat.reduceAdd, Nat.reduceLeDiff, Nat.reduceEqDiff, Nat.reduceMul, Nat.reduceLT, reduceIte, true_or, or_true, cmp_lt, cmp_gt, cmp_eq, wb_0, b_01, cmp_lt', cmp_gt', cmp_eq', b_0, b_1, wb_1, Int.reduceSub, Int.reduceToNat, List.getD_cons_succ, List.getD_cons_zero, Int.reduceLE, Int.reduceLT, Int.reduceEq, Int.reduceNeg, Int.reduceAdd, Int.reduceMul, and_self, em_b, ne_eq, not_false_eq_true, not_true_eq_false]
      try rfl
theorem lwC_app {C L : List Int} {fr tt : Int} {x : Option (List Int)} (h : lwC C fr tt x) : lwC (C ++ L) fr tt x := by
  cases x with
  | none => exact h
  | some o =>
    obtain ⟨f, h1, h2, h3, h4⟩ := h
    refine ⟨f, h1, h2, by rw [List.length_append]; omega, fun k hk => ?_⟩
    rw [← h4 k hk, List.getD_eq_getElem?_getD, List.getD_eq_getElem?_getD, List.getElem?_append_left (by omega)]
theorem lwC_new {C L : List Int} : lwC (C ++ L) (C.length : Int) ((C ++ L).length : Int) (some L) := ⟨C.length, rfl, by rw [List.length_append], by rw [List.length_append]; exact Nat.le_refl _, fun k hk => by
  rw [List.getD_eq_getElem?_getD, List.getElem?_append_right (by omega), List.getD_eq_getElem?_getD, show C.length + k - C.length = k by omega]⟩
theorem good_wf {k : Nat} {t : Bool} {L : List Int} (h : wfS k t L) (hk : k ≤ 63) : goodL t L := fun fx _ => h fx [] (by show 0 + k ≤ 63; omega)
def kTi (c : KC) (o : List Int) : KC := (kP c, kN c, kLines c, kSky c, kHgt c, kWay c, kAge c, some o, kMay c, kFst c)
def kMa (c : KC) (o : List Int) : KC := (kP c, kN c, kLines c, kSky c, kHgt c, kWay c, kAge c, kTir c, some o, kFst c)
end ln
