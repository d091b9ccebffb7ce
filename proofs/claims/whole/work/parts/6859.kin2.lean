/-! READING A COUNTY: kin lines -/
section ln
variable {b : List Int} {n q : Nat} {c : KC} {C : List Int}
def kKi (c : KC) (k a t : Nat) : KC := (kP c, kN c + 1, kLines c, kSky c, kHgt c, kWay c, fup (kAge c) (kN c) a, kTir c, kMay c, ((kFst c).1, fup (kFst c).2.1 (kN c) k, fup (kFst c).2.2 (kN c) t))
theorem kKi_ok {k a t : Nat} (hD : okD c) (hN : kN c < 3) (hk : k < kP c) (ha : a ≤ 9) (ht : t ≤ 3) : okD (kKi c k a t) := by
  obtain ⟨⟨d1, d1', d1''⟩, d2, d3, d4, d5, ⟨s1, s2, s3, s4⟩, d7, d8, d9, d10, d11⟩ := hD
  refine ⟨⟨d1, d1', by show kN c + 1 ≤ 3; omega⟩, d2, fun x => ?_, d4, d5, ⟨fun x hx => ?_, fun x hx => ?_, fun z => by have : kN c + 1 = 0 := z; omega, fun _ => ?_⟩, d7, d8, d9, d10, fun x hx => ?_⟩
  · show fup (kAge c) (kN c) a x ≤ 9
    unfold fup
    split
    · exact ha
    · exact d3 x
  · have hx' : x < kN c + 1 := hx
    show fup (kFst c).2.1 (kN c) k x < kP c ∧ fup (kFst c).2.2 (kN c) t x < 4
    unfold fup
    by_cases z : x = kN c
    · rw [if_pos z, if_pos z]; omega
    · rw [if_neg z, if_neg z]; exact s1 x (by omega)
  · have hx' : kN c + 1 ≤ x := hx
    show fup (kFst c).2.1 (kN c) k x = 0 ∧ fup (kFst c).2.2 (kN c) t x = 0
    unfold fup
    rw [if_neg (by omega), if_neg (by omega)]
    exact s2 x (by omega)
  · show (kFst c).1 < kN c + 1
    rcases Nat.eq_zero_or_pos (kN c) with z | z
    · have := s3 z; omega
    · have := s4 z; omega
  · have hx' : kN c + 1 ≤ x := hx
    show fup (kAge c) (kN c) a x = 0
    unfold fup
    rw [if_neg (by omega)]
    exact d11 x (by omega)
theorem LN_kin (hnb : n ≤ b.length) (hb9 : b.length ≤ 900) (hqn : q ≤ n) (hk : tkK b n q = 4) (hD : okD c) (hC : C.length ≤ q) : ∃ s' c' C', LNp n q c s' c' C' ∧ LNc b n 9 65 0 [none] q c C s' c' C' ∧ LNf b n 10 191 0 [none] q c C s' c' C' := by
  have hlt := tkE_lt hqn (show tkK b n q ≠ 32 by omega)
  have hle := (tkE_le (b := b) hqn).2
  have h33 : tkK b n q ≠ 33 := by omega
  obtain ⟨hP1, hP5, hN3⟩ := hD.1
  have ok1 : okq n (.inl (tkE b n q)) := fun z e => by cases e; exact hle
  by_cases hN : kN c = 3
  · refine ⟨rfS b n 4 (.inl q), c, C, fun q'' e => absurd ⟨q'', e⟩ rf_no, fun h i j A hX hT hc hR hcd => ?_, fun h i A hX hT hr hR => ?_⟩
    · obtain ⟨r1, r2, -⟩ := hR
      rw [hN, show ((3 : Nat) : Int) = 3 from rfl] at r2
      obtain ⟨i1, a1, a2, a3⟩ := C_rf (h := h) (j := j) (A := A) (s := .inl q) (w := 4) (by omega) (by rw [nrm_ok h33]; exact hc)
      refine ⟨i1, j, A, a1, fun z => absurd (alC_R z) rf_no, cd_t hcd (fun _ => trivial), a2, frA_r, fun d Q hd => ?_⟩
      obtain ⟨d', rfl⟩ : ∃ d', d = d' + 1 := ⟨d - 1, by omega⟩
      simp (disch := omega) only [e_65_0, e_65_1, e_65_4, e_65_5, e_65_8, e_65_9, e_65_12, e_65_13, e_65_16, r2, a3, true_and, tkO_c, tkO_g0, tkO_k0, tkO_g1, tkO_k1, tkO_g2, tkO_k2, tkO_g3, tkO_k3, tkO_g4, tkO_k4, tkO_g5, tkO_k5, tkO_g6, tkO_k6, tkO_g7, tkO_k7, tkO_g8, tkO_k8, tkO_s1, tkO_s2, tkO_s3, tkO_s4, tkO_s5, tkO_s6, tkO_s7, tkO_s8, rdO_c, rdO_g0, rdO_k0, rdO_g1, rdO_k1, rdO_g2, rdO_k2, rdO_g3, rdO_k3, rdO_g4, rdO_k4, rdO_g5, rdO_k5, rdO_g6, rdO_k6, rdO_g7, rdO_k7, rdO_g8, rdO_k8, rdO_g9, rdO_k9, rdO_g10, rdO_k10, rdO_g11, rdO_k11, rdO_g12, rdO_k12, rdO_g13, rdO_k13, rdO_g14, rdO_k14, rdO_g15, rdO_k15, rdO_g16, rdO_k16, rdO_g17, rdO_k17, rdO_s2, rdO_s3, rdO_s4, rdO_s10, rdO_s11, rdO_s12, rdO_s13, rdO_s14, rdO_s15, rdO_s16, rdO_s17, rh_1, rh_2, rh_g11, rh_g12, rh_g13, rh_g14, rh_g15, rh_g16, rh_g17, rh_g18, rh_g19, rh_out, rh_u11, rh_u12, rh_u13, rh_u14, rh_u15, rh_u16, rh_u17, rh_u18, rh_u19, iup_s, iup_n, aup_s, aup_n, ne_eq, not_false_eq_true, sh_0, sh_1, sh_2, sh_3, sh_4, sh_5, sh_8, sh_15, sh_16, sh_24, Int.reducePow, Int.cast_ofNat_Int, w_of, wl_of, ltT, ltF, leT, leF, eqT, eqF, okF_0, okF_s, gF_0, gF_s, consC_o, sF_0, sF_s, clsO_o, inA_i, ldA_i, stA_i, inJ_l, ldJ_l, stJ_l, inR_r, ldR_r, stR_r, tgR_r, lenA_i, lenA_l, lenA_r, lenA_ex, nl_i, nl_o, nl_l, nl_n, wd_n, wd_i, wd_l, wd_o, fit_i, fit_l, fit_o, K_v, K_n, true_and, and_true, Nat.reduceAdd, Nat.reduceLeDiff, Nat.reduceEqDiff, Nat.reduceMul, Nat.reduceLT, reduceIte, true_or, or_true, cmp_lt, cmp_gt, cmp_eq, wb_0, b_01, cmp_lt', cmp_gt', cmp_eq', b_0, b_1, wb_1, Int.reduceSub, Int.reduceToNat, List.getD_cons_succ, List.getD_cons_zero, Int.reduceLE, Int.reduceLT, Int.reduceEq, Int.reduceNeg, Int.reduceAdd, Int.reduceMul, and_self, em_b, ne_eq, not_false_eq_true, not_true_eq_false]
      try rfl
    · obtain ⟨r0, r1, r2, -⟩ := hR
      rw [hN, show ((3 : Nat) : Int) = 3 from rfl] at r2
      obtain ⟨i1, a1, a2, a10, a3⟩ := R_fl (h := h) (A := A) (w := 4) (by omega) hr
      obtain ⟨c11, c12⟩ := (rf_wr a1).2 rf_no
      refine ⟨i1, A, a1, fun z => absurd z rf_no, frI_w a2 (by decide), frA_r, fun d Q hd => ?_⟩
      obtain ⟨d', rfl⟩ : ∃ d', d = d' + 1 := ⟨d - 1, by omega⟩
      simp (disch := omega) only [e_191_0, e_191_1, e_191_4, e_191_5, e_191_6, e_191_7, e_191_8, e_191_9, e_191_12, e_191_13, e_191_14, e_191_17, e_191_18, e_191_21, e_191_24, r2, a3, true_and, mdO_c, mdO_g0, mdO_k0, mdO_g1, mdO_k1, mdO_g2, mdO_k2, mdO_g3, mdO_k3, mdO_g4, mdO_k4, mdO_g5, mdO_k5, mdO_g6, mdO_k6, mdO_g7, mdO_k7, mdO_g8, mdO_k8, mdO_g9, mdO_k9, mdO_g10, mdO_k10, mdO_g11, mdO_k11, mdO_g12, mdO_k12, mdO_g13, mdO_k13, mdO_g14, mdO_k14, mdO_g15, mdO_k15, mdO_g16, mdO_k16, mdO_g17, mdO_k17, mdO_g18, mdO_k18, mdO_g19, mdO_k19, mdO_g20, mdO_k20, mdO_g21, mdO_k21, mdO_g22, mdO_k22, mdO_g23, mdO_k23, mdO_g24, mdO_k24, mdO_g25, mdO_k25, mdO_g26, mdO_k26, mdO_g27, mdO_k27, mdO_g28, mdO_k28, mdO_g29, mdO_k29, mdO_g30, mdO_k30, mdO_g31, mdO_k31, mdO_g32, mdO_k32, mdO_g33, mdO_k33, mdO_g34, mdO_k34, mdO_g35, mdO_k35, mdO_s0, mdO_s5, mdO_s6, mdO_s7, mdO_s8, mdO_s9, mdO_s10, mdO_s11, mdO_s12, mdO_s13, mdO_s14, mdO_s15, mdO_s19, mdO_s20, mdO_s25, mdO_s26, mdO_s31, mdO_s32, md_1, md_2, md_g71, md_g72, md_g73, md_g74, md_g75, md_g76, md_g77, md_g78, md_g79, md_g80, md_g81, md_g82, md_g83, md_g84, md_g85, md_g86, md_g87, md_g88, md_g89, md_out, md_u71, md_u72, md_u73, md_u74, md_u75, md_u76, md_u77, md_u78, md_u79, md_u80, md_u81, md_u82, md_u83, md_u84, md_u85, md_u86, md_u87, md_u88, md_u89, md_uo, iup_s, iup_n, aup_s, aup_n, ne_eq, not_false_eq_true, sh_0, sh_1, sh_2, sh_3, sh_4, sh_5, sh_8, sh_15, sh_16, sh_24, Int.reducePow, Int.cast_ofNat_Int, w_of, wl_of, ltT, ltF, leT, leF, eqT, eqF, okF_0, okF_s, gF_0, gF_s, consC_o, sF_0, sF_s, clsO_o, inA_i, ldA_i, stA_i, inJ_l, ldJ_l, stJ_l, inR_r, ldR_r, stR_r, tgR_r, lenA_i, lenA_l, lenA_r, lenA_ex, nl_i, nl_o, nl_l, nl_n, wd_n, wd_i, wd_l, wd_o, fit_i, fit_l, fit_o, K_v, K_n, true_and, and_true, Nat.reduceAdd, Nat.reduceLeDiff, Nat.reduceEqDiff, Nat.reduceMul, Nat.reduceLT, reduceIte, true_or, or_true, cmp_lt, cmp_gt, cmp_eq, wb_0, b_01, cmp_lt', cmp_gt', cmp_eq', b_0, b_1, wb_1, Int.reduceSub, Int.reduceToNat, List.getD_cons_succ, List.getD_cons_zero, Int.reduceLE, Int.reduceLT, Int.reduceEq, Int.reduceNeg, Int.reduceAdd, Int.reduceMul, and_self, em_b, ne_eq, not_false_eq_true, not_true_eq_false]
      try rfl
  · have pe := ex_prg (b := b) (kd := 5) (by omega) ok1
    have ok2 := prg_ok pe
    have ok3 := nu_ok (b := b) (lo := 0) (hi := (kP c : Int) - 1) (oth := -1) ok2
    obtain ⟨s4, a', t', p4, ha', ht', cs4, fs4⟩ := lp_flag hnb hb9 (n + 1) (nuS b n 0 ((kP c : Int) - 1) (-1) (exS b n 5 (.inl (tkE b n q)))) 0 3 ok3 (fun z _ => by omega) (by omega) (by omega)
    obtain ⟨kz, hkz, hkv⟩ : ∃ kz : Nat, kz < kP c ∧ ∀ q2 x, nuO b n 0 ((kP c : Int) - 1) (-1) (exS b n 5 (.inl (tkE b n q))) = some (q2, x) → x = (kz : Int) := by
      cases e : nuO b n 0 ((kP c : Int) - 1) (-1) (exS b n 5 (.inl (tkE b n q))) with
      | none => exact ⟨0, by omega, (fun q2 x z => by cases z)⟩
      | some y =>
        obtain ⟨q2, x⟩ := y
        obtain ⟨_, _, _, z1, z2, _⟩ := nu_O ok2 e
        exact ⟨x.toNat, by omega, fun q3 x3 z => by cases z; omega⟩
    have hp3 : ∀ q3, nuS b n 0 ((kP c : Int) - 1) (-1) (exS b n 5 (.inl (tkE b n q))) = .inl q3 → q < q3 ∧ q3 ≤ n := fun q3 e => by
      obtain ⟨x, hx⟩ := nu_al e
      obtain ⟨q2, e1, _, _, _, _, z1, z2⟩ := nu_O ok2 hx
      obtain ⟨q1, e0, z3, _⟩ := pe.1 q2 e1
      have z3' : q1 + 0 ≤ q2 := z3
      cases e0
      exact ⟨by omega, z2⟩
    have al43 : alR s4 → alR (nuS b n 0 ((kP c : Int) - 1) (-1) (exS b n 5 (.inl (tkE b n q)))) := fun ⟨z, e⟩ => by
      obtain ⟨q3, e3, -⟩ := p4.1 z e; exact ⟨q3, e3⟩
    refine ⟨s4, kKi c kz a' t', C, fun q4 e => ?_, fun h i j A hX hT hc hR hcd => ?_, fun h i A hX hT hr hR => ?_⟩
    · obtain ⟨q3, e3, z1, z2⟩ := p4.1 q4 e
      have z1' : q3 + 0 ≤ q4 := z1
      have := hp3 q3 e3
      exact ⟨by omega, z2, kKi_ok hD (by omega) hkz ha' ht', by omega, rfl⟩
    · obtain ⟨r1, r2, r3, r4, r5, r6, r7, r8, r9⟩ := hR
      have hNl : (kN c : Int) < 3 := by omega
      obtain ⟨i1, a1, a2, a3⟩ := C_st1 (h := h) (j := j) hX hT hnb hc
      obtain ⟨i2, b1, b2, b3⟩ := C_ex (h := h) (j := j) (A := A) (s := .inl (tkE b n q)) (kd := 5) hX hT hnb (by omega) (by omega) (by omega) (by omega) a1
      obtain ⟨i3, w1, c1, c2, c3, c4, c5⟩ := C_nu (h := h) (j := j) (A := A) (lo := 0) (hi := (kP c : Int) - 1) (oth := -1) hX hT hnb (by omega) (by omega) (by omega) b1
      obtain ⟨i4, A4, k4, f1, f2, f3, f4, f5, f6⟩ := cs4 0 (by omega) (fun z _ => Nat.zero_le _) h i3 j (aup (aup (aup A 17 (fset (A 17) (kN c : Nat) w1)) 18 (fset (A 18) (kN c : Nat) 0)) 19 (fset (A 19) (kN c : Nat) 3)) (kN c) hX ⟨hT.1, fun y z hz => by rw [aup_n (by omega), aup_n (by omega), aup_n (by omega)]; exact hT.2 y z hz⟩ c1 (by omega) r2 (fun _ => ⟨by rw [aup_n (by omega), aup_s, fs_same]; rfl, by rw [aup_s, fs_same]; rfl⟩)
      rw [nc0] at f6
      have eN : (kN c : Int) + 1 = ((kN c + 1 : Nat) : Int) := by omega
      have fA : frA [14, 15, 16, 17, 18, 19] A A4 := frA_t (frA_t (frA_t (frA_u (by decide)) (frA_u (by decide))) (frA_u (by decide))) (frA_w f4 (by decide))
      have A14 : A4 14 = A 14 := by rw [f4 14 (by decide), aup_n (by omega), aup_n (by omega), aup_n (by omega)]
      refine ⟨i4, iup j 4 ((kN c + 1 : Nat) : Int), A4, f1, fun z => ?_, cd_t (cd_fr hcd (iup_n (by omega)) A14) (fun _ => trivial), frI_t a2 (frI_t b2 (frI_t c2 f3)), fA, fun d Q hd => ?_⟩
      · obtain ⟨f2a, f2b⟩ := f2 z
        obtain ⟨q3, e3⟩ := al43 (alC_R z)
        obtain ⟨x, hx⟩ := nu_al e3
        have ew : w1 = (kz : Int) := by rw [c4 _ _ hx, hkv _ _ hx]
        refine ⟨by rw [iup_n (by omega)]; exact r1, iup_s, by rw [iup_n (by omega)]; exact r3, by rw [iup_n (by omega)]; exact r4, by rw [iup_n (by omega)]; exact r5, fun x hx => ?_, fun p hp => ?_, by rw [iup_n (by omega), iup_n (by omega)]; exact r8, by rw [iup_n (by omega), iup_n (by omega)]; exact r9⟩
        · rw [f4 15 (by decide), f4 16 (by decide), aup_n (by omega), aup_n (by omega), aup_n (by omega), aup_n (by omega), aup_n (by omega), aup_n (by omega)]
          exact r6 x hx
        · have hp' : p < kN c + 1 := hp
          show _ = ((fup (kFst c).2.1 (kN c) kz p : Nat) : Int) ∧ _ = ((fup (kAge c) (kN c) a' p : Nat) : Int) ∧ _ = ((fup (kFst c).2.2 (kN c) t' p : Nat) : Int)
          rw [f4 17 (by decide), aup_n (by omega), aup_n (by omega), aup_s]
          unfold fup
          by_cases zp : p = kN c
          · rw [if_pos zp, if_pos zp, if_pos zp, zp, fs_same]
            exact ⟨ew, f2a, f2b⟩
          · rw [if_neg zp, if_neg zp, if_neg zp, fs_ne (by omega), (f5 p (by omega)).1, (f5 p (by omega)).2, aup_n (by omega), aup_s, aup_s, fs_ne (by omega), fs_ne (by omega)]
            exact r7 p (by omega)
      · obtain ⟨d', rfl⟩ : ∃ d', d = d' + 1 := ⟨d - 1, by omega⟩
        have f6' := f6 (d' + 1) Q hd
        have sg : WP (d' + 1) 65 0 [some (vr 13), none] [] (rdH h i j A) Q = WP (d' + 1) 65 75 [some (vr 13), some (vi 0)] [] (rdH h i3 j (aup (aup (aup A 17 (fset (A 17) (kN c : Nat) w1)) 18 (fset (A 18) (kN c : Nat) 0)) 19 (fset (A 19) (kN c : Nat) 3))) Q := by
          simp (disch := omega) only [e_65_0, e_65_1, e_65_4, e_65_5, e_65_17, e_65_18, e_65_21, e_65_24, e_65_25, e_65_28, e_65_29, e_65_32, e_65_33, e_65_36, e_65_37, e_65_40, e_65_41, e_65_42, e_65_43, e_65_46, e_65_47, e_65_48, e_65_49, e_65_52, e_65_53, e_65_54, e_65_57, e_65_58, e_65_61, e_65_62, e_65_63, e_65_64, e_65_67, e_65_68, e_65_71, e_65_72, e_65_73, e_65_74, r2, r1, a3, b3, c5, true_and, tkO_c, tkO_g0, tkO_k0, tkO_g1, tkO_k1, tkO_g2, tkO_k2, tkO_g3, tkO_k3, tkO_g4, tkO_k4, tkO_g5, tkO_k5, tkO_g6, tkO_k6, tkO_g7, tkO_k7, tkO_g8, tkO_k8, tkO_s1, tkO_s2, tkO_s3, tkO_s4, tkO_s5, tkO_s6, tkO_s7, tkO_s8, rdO_c, rdO_g0, rdO_k0, rdO_g1, rdO_k1, rdO_g2, rdO_k2, rdO_g3, rdO_k3, rdO_g4, rdO_k4, rdO_g5, rdO_k5, rdO_g6, rdO_k6, rdO_g7, rdO_k7, rdO_g8, rdO_k8, rdO_g9, rdO_k9, rdO_g10, rdO_k10, rdO_g11, rdO_k11, rdO_g12, rdO_k12, rdO_g13, rdO_k13, rdO_g14, rdO_k14, rdO_g15, rdO_k15, rdO_g16, rdO_k16, rdO_g17, rdO_k17, rdO_s2, rdO_s3, rdO_s4, rdO_s10, rdO_s11, rdO_s12, rdO_s13, rdO_s14, rdO_s15, rdO_s16, rdO_s17, rh_1, rh_2, rh_g11, rh_g12, rh_g13, rh_g14, rh_g15, rh_g16, rh_g17, rh_g18, rh_g19, rh_out, rh_u11, rh_u12, rh_u13, rh_u14, rh_u15, rh_u16, rh_u17, rh_u18, rh_u19, iup_s, iup_n, aup_s, aup_n, ne_eq, not_false_eq_true, sh_0, sh_1, sh_2, sh_3, sh_4, sh_5, sh_8, sh_15, sh_16, sh_24, Int.reducePow, Int.cast_ofNat_Int, w_of, wl_of, ltT, ltF, leT, leF, eqT, eqF, okF_0, okF_s, gF_0, gF_s, consC_o, sF_0, sF_s, clsO_o, inA_i, ldA_i, stA_i, inJ_l, ldJ_l, stJ_l, inR_r, ldR_r, stR_r, tgR_r, lenA_i, lenA_l, lenA_r, lenA_ex, nl_i, nl_o, nl_l, nl_n, wd_n, wd_i, wd_l, wd_o, fit_i, fit_l, fit_o, K_v, K_n, true_and, and_true, Nat.reduceAdd, Nat.reduceLeDiff, Nat.reduceEqDiff, Nat.reduceMul, Nat.reduceLT, reduceIte, true_or, or_true, cmp_lt, cmp_gt, cmp_eq, wb_0, b_01, cmp_lt', cmp_gt', cmp_eq', b_0, b_1, wb_1, Int.reduceSub, Int.reduceToNat, List.getD_cons_succ, List.getD_cons_zero, Int.reduceLE, Int.reduceLT, Int.reduceEq, Int.reduceNeg, Int.reduceAdd, Int.reduceMul, and_self, em_b, ne_eq, not_false_eq_true, not_true_eq_false]
          try rfl
        rw [sg, f6']
        simp (disch := omega) only [e_65_162, e_65_163i, e_65_163a, e_65_164, e_65_167, e_65_168, e_65_169, e_65_172, r2, eN, true_and, tkO_c, tkO_g0, tkO_k0, tkO_g1, tkO_k1, tkO_g2, tkO_k2, tkO_g3, tkO_k3, tkO_g4, tkO_k4, tkO_g5, tkO_k5, tkO_g6, tkO_k6, tkO_g7, tkO_k7, tkO_g8, tkO_k8, tkO_s1, tkO_s2, tkO_s3, tkO_s4, tkO_s5, tkO_s6, tkO_s7, tkO_s8, rdO_c, rdO_g0, rdO_k0, rdO_g1, rdO_k1, rdO_g2, rdO_k2, rdO_g3, rdO_k3, rdO_g4, rdO_k4, rdO_g5, rdO_k5, rdO_g6, rdO_k6, rdO_g7, rdO_k7, rdO_g8, rdO_k8, rdO_g9, rdO_k9, rdO_g10, rdO_k10, rdO_g11, rdO_k11, rdO_g12, rdO_k12, rdO_g13, rdO_k13, rdO_g14, rdO_k14, rdO_g15, rdO_k15, rdO_g16, rdO_k16, rdO_g17, rdO_k17, rdO_s2, rdO_s3, rdO_s4, rdO_s10, rdO_s11, rdO_s12, rdO_s13, rdO_s14, rdO_s15, rdO_s16, rdO_s17, rh_1, rh_2, rh_g11, rh_g12, rh_g13, rh_g14, rh_g15, rh_g16, rh_g17, rh_g18, rh_g19, rh_out, rh_u11, rh_u12, rh_u13, rh_u14, rh_u15, rh_u16, rh_u17, rh_u18, rh_u19, iup_s, iup_n, aup_s, aup_n, ne_eq, not_false_eq_true, sh_0, sh_1, sh_2, sh_3, sh_4, sh_5, sh_8, sh_15, sh_16, sh_24, Int.reducePow, Int.cast_ofNat_Int, w_of, wl_of, ltT, ltF, leT, leF, eqT, eqF, okF_0, okF_s, gF_0, gF_s, consC_o, sF_0, sF_s, clsO_o, inA_i, ldA_i, stA_i, inJ_l, ldJ_l, stJ_l, inR_r, ldR_r, stR_r, tgR_r, lenA_i, lenA_l, lenA_r, lenA_ex, nl_i, nl_o, nl_l, nl_n, wd_n, wd_i, wd_l, wd_o, fit_i, fit_l, fit_o, K_v, K_n, true_and, and_true, Nat.reduceAdd, Nat.reduceLeDiff, Nat.reduceEqDiff, Nat.reduceMul, Nat.reduceLT, reduceIte, true_or, or_true, cmp_lt, cmp_gt, cmp_eq, wb_0, b_01, cmp_lt', cmp_gt', cmp_eq', b_0, b_1, wb_1, Int.reduceSub, Int.reduceToNat, List.getD_cons_succ, List.getD_cons_zero, Int.reduceLE, Int.reduceLT, Int.reduceEq, Int.reduceNeg, Int.reduceAdd, Int.reduceMul, and_self, em_b, ne_eq, not_false_eq_true, not_true_eq_false]
        try rfl
    · obtain ⟨r0, r1, r2, r3, r4, r5, r6, r7, r8, r9, r10, r11, r12⟩ := hR
      have hNl : (kN c : Int) < 3 := by omega
      have c11 : i 11 = 0 := hr.2.2.1
      obtain ⟨i1, a1, a2, a3⟩ := R_nx1 (h := h) (A := A) hX hT hnb hr
      obtain ⟨i2, i2', b1, b2, b3, b4, b5⟩ := R_exB (h := h) (A := A) (kd := 5) hX hT hnb (by decide) a1
      rw [show rkK 5 = 5 from rfl] at b3
      obtain ⟨i3, w1, c1, c2, c4, c5⟩ := R_tk (h := h) (A := A) (lo := 0) (hi := (kP c : Int) - 1) hX hT hnb (by omega) (by omega) b1
      have e22 : (22 : Int) + (kN c : Int) = ((22 + kN c : Nat) : Int) := by omega
      have e25 : (25 : Int) + (kN c : Int) = ((25 + kN c : Nat) : Int) := by omega
      have v19 : A 75 ((19 + kN c : Nat) : Int) = 0 := by
        have := (r4 (kN c) (by omega)).1
        rw [hD.2.2.2.2.2.2.2.2.2.2 (kN c) (Nat.le_refl _), show (19 : Int) + (kN c : Int) = ((19 + kN c : Nat) : Int) by omega] at this
        exact this
      obtain ⟨i4, A4, f1, f2, f3, f4, f5, f6⟩ := fs4 h i3 (aup A 75 (fset (fset (A 75) ((22 + kN c : Nat) : Int) w1) ((25 + kN c : Nat) : Int) 3)) (kN c) hX ⟨hT.1, fun y z hz => by rw [aup_n (by omega)]; exact hT.2 y z hz⟩ c1 (by omega) (fun _ => ⟨by rw [aup_s, fs_ne (by omega), fs_ne (by omega), v19]; rfl, by rw [aup_s, fs_same]; rfl⟩)
      have frr : frI [6, 7, 9, 10, 11, 12, 15] i i4 := frI_w (frI_t a2 (frI_t b2 (frI_t c2 f3))) (by decide)
      have sg0 : ∀ d Q, 10 ≤ d + 1 → WP (d + 1) 191 0 [some (vr 71), none] [] (mdH h i A) Q = WP (d + 1) 191 42 [some (vr 71), some (vi (kN c))] [] (mdH h i2' A) Q := fun d Q hd => by
        by_cases z : isB b n (.inl (tkE b n q)) 5 = true
        · rw [b4 z]
          rw [if_pos z] at b3
          simp (disch := omega) only [e_191_0, e_191_1, e_191_4, e_191_5, e_191_6, e_191_7, e_191_8, e_191_9, e_191_17, e_191_18, e_191_21, e_191_24, e_191_25, e_191_26, e_191_29, e_191_30, e_191_31, e_191_34, r2, c11, a3, b3, true_and, mdO_c, mdO_g0, mdO_k0, mdO_g1, mdO_k1, mdO_g2, mdO_k2, mdO_g3, mdO_k3, mdO_g4, mdO_k4, mdO_g5, mdO_k5, mdO_g6, mdO_k6, mdO_g7, mdO_k7, mdO_g8, mdO_k8, mdO_g9, mdO_k9, mdO_g10, mdO_k10, mdO_g11, mdO_k11, mdO_g12, mdO_k12, mdO_g13, mdO_k13, mdO_g14, mdO_k14, mdO_g15, mdO_k15, mdO_g16, mdO_k16, mdO_g17, mdO_k17, mdO_g18, mdO_k18, mdO_g19, mdO_k19, mdO_g20, mdO_k20, mdO_g21, mdO_k21, mdO_g22, mdO_k22, mdO_g23, mdO_k23, mdO_g24, mdO_k24, mdO_g25, mdO_k25, mdO_g26, mdO_k26, mdO_g27, mdO_k27, mdO_g28, mdO_k28, mdO_g29, mdO_k29, mdO_g30, mdO_k30, mdO_g31, mdO_k31, mdO_g32, mdO_k32, mdO_g33, mdO_k33, mdO_g34, mdO_k34, mdO_g35, mdO_k35, mdO_s0, mdO_s5, mdO_s6, mdO_s7, mdO_s8, mdO_s9, mdO_s10, mdO_s11, mdO_s12, mdO_s13, mdO_s14, mdO_s15, mdO_s19, mdO_s20, mdO_s25, mdO_s26, mdO_s31, mdO_s32, md_1, md_2, md_g71, md_g72, md_g73, md_g74, md_g75, md_g76, md_g77, md_g78, md_g79, md_g80, md_g81, md_g82, md_g83, md_g84, md_g85, md_g86, md_g87, md_g88, md_g89, md_out, md_u71, md_u72, md_u73, md_u74, md_u75, md_u76, md_u77, md_u78, md_u79, md_u80, md_u81, md_u82, md_u83, md_u84, md_u85, md_u86, md_u87, md_u88, md_u89, md_uo, iup_s, iup_n, aup_s, aup_n, ne_eq, not_false_eq_true, sh_0, sh_1, sh_2, sh_3, sh_4, sh_5, sh_8, sh_15, sh_16, sh_24, Int.reducePow, Int.cast_ofNat_Int, w_of, wl_of, ltT, ltF, leT, leF, eqT, eqF, okF_0, okF_s, gF_0, gF_s, consC_o, sF_0, sF_s, clsO_o, inA_i, ldA_i, stA_i, inJ_l, ldJ_l, stJ_l, inR_r, ldR_r, stR_r, tgR_r, lenA_i, lenA_l, lenA_r, lenA_ex, nl_i, nl_o, nl_l, nl_n, wd_n, wd_i, wd_l, wd_o, fit_i, fit_l, fit_o, K_v, K_n, true_and, and_true, Nat.reduceAdd, Nat.reduceLeDiff, Nat.reduceEqDiff, Nat.reduceMul, Nat.reduceLT, reduceIte, true_or, or_true, cmp_lt, cmp_gt, cmp_eq, wb_0, b_01, cmp_lt', cmp_gt', cmp_eq', b_0, b_1, wb_1, Int.reduceSub, Int.reduceToNat, List.getD_cons_succ, List.getD_cons_zero, Int.reduceLE, Int.reduceLT, Int.reduceEq, Int.reduceNeg, Int.reduceAdd, Int.reduceMul, and_self, em_b, ne_eq, not_false_eq_true, not_true_eq_false]
          try rfl
        · rw [if_neg z] at b3
          have b5' := b5 z
          simp (disch := omega) only [e_191_0, e_191_1, e_191_4, e_191_5, e_191_6, e_191_7, e_191_8, e_191_9, e_191_17, e_191_18, e_191_21, e_191_24, e_191_25, e_191_26, e_191_29, e_191_30, e_191_31, e_191_34, e_191_37, e_191_38, e_191_39, r2, c11, a3, b3, b5', true_and, mdO_c, mdO_g0, mdO_k0, mdO_g1, mdO_k1, mdO_g2, mdO_k2, mdO_g3, mdO_k3, mdO_g4, mdO_k4, mdO_g5, mdO_k5, mdO_g6, mdO_k6, mdO_g7, mdO_k7, mdO_g8, mdO_k8, mdO_g9, mdO_k9, mdO_g10, mdO_k10, mdO_g11, mdO_k11, mdO_g12, mdO_k12, mdO_g13, mdO_k13, mdO_g14, mdO_k14, mdO_g15, mdO_k15, mdO_g16, mdO_k16, mdO_g17, mdO_k17, mdO_g18, mdO_k18, mdO_g19, mdO_k19, mdO_g20, mdO_k20, mdO_g21, mdO_k21, mdO_g22, mdO_k22, mdO_g23, mdO_k23, mdO_g24, mdO_k24, mdO_g25, mdO_k25, mdO_g26, mdO_k26, mdO_g27, mdO_k27, mdO_g28, mdO_k28, mdO_g29, mdO_k29, mdO_g30, mdO_k30, mdO_g31, mdO_k31, mdO_g32, mdO_k32, mdO_g33, mdO_k33, mdO_g34, mdO_k34, mdO_g35, mdO_k35, mdO_s0, mdO_s5, mdO_s6, mdO_s7, mdO_s8, mdO_s9, mdO_s10, mdO_s11, mdO_s12, mdO_s13, mdO_s14, mdO_s15, mdO_s19, mdO_s20, mdO_s25, mdO_s26, mdO_s31, mdO_s32, md_1, md_2, md_g71, md_g72, md_g73, md_g74, md_g75, md_g76, md_g77, md_g78, md_g79, md_g80, md_g81, md_g82, md_g83, md_g84, md_g85, md_g86, md_g87, md_g88, md_g89, md_out, md_u71, md_u72, md_u73, md_u74, md_u75, md_u76, md_u77, md_u78, md_u79, md_u80, md_u81, md_u82, md_u83, md_u84, md_u85, md_u86, md_u87, md_u88, md_u89, md_uo, iup_s, iup_n, aup_s, aup_n, ne_eq, not_false_eq_true, sh_0, sh_1, sh_2, sh_3, sh_4, sh_5, sh_8, sh_15, sh_16, sh_24, Int.reducePow, Int.cast_ofNat_Int, w_of, wl_of, ltT, ltF, leT, leF, eqT, eqF, okF_0, okF_s, gF_0, gF_s, consC_o, sF_0, sF_s, clsO_o, inA_i, ldA_i, stA_i, inJ_l, ldJ_l, stJ_l, inR_r, ldR_r, stR_r, tgR_r, lenA_i, lenA_l, lenA_r, lenA_ex, nl_i, nl_o, nl_l, nl_n, wd_n, wd_i, wd_l, wd_o, fit_i, fit_l, fit_o, K_v, K_n, true_and, and_true, Nat.reduceAdd, Nat.reduceLeDiff, Nat.reduceEqDiff, Nat.reduceMul, Nat.reduceLT, reduceIte, true_or, or_true, cmp_lt, cmp_gt, cmp_eq, wb_0, b_01, cmp_lt', cmp_gt', cmp_eq', b_0, b_1, wb_1, Int.reduceSub, Int.reduceToNat, List.getD_cons_succ, List.getD_cons_zero, Int.reduceLE, Int.reduceLT, Int.reduceEq, Int.reduceNeg, Int.reduceAdd, Int.reduceMul, and_self, em_b, ne_eq, not_false_eq_true, not_true_eq_false]
          try rfl
      have sg1 : ∀ d Q, 10 ≤ d + 1 → WP (d + 1) 191 0 [some (vr 71), none] [] (mdH h i A) Q = WP (d + 1) 191 92 [some (vr 71), some (vi (kN c))] [] (mdH h i4 A4) Q := fun d Q hd => by
        rw [sg0 d Q hd, ← f6 (d + 1) Q hd]
        simp (disch := omega) only [e_191_42, e_191_43, e_191_46, e_191_48, e_191_49, e_191_50, e_191_51, e_191_52, e_191_53, e_191_56, e_191_57, e_191_58, e_191_59, e_191_60, e_191_63, e_191_64, e_191_65, e_191_68, e_191_70, e_191_71, e_191_72, e_191_73, r1, c5, e22, e25, aup_aup, true_and, mdO_c, mdO_g0, mdO_k0, mdO_g1, mdO_k1, mdO_g2, mdO_k2, mdO_g3, mdO_k3, mdO_g4, mdO_k4, mdO_g5, mdO_k5, mdO_g6, mdO_k6, mdO_g7, mdO_k7, mdO_g8, mdO_k8, mdO_g9, mdO_k9, mdO_g10, mdO_k10, mdO_g11, mdO_k11, mdO_g12, mdO_k12, mdO_g13, mdO_k13, mdO_g14, mdO_k14, mdO_g15, mdO_k15, mdO_g16, mdO_k16, mdO_g17, mdO_k17, mdO_g18, mdO_k18, mdO_g19, mdO_k19, mdO_g20, mdO_k20, mdO_g21, mdO_k21, mdO_g22, mdO_k22, mdO_g23, mdO_k23, mdO_g24, mdO_k24, mdO_g25, mdO_k25, mdO_g26, mdO_k26, mdO_g27, mdO_k27, mdO_g28, mdO_k28, mdO_g29, mdO_k29, mdO_g30, mdO_k30, mdO_g31, mdO_k31, mdO_g32, mdO_k32, mdO_g33, mdO_k33, mdO_g34, mdO_k34, mdO_g35, mdO_k35, mdO_s0, mdO_s5, mdO_s6, mdO_s7, mdO_s8, mdO_s9, mdO_s10, mdO_s11, mdO_s12, mdO_s13, mdO_s14, mdO_s15, mdO_s19, mdO_s20, mdO_s25, mdO_s26, mdO_s31, mdO_s32, md_1, md_2, md_g71, md_g72, md_g73, md_g74, md_g75, md_g76, md_g77, md_g78, md_g79, md_g80, md_g81, md_g82, md_g83, md_g84, md_g85, md_g86, md_g87, md_g88, md_g89, md_out, md_u71, md_u72, md_u73, md_u74, md_u75, md_u76, md_u77, md_u78, md_u79, md_u80, md_u81, md_u82, md_u83, md_u84, md_u85, md_u86, md_u87, md_u88, md_u89, md_uo, iup_s, iup_n, aup_s, aup_n, ne_eq, not_false_eq_true, sh_0, sh_1, sh_2, sh_3, sh_4, sh_5, sh_8, sh_15, sh_16, sh_24, Int.reducePow, Int.cast_ofNat_Int, w_of, wl_of, ltT, ltF, leT, leF, eqT, eqF, okF_0, okF_s, gF_0, gF_s, consC_o, sF_0, sF_s, clsO_o, inA_i, ldA_i, stA_i, inJ_l, ldJ_l, stJ_l, inR_r, ldR_r, stR_r, tgR_r, lenA_i, lenA_l, lenA_r, lenA_ex, nl_i, nl_o, nl_l, nl_n, wd_n, wd_i, wd_l, wd_o, fit_i, fit_l, fit_o, K_v, K_n, true_and, and_true, Nat.reduceAdd, Nat.reduceLeDiff, Nat.reduceEqDiff, Nat.reduceMul, Nat.reduceLT, reduceIte, true_or, or_true, cmp_lt, cmp_gt, cmp_eq, wb_0, b_01, cmp_lt', cmp_gt', cmp_eq', b_0, b_1, wb_1, Int.reduceSub, Int.reduceToNat, List.getD_cons_succ, List.getD_cons_zero, Int.reduceLE, Int.reduceLT, Int.reduceEq, Int.reduceNeg, Int.reduceAdd, Int.reduceMul, and_self, em_b, ne_eq, not_false_eq_true, not_true_eq_false]
        try rfl
      have oth : ∀ y : Int, y ≠ ((19 + kN c : Nat) : Int) → y ≠ ((25 + kN c : Nat) : Int) → y ≠ ((22 + kN c : Nat) : Int) → A4 75 y = A 75 y := fun y h1 h2 h3 => by rw [f5 y h1 h2, aup_s, fs_ne h2, fs_ne h3]
      by_cases hal : alR s4
      · have e11 := (rf_wr f1).1 hal
        obtain ⟨f2a, f2b⟩ := f2 hal
        obtain ⟨q3, e3⟩ := al43 hal
        obtain ⟨x, hx⟩ := nu_al e3
        have ew : w1 = (kz : Int) := by rw [c4 _ _ hx, hkv _ _ hx]
        have v2 : A4 75 2 = (kN c : Int) := by rw [oth 2 (by omega) (by omega) (by omega)]; exact r2
        have eN : (kN c : Int) + 1 = ((kN c + 1 : Nat) : Int) := by omega
        have v22 : A4 75 ((22 + kN c : Nat) : Int) = (kz : Int) := by rw [f5 _ (by omega) (by omega), aup_s, fs_ne (by omega), fs_same, ew]
        refine ⟨i4, aup A4 75 (fset (A4 75) 2 ((kN c + 1 : Nat) : Int)), f1, fun _ => ⟨?_, ?_, by rw [aup_s, fs_same]; rfl, fun x hx => ?_, fun p hp => ?_, ?_, ?_, ?_, ?_, ?_, r10, lwR_fr (by omega) (fun y hy => by rw [aup_s, fs_ne (by omega), oth y (by omega) (by omega) (by omega)]) r11, lwR_fr (by omega) (fun y hy => by rw [aup_s, fs_ne (by omega), oth y (by omega) (by omega) (by omega)]) r12⟩, frr, frA_t (frA_u (by decide)) (frA_t f4 (frA_u (by decide))), fun d Q hd => ?_⟩
        · rw [aup_s, fs_ne (by omega), oth _ (by omega) (by omega) (by omega)]; exact r0
        · rw [aup_s, fs_ne (by omega), oth _ (by omega) (by omega) (by omega)]; exact r1
        · rw [aup_s, fs_ne (by omega), oth _ (by omega) (by omega) (by omega), fs_ne (by omega), oth _ (by omega) (by omega) (by omega)]; exact r3 x hx
        · show _ = ((fup (kAge c) (kN c) a' p : Nat) : Int) ∧ _ = ((fup (kFst c).2.1 (kN c) kz p : Nat) : Int) ∧ _ = ((fup (kFst c).2.2 (kN c) t' p : Nat) : Int)
          rw [aup_s, fs_ne (by omega), fs_ne (by omega), fs_ne (by omega)]
          unfold fup
          by_cases zp : p = kN c
          · rw [if_pos zp, if_pos zp, if_pos zp, zp, e22, e25, show (19 : Int) + (kN c : Int) = ((19 + kN c : Nat) : Int) by omega]
            exact ⟨f2a, v22, f2b⟩
          · rw [if_neg zp, if_neg zp, if_neg zp, oth _ (by omega) (by omega) (by omega), oth _ (by omega) (by omega) (by omega), oth _ (by omega) (by omega) (by omega)]
            exact r4 p hp
        · rw [aup_s, fs_ne (by omega), oth _ (by omega) (by omega) (by omega)]; exact r5
        · rw [aup_s, fs_ne (by omega), oth _ (by omega) (by omega) (by omega)]; exact r6
        · rw [aup_s, fs_ne (by omega), oth _ (by omega) (by omega) (by omega)]; exact r7
        · rw [aup_s, fs_ne (by omega), oth _ (by omega) (by omega) (by omega)]; exact r8
        · rw [aup_s, fs_ne (by omega), oth _ (by omega) (by omega) (by omega)]; exact r9
        · obtain ⟨d', rfl⟩ : ∃ d', d = d' + 1 := ⟨d - 1, by omega⟩
          rw [sg1 d' Q hd]
          simp (disch := omega) only [e_191_92, e_191_93, e_191_96, e_191_99, e_191_100, e_191_103, e_191_104, e_191_105, e_191_106, e_191_107, e_191_108, e_191_109, e11, v2, eN, true_and, mdO_c, mdO_g0, mdO_k0, mdO_g1, mdO_k1, mdO_g2, mdO_k2, mdO_g3, mdO_k3, mdO_g4, mdO_k4, mdO_g5, mdO_k5, mdO_g6, mdO_k6, mdO_g7, mdO_k7, mdO_g8, mdO_k8, mdO_g9, mdO_k9, mdO_g10, mdO_k10, mdO_g11, mdO_k11, mdO_g12, mdO_k12, mdO_g13, mdO_k13, mdO_g14, mdO_k14, mdO_g15, mdO_k15, mdO_g16, mdO_k16, mdO_g17, mdO_k17, mdO_g18, mdO_k18, mdO_g19, mdO_k19, mdO_g20, mdO_k20, mdO_g21, mdO_k21, mdO_g22, mdO_k22, mdO_g23, mdO_k23, mdO_g24, mdO_k24, mdO_g25, mdO_k25, mdO_g26, mdO_k26, mdO_g27, mdO_k27, mdO_g28, mdO_k28, mdO_g29, mdO_k29, mdO_g30, mdO_k30, mdO_g31, mdO_k31, mdO_g32, mdO_k32, mdO_g33, mdO_k33, mdO_g34, mdO_k34, mdO_g35, mdO_k35, mdO_s0, mdO_s5, mdO_s6, mdO_s7, mdO_s8, mdO_s9, mdO_s10, mdO_s11, mdO_s12, mdO_s13, mdO_s14, mdO_s15, mdO_s19, mdO_s20, mdO_s25, mdO_s26, mdO_s31, mdO_s32, md_1, md_2, md_g71, md_g72, md_g73, md_g74, md_g75, md_g76, md_g77, md_g78, md_g79, md_g80, md_g81, md_g82, md_g83, md_g84, md_g85, md_g86, md_g87, md_g88, md_g89, md_out, md_u71, md_u72, md_u73, md_u74, md_u75, md_u76, md_u77, md_u78, md_u79, md_u80, md_u81, md_u82, md_u83, md_u84, md_u85, md_u86, md_u87, md_u88, md_u89, md_uo, iup_s, iup_n, aup_s, aup_n, ne_eq, not_false_eq_true, sh_0, sh_1, sh_2, sh_3, sh_4, sh_5, sh_8, sh_15, sh_16, sh_24, Int.reducePow, Int.cast_ofNat_Int, w_of, wl_of, ltT, ltF, leT, leF, eqT, eqF, okF_0, okF_s, gF_0, gF_s, consC_o, sF_0, sF_s, clsO_o, inA_i, ldA_i, stA_i, inJ_l, ldJ_l, stJ_l, inR_r, ldR_r, stR_r, tgR_r, lenA_i, lenA_l, lenA_r, lenA_ex, nl_i, nl_o, nl_l, nl_n, wd_n, wd_i, wd_l, wd_o, fit_i, fit_l, fit_o, K_v, K_n, true_and, and_true, Nat.reduceAdd, Nat.reduceLeDiff, Nat.reduceEqDiff, Nat.reduceMul, Nat.reduceLT, reduceIte, true_or, or_true, cmp_lt, cmp_gt, cmp_eq, wb_0, b_01, cmp_lt', cmp_gt', cmp_eq', b_0, b_1, wb_1, Int.reduceSub, Int.reduceToNat, List.getD_cons_succ, List.getD_cons_zero, Int.reduceLE, Int.reduceLT, Int.reduceEq, Int.reduceNeg, Int.reduceAdd, Int.reduceMul, and_self, em_b, ne_eq, not_false_eq_true, not_true_eq_false]
          try rfl
      · obtain ⟨e11, e12⟩ := (rf_wr f1).2 hal
        refine ⟨i4, A4, f1, fun z => absurd z hal, frr, frA_t (frA_u (by decide)) f4, fun d Q hd => ?_⟩
        obtain ⟨d', rfl⟩ : ∃ d', d = d' + 1 := ⟨d - 1, by omega⟩
        rw [sg1 d' Q hd]
        simp (disch := omega) only [e_191_92, e_191_93, e_191_96, e_191_109, true_and, mdO_c, mdO_g0, mdO_k0, mdO_g1, mdO_k1, mdO_g2, mdO_k2, mdO_g3, mdO_k3, mdO_g4, mdO_k4, mdO_g5, mdO_k5, mdO_g6, mdO_k6, mdO_g7, mdO_k7, mdO_g8, mdO_k8, mdO_g9, mdO_k9, mdO_g10, mdO_k10, mdO_g11, mdO_k11, mdO_g12, mdO_k12, mdO_g13, mdO_k13, mdO_g14, mdO_k14, mdO_g15, mdO_k15, mdO_g16, mdO_k16, mdO_g17, mdO_k17, mdO_g18, mdO_k18, mdO_g19, mdO_k19, mdO_g20, mdO_k20, mdO_g21, mdO_k21, mdO_g22, mdO_k22, mdO_g23, mdO_k23, mdO_g24, mdO_k24, mdO_g25, mdO_k25, mdO_g26, mdO_k26, mdO_g27, mdO_k27, mdO_g28, mdO_k28, mdO_g29, mdO_k29, mdO_g30, mdO_k30, mdO_g31, mdO_k31, mdO_g32, mdO_k32, mdO_g33, mdO_k33, mdO_g34, mdO_k34, mdO_g35, mdO_k35, mdO_s0, mdO_s5, mdO_s6, mdO_s7, mdO_s8, mdO_s9, mdO_s10, mdO_s11, mdO_s12, mdO_s13, mdO_s14, mdO_s15, mdO_s19, mdO_s20, mdO_s25, mdO_s26, mdO_s31, mdO_s32, md_1, md_2, md_g71, md_g72, md_g73, md_g74, md_g75, md_g76, md_g77, md_g78, md_g79, md_g80, md_g81, md_g82, md_g83, md_g84, md_g85, md_g86, md_g87, md_g88, md_g89, md_out, md_u71, md_u72, md_u73, md_u74, md_u75, md_u76, md_u77, md_u78, md_u79, md_u80, md_u81, md_u82, md_u83, md_u84, md_u85, md_u86, md_u87, md_u88, md_u89, md_uo, iup_s, iup_n, aup_s, aup_n, ne_eq, not_false_eq_true, sh_0, sh_1, sh_2, sh_3, sh_4, sh_5, sh_8, sh_15, sh_16, sh_24, Int.reducePow, Int.cast_ofNat_Int, w_of, wl_of, ltT, ltF, leT, leF, eqT, eqF, okF_0, okF_s, gF_0, gF_s, consC_o, sF_0, sF_s, clsO_o, inA_i, ldA_i, stA_i, inJ_l, ldJ_l, stJ_l, inR_r, ldR_r, stR_r, tgR_r, lenA_i, lenA_l, lenA_r, lenA_ex, nl_i, nl_o, nl_l, nl_n, wd_n, wd_i, wd_l, wd_o, fit_i, fit_l, fit_o, K_v, K_n, true_and, and_true, Nat.reduceAdd, Nat.reduceLeDiff, Nat.reduceEqDiff, Nat.reduceMul, Nat.reduceLT, reduceIte, true_or, or_true, cmp_lt, cmp_gt, cmp_eq, wb_0, b_01, cmp_lt', cmp_gt', cmp_eq', b_0, b_1, wb_1, Int.reduceSub, Int.reduceToNat, List.getD_cons_succ, List.getD_cons_zero, Int.reduceLE, Int.reduceLT, Int.reduceEq, Int.reduceNeg, Int.reduceAdd, Int.reduceMul, and_self, em_b, ne_eq, not_false_eq_true, not_true_eq_false]
        try rfl
end ln
