/-! READING A COUNTY: laws -/
theorem lwR_mono {f : Int → Int} {CL CL' l : Nat} {x : Option (List Int)} (h : CL ≤ CL') (hf : lwR f CL l x) : lwR f CL' l x := by
  cases x with
  | none => exact hf
  | some o =>
    obtain ⟨h1, h2, gg, h3, h4, h5⟩ := hf
    exact ⟨h1, h2, gg, h3, by omega, h5⟩
theorem lwR_frl {f g : Int → Int} {CL l : Nat} {x : Option (List Int)} (hl : l < 2) (h : ∀ y : Int, (y = 3 + (l : Int) ∨ y = 5 + (l : Int) ∨ y = 7 + (l : Int)) ∨ (123 ≤ y ∧ y < 123 + (CL : Int)) → g y = f y) (hf : lwR f CL l x) : lwR g CL l x := by
  cases x with
  | none => show g (3 + (l : Int)) = 0; rw [h _ (by omega)]; exact hf
  | some o =>
    obtain ⟨h1, h2, gg, h3, h4, h5⟩ := hf
    refine ⟨by rw [h _ (by omega)]; exact h1, by rw [h _ (by omega)]; exact h2, gg, by rw [h _ (by omega)]; exact h3, h4, fun i hi => ?_⟩
    rw [h _ (by omega)]; exact h5 i hi
section ln
variable {b : List Int} {n q : Nat} {c : KC} {C : List Int}
theorem LN_tires (hnb : n ≤ b.length) (hb9 : b.length ≤ 900) (hqn : q ≤ n) (hk : tkK b n q = 10) (hD : okD c) (hC : C.length ≤ q) : ∃ s' c' C', LNp n q c s' c' C' ∧ LNc b n 60 66 0 [some (vi 10), none] q c C s' c' C' ∧ LNf b n 60 192 0 [some (vi 0), none] q c C s' c' C' := by
  have hlt := tkE_lt hqn (show tkK b n q ≠ 32 by omega)
  have hle := (tkE_le (b := b) hqn).2
  have h33 : tkK b n q ≠ 33 := by omega
  have ok1 : okq n (.inl (tkE b n q)) := fun z e => by cases e; exact hle
  have pe := ex_prg (b := b) (kd := 58) (by omega) ok1
  have JJ := J_all (b := b) (n := n) (l := 0) hnb hb9 (by omega) 6 0 (by omega)
  obtain ⟨s2, L, p2, w2, cs2, rs2⟩ := JJ.2.1 (exS b n 58 (.inl (tkE b n q))) (prg_ok pe)
  have p3 := prg_t pe p2
  rw [List.nil_append] at p3
  have hp3 : ∀ q3, s2 = .inl q3 → tkE b n q + L.length ≤ q3 ∧ q3 ≤ n := fun q3 e => by
    obtain ⟨z, e1, e2, e3⟩ := p3.1 q3 e
    cases e1
    exact ⟨e2, e3⟩
  have hC1 : ∀ z, exS b n 58 (.inl (tkE b n q)) = .inl z → C.length ≤ z := fun z e => by
    obtain ⟨y, e1, e2, e3⟩ := pe.1 z e
    have e2' : y + 0 ≤ z := e2
    cases e1
    omega
  have e0 : ((0 : Nat) : Int) = 0 := rfl
  refine ⟨s2, kTi c L, C ++ L, fun q3 e => ?_, fun h i j A hX hT hc hR hcd => ?_, fun h i A hX hT hr hR => ?_⟩
  · have h3 := hp3 q3 e
    obtain ⟨d1, d2, d3, d4, d5, d6, d7, d8, d9, d10⟩ := hD
    exact ⟨by omega, h3.2, ⟨d1, d2, d3, d4, d5, d6, fun o e2 => by have e3 : some L = some o := e2; cases e3; exact good_wf (w2 ⟨q3, e⟩) (by omega), d8, d9, d10⟩, by rw [List.length_append]; omega, rfl⟩
  · obtain ⟨r1, r2, r3, r4, r5, r6, r7, r8, r9⟩ := hR
    obtain ⟨i1, a1, a2, a3⟩ := C_st1 (h := h) (j := j) hX hT hnb hc
    obtain ⟨i2, b1, b2, b3⟩ := C_ex (h := h) (j := j) (A := A) (s := .inl (tkE b n q)) (kd := 58) hX hT hnb (by omega) (by omega) (by omega) (by omega) a1
    have u2 := (hcd.2 trivial).1
    obtain ⟨i3, j3, A3, f1, f2, f3, f4, f5, f6⟩ := cs2 h i2 (iup j 17 16) A C hX hT b1 (cd_t (cd_fr hcd (iup_n (by omega)) rfl) (fun _ => trivial)) hC1 (by rw [iup_s]; rfl)
    rw [e0] at f6
    obtain ⟨⟨u, u3, u4⟩, f2'⟩ := f2
    have g : ∀ k, k ≠ 2 → k ≠ 17 → j3 k = j k := fun k k1 k2 => by rw [f4 k (by simp [k1]), iup_n k2]
    refine ⟨i3, iup (iup j3 13 (C.length : Nat)) 14 (u : Nat), A3, f1, fun z => ?_, ⟨⟨u, by rw [iup_n (by omega), iup_n (by omega)]; exact u3, u4⟩, fun z => by rw [iup_n (by omega), iup_n (by omega)]; exact f2' z⟩, frI_t a2 (frI_t b2 f3), frA_w f5 (by decide), fun d Q hd => ?_⟩
    · obtain ⟨y1, y2, y3⟩ := f2' z
      have hu : (u : Int) = ((C ++ L).length : Int) := by rw [← u3]; exact y1
      refine ⟨?_, ?_, ?_, ?_, ?_, fun k hk => by rw [f5 15 (by decide), f5 16 (by decide)]; exact r6 k hk, fun p hp => by rw [f5 17 (by decide), f5 18 (by decide), f5 19 (by decide)]; exact r7 p hp, by rw [iup_n (by omega), iup_s, iup_s, hu]; exact lwC_new, by rw [iup_n (by omega), iup_n (by omega), iup_n (by omega), iup_n (by omega), g _ (by omega) (by omega), g _ (by omega) (by omega)]; exact lwC_app r9⟩
      all_goals rw [iup_n (by omega), iup_n (by omega), g _ (by omega) (by omega)]
      · exact r1
      · exact r2
      · exact r3
      · exact r4
      · exact r5
    · obtain ⟨d', rfl⟩ : ∃ d', d = d' + 1 := ⟨d - 1, by omega⟩
      simp (disch := omega) only [e_66_0, e_66_1, e_66_4, e_66_7, e_66_8, e_66_11, e_66_13, e_66_16, e_66_17, e_66_20, e_66_21, e_66_22, e_66_24, e_66_27, e_66_28, e_66_30, e_66_33, e_66_34, e_66_35, e_66_38, e_66_39, e_66_40, e_66_43, e_66_44, e_66_45, e_66_48, e_66_51, e_66_78, a3, b3, u2, f6, u3, true_and, tkO_c, tkO_g0, tkO_k0, tkO_g1, tkO_k1, tkO_g2, tkO_k2, tkO_g3, tkO_k3, tkO_g4, tkO_k4, tkO_g5, tkO_k5, tkO_g6, tkO_k6, tkO_g7, tkO_k7, tkO_g8, tkO_k8, tkO_s1, tkO_s2, tkO_s3, tkO_s4, tkO_s5, tkO_s6, tkO_s7, tkO_s8, rdO_c, rdO_g0, rdO_k0, rdO_g1, rdO_k1, rdO_g2, rdO_k2, rdO_g3, rdO_k3, rdO_g4, rdO_k4, rdO_g5, rdO_k5, rdO_g6, rdO_k6, rdO_g7, rdO_k7, rdO_g8, rdO_k8, rdO_g9, rdO_k9, rdO_g10, rdO_k10, rdO_g11, rdO_k11, rdO_g12, rdO_k12, rdO_g13, rdO_k13, rdO_g14, rdO_k14, rdO_g15, rdO_k15, rdO_g16, rdO_k16, rdO_g17, rdO_k17, rdO_s2, rdO_s3, rdO_s4, rdO_s10, rdO_s11, rdO_s12, rdO_s13, rdO_s14, rdO_s15, rdO_s16, rdO_s17, rh_1, rh_2, rh_g11, rh_g12, rh_g13, rh_g14, rh_g15, rh_g16, rh_g17, rh_g18, rh_g19, rh_out, rh_u11, rh_u12, rh_u13, rh_u14, rh_u15, rh_u16, rh_u17, rh_u18, rh_u19, iup_s, iup_n, aup_s, aup_n, ne_eq, not_false_eq_true, sh_0, sh_1, sh_2, sh_3, sh_4, sh_5, sh_8, sh_15, sh_16, sh_24, Int.reducePow, Int.cast_ofNat_Int, w_of, wl_of, ltT, ltF, leT, leF, eqT, eqF, okF_0, okF_s, gF_0, gF_s, consC_o, sF_0, sF_s, clsO_o, inA_i, ldA_i, stA_i, inJ_l, ldJ_l, stJ_l, inR_r, ldR_r, stR_r, tgR_r, lenA_i, lenA_l, lenA_r, lenA_ex, nl_i, nl_o, nl_l, nl_n, wd_n, wd_i, wd_l, wd_o, fit_i, fit_l, fit_o, K_v, K_n, true_and, and_true, Nat.reduceAdd, Nat.reduceLeDiff, Nat.reduceEqDiff, Nat.reduceMul, Nat.reduceLT, reduceIte, true_or, or_true, cmp_lt, cmp_gt, cmp_eq, wb_0, b_01, cmp_lt', cmp_gt', cmp_eq', b_0, b_1, wb_1, Int.reduceSub, Int.reduceToNat, List.getD_cons_succ, List.getD_cons_zero, Int.reduceLE, Int.reduceLT, Int.reduceEq, Int.reduceNeg, Int.reduceAdd, Int.reduceMul, and_self, em_b, ne_eq, not_false_eq_true, not_true_eq_false]
      try rfl
  · obtain ⟨r0, r1, r2, r3, r4, r5, r6, r7, r8, r9, r10, r11, r12⟩ := hR
    obtain ⟨i1, a1, a2, a3⟩ := R_nx1 (h := h) (A := A) hX hT hnb hr
    obtain ⟨i2, i2', b1, b2, b3, b4, b5⟩ := R_exB (h := h) (A := A) (kd := 58) hX hT hnb (by decide) a1
    rw [show rkK 58 = 31 from rfl] at b3
    have rfi : ∀ {i : Nat → Int} {s : TS}, rfT b n i s → rfT b n (iup i 15 0) s := fun {i s} hr => by
      match s, hr with
      | .inl q, ⟨y1, y2, y3, y4, y5, y6, y7⟩ => exact ⟨by rw [iup_n (by omega)]; exact y1, y2, by rw [iup_n (by omega)]; exact y3, by rw [iup_n (by omega)]; exact y4, by rw [iup_n (by omega)]; exact y5, by rw [iup_n (by omega)]; exact y6, fun z => by rw [iup_n (by omega)]; exact y7 z⟩
      | .inr (f, a), ⟨y1, y2, y3, y4⟩ => exact ⟨by rw [iup_n (by omega)]; exact y1, by rw [iup_n (by omega)]; exact y2, by rw [iup_n (by omega)]; exact y3, y4⟩
    obtain ⟨i3, A3, f1, f2, f3, f4, f5⟩ := rs2 h (iup i2' 15 0) A C C.length hX hT (rfi b1) (fun _ => ⟨Nat.le_refl _, r9, r10, fun k k1 k2 => by omega⟩) hC1 iup_s
    rw [e0] at f5
    have frr : frI [6, 7, 9, 10, 11, 12, 15] i i3 := frI_t (frI_w a2 (by decide)) (frI_t (frI_w b2 (by decide)) (frI_t (frI_u (by decide)) (frI_w f3 (by decide))))
    have sg1 : ∀ d Q, 60 ≤ d + 1 → WP (d + 1) 192 0 [some (vr 71), some (vi 0), none] [] (mdH h i A) Q = WP (d + 1) 192 18 [some (vr 71), some (vi 0), none] [] (mdH h i2' A) Q := fun d Q hd => by
      by_cases z : isB b n (.inl (tkE b n q)) 58 = true
      · rw [b4 z]
        rw [if_pos z] at b3
        simp (disch := omega) only [e_192_0, e_192_1, e_192_4, e_192_5, e_192_7, e_192_10, a3, b3, true_and, mdO_c, mdO_g0, mdO_k0, mdO_g1, mdO_k1, mdO_g2, mdO_k2, mdO_g3, mdO_k3, mdO_g4, mdO_k4, mdO_g5, mdO_k5, mdO_g6, mdO_k6, mdO_g7, mdO_k7, mdO_g8, mdO_k8, mdO_g9, mdO_k9, mdO_g10, mdO_k10, mdO_g11, mdO_k11, mdO_g12, mdO_k12, mdO_g13, mdO_k13, mdO_g14, mdO_k14, mdO_g15, mdO_k15, mdO_g16, mdO_k16, mdO_g17, mdO_k17, mdO_g18, mdO_k18, mdO_g19, mdO_k19, mdO_g20, mdO_k20, mdO_g21, mdO_k21, mdO_g22, mdO_k22, mdO_g23, mdO_k23, mdO_g24, mdO_k24, mdO_g25, mdO_k25, mdO_g26, mdO_k26, mdO_g27, mdO_k27, mdO_g28, mdO_k28, mdO_g29, mdO_k29, mdO_g30, mdO_k30, mdO_g31, mdO_k31, mdO_g32, mdO_k32, mdO_g33, mdO_k33, mdO_g34, mdO_k34, mdO_g35, mdO_k35, mdO_s0, mdO_s5, mdO_s6, mdO_s7, mdO_s8, mdO_s9, mdO_s10, mdO_s11, mdO_s12, mdO_s13, mdO_s14, mdO_s15, mdO_s19, mdO_s20, mdO_s25, mdO_s26, mdO_s31, mdO_s32, md_1, md_2, md_g71, md_g72, md_g73, md_g74, md_g75, md_g76, md_g77, md_g78, md_g79, md_g80, md_g81, md_g82, md_g83, md_g84, md_g85, md_g86, md_g87, md_g88, md_g89, md_out, md_u71, md_u72, md_u73, md_u74, md_u75, md_u76, md_u77, md_u78, md_u79, md_u80, md_u81, md_u82, md_u83, md_u84, md_u85, md_u86, md_u87, md_u88, md_u89, md_uo, iup_s, iup_n, aup_s, aup_n, ne_eq, not_false_eq_true, sh_0, sh_1, sh_2, sh_3, sh_4, sh_5, sh_8, sh_15, sh_16, sh_24, Int.reducePow, Int.cast_ofNat_Int, w_of, wl_of, ltT, ltF, leT, leF, eqT, eqF, okF_0, okF_s, gF_0, gF_s, consC_o, sF_0, sF_s, clsO_o, inA_i, ldA_i, stA_i, inJ_l, ldJ_l, stJ_l, inR_r, ldR_r, stR_r, tgR_r, lenA_i, lenA_l, lenA_r, lenA_ex, nl_i, nl_o, nl_l, nl_n, wd_n, wd_i, wd_l, wd_o, fit_i, fit_l, fit_o, K_v, K_n, true_and, and_true, Nat.reduceAdd, Nat.reduceLeDiff, Nat.reduceEqDiff, Nat.reduceMul, Nat.reduceLT, reduceIte, true_or, or_true, cmp_lt, cmp_gt, cmp_eq, wb_0, b_01, cmp_lt', cmp_gt', cmp_eq', b_0, b_1, wb_1, Int.reduceSub, Int.reduceToNat, List.getD_cons_succ, List.getD_cons_zero, Int.reduceLE, Int.reduceLT, Int.reduceEq, Int.reduceNeg, Int.reduceAdd, Int.reduceMul, and_self, em_b, ne_eq, not_false_eq_true, not_true_eq_false]
        try rfl
      · rw [if_neg z] at b3
        have b5' := b5 z
        simp (disch := omega) only [e_192_0, e_192_1, e_192_4, e_192_5, e_192_7, e_192_10, e_192_13, e_192_14, e_192_15, a3, b3, b5', true_and, mdO_c, mdO_g0, mdO_k0, mdO_g1, mdO_k1, mdO_g2, mdO_k2, mdO_g3, mdO_k3, mdO_g4, mdO_k4, mdO_g5, mdO_k5, mdO_g6, mdO_k6, mdO_g7, mdO_k7, mdO_g8, mdO_k8, mdO_g9, mdO_k9, mdO_g10, mdO_k10, mdO_g11, mdO_k11, mdO_g12, mdO_k12, mdO_g13, mdO_k13, mdO_g14, mdO_k14, mdO_g15, mdO_k15, mdO_g16, mdO_k16, mdO_g17, mdO_k17, mdO_g18, mdO_k18, mdO_g19, mdO_k19, mdO_g20, mdO_k20, mdO_g21, mdO_k21, mdO_g22, mdO_k22, mdO_g23, mdO_k23, mdO_g24, mdO_k24, mdO_g25, mdO_k25, mdO_g26, mdO_k26, mdO_g27, mdO_k27, mdO_g28, mdO_k28, mdO_g29, mdO_k29, mdO_g30, mdO_k30, mdO_g31, mdO_k31, mdO_g32, mdO_k32, mdO_g33, mdO_k33, mdO_g34, mdO_k34, mdO_g35, mdO_k35, mdO_s0, mdO_s5, mdO_s6, mdO_s7, mdO_s8, mdO_s9, mdO_s10, mdO_s11, mdO_s12, mdO_s13, mdO_s14, mdO_s15, mdO_s19, mdO_s20, mdO_s25, mdO_s26, mdO_s31, mdO_s32, md_1, md_2, md_g71, md_g72, md_g73, md_g74, md_g75, md_g76, md_g77, md_g78, md_g79, md_g80, md_g81, md_g82, md_g83, md_g84, md_g85, md_g86, md_g87, md_g88, md_g89, md_out, md_u71, md_u72, md_u73, md_u74, md_u75, md_u76, md_u77, md_u78, md_u79, md_u80, md_u81, md_u82, md_u83, md_u84, md_u85, md_u86, md_u87, md_u88, md_u89, md_uo, iup_s, iup_n, aup_s, aup_n, ne_eq, not_false_eq_true, sh_0, sh_1, sh_2, sh_3, sh_4, sh_5, sh_8, sh_15, sh_16, sh_24, Int.reducePow, Int.cast_ofNat_Int, w_of, wl_of, ltT, ltF, leT, leF, eqT, eqF, okF_0, okF_s, gF_0, gF_s, consC_o, sF_0, sF_s, clsO_o, inA_i, ldA_i, stA_i, inJ_l, ldJ_l, stJ_l, inR_r, ldR_r, stR_r, tgR_r, lenA_i, lenA_l, lenA_r, lenA_ex, nl_i, nl_o, nl_l, nl_n, wd_n, wd_i, wd_l, wd_o, fit_i, fit_l, fit_o, K_v, K_n, true_and, and_true, Nat.reduceAdd, Nat.reduceLeDiff, Nat.reduceEqDiff, Nat.reduceMul, Nat.reduceLT, reduceIte, true_or, or_true, cmp_lt, cmp_gt, cmp_eq, wb_0, b_01, cmp_lt', cmp_gt', cmp_eq', b_0, b_1, wb_1, Int.reduceSub, Int.reduceToNat, List.getD_cons_succ, List.getD_cons_zero, Int.reduceLE, Int.reduceLT, Int.reduceEq, Int.reduceNeg, Int.reduceAdd, Int.reduceMul, and_self, em_b, ne_eq, not_false_eq_true, not_true_eq_false]
        try rfl
    by_cases hal : alR s2
    · have c11 := (rf_wr f1).1 hal
      obtain ⟨m1, m2, m3, m4⟩ := f2 hal
      have lo : ∀ k : Int, k < 122 → A3 75 k = A 75 k := fun k hk => f4.2 k (Or.inl hk)
      have e7 : (((C ++ L).length : Nat) : Int) - (C.length : Int) = (L.length : Int) := by rw [List.length_append]; omega
      have hR' : ∀ y : Int, y ≠ 3 → y ≠ 5 → y ≠ 7 → fset (fset (fset (A3 75) 3 1) 5 (C.length : Nat)) 7 (L.length : Nat) y = A3 75 y := fun y y1 y2 y3 => by rw [fs_ne y3, fs_ne y2, fs_ne y1]
      refine ⟨i3, aup A3 75 (fset (fset (fset (A3 75) 3 1) 5 (C.length : Nat)) 7 (L.length : Nat)), f1, fun _ => ⟨?_, ?_, ?_, fun x hx => ?_, fun p hp => ?_, ?_, ?_, ?_, ?_, ?_, by rw [List.length_append] at m3 ⊢; exact m3, ⟨by rw [aup_s, fs_ne (by omega), fs_ne (by omega)]; exact fs_same, by rw [aup_s]; exact fs_same, C.length, by rw [aup_s, fs_ne (by omega)]; exact fs_same, by rw [List.length_append]; exact Nat.le_refl _, fun x hx => by
        rw [aup_s, hR' _ (by omega) (by omega) (by omega)]
        have := m4 (C.length + x) (by omega) (by rw [List.length_append]; omega)
        rw [show (((123 + (C.length + x) : Nat)) : Int) = 123 + (C.length : Int) + (x : Int) by omega] at this
        rw [this, List.getD_eq_getElem?_getD, List.getElem?_append_right (by omega), List.getD_eq_getElem?_getD, show C.length + x - C.length = x by omega]⟩, lwR_mono (by rw [List.length_append]; omega) (lwR_frl (by omega) (fun y hy => by rw [aup_s, hR' _ (by omega) (by omega) (by omega), f4.2 y (by omega)]) r12)⟩, frr, frA_t f4.1 (frA_u (by decide)), fun d Q hd => ?_⟩
      · rw [aup_s, hR' _ (by omega) (by omega) (by omega), lo _ (by omega)]; exact r0
      · rw [aup_s, hR' _ (by omega) (by omega) (by omega), lo _ (by omega)]; exact r1
      · rw [aup_s, hR' _ (by omega) (by omega) (by omega), lo _ (by omega)]; exact r2
      · rw [aup_s, hR' _ (by omega) (by omega) (by omega), lo _ (by omega), hR' _ (by omega) (by omega) (by omega), lo _ (by omega)]; exact r3 x hx
      · rw [aup_s, hR' _ (by omega) (by omega) (by omega), lo _ (by omega), hR' _ (by omega) (by omega) (by omega), lo _ (by omega), hR' _ (by omega) (by omega) (by omega), lo _ (by omega)]; exact r4 p hp
      · rw [aup_s, hR' _ (by omega) (by omega) (by omega), lo _ (by omega)]; exact r5
      · rw [aup_s, hR' _ (by omega) (by omega) (by omega), lo _ (by omega)]; exact r6
      · rw [aup_s, hR' _ (by omega) (by omega) (by omega), lo _ (by omega)]; exact r7
      · rw [aup_s, hR' _ (by omega) (by omega) (by omega), lo _ (by omega)]; exact r8
      · rw [aup_s, hR' _ (by omega) (by omega) (by omega)]; exact m2
      · obtain ⟨d', rfl⟩ : ∃ d', d = d' + 1 := ⟨d - 1, by omega⟩
        rw [sg1 d' Q hd]
        have m2' : fset (fset (A3 75) 3 1) 5 ((C.length : Nat) : Int) 122 = (((C ++ L).length : Nat) : Int) := by rw [fs_ne (by omega), fs_ne (by omega)]; exact m2
        simp (disch := omega) only [e_192_18, e_192_19, e_192_22, e_192_24, e_192_25, e_192_26, e_192_27, e_192_28, e_192_31, e_192_32, e_192_35, e_192_36, e_192_37, e_192_40, e_192_48, e_192_49, e_192_52, e_192_55, e_192_56, e_192_57, e_192_60, e_192_61, e_192_62, e_192_63, e_192_64, e_192_65, e_192_66, e_192_69, e_192_70, e_192_71, e_192_72, e_192_73, e_192_74, e_192_75, e_192_78, e_192_80, e_192_81, e_192_82, e_192_83, e_192_86, e_192_88, e_192_89, e_192_90, e_192_91, e_192_92, r9, f5, c11, m2', e7, aup_aup, true_and, mdO_c, mdO_g0, mdO_k0, mdO_g1, mdO_k1, mdO_g2, mdO_k2, mdO_g3, mdO_k3, mdO_g4, mdO_k4, mdO_g5, mdO_k5, mdO_g6, mdO_k6, mdO_g7, mdO_k7, mdO_g8, mdO_k8, mdO_g9, mdO_k9, mdO_g10, mdO_k10, mdO_g11, mdO_k11, mdO_g12, mdO_k12, mdO_g13, mdO_k13, mdO_g14, mdO_k14, mdO_g15, mdO_k15, mdO_g16, mdO_k16, mdO_g17, mdO_k17, mdO_g18, mdO_k18, mdO_g19, mdO_k19, mdO_g20, mdO_k20, mdO_g21, mdO_k21, mdO_g22, mdO_k22, mdO_g23, mdO_k23, mdO_g24, mdO_k24, mdO_g25, mdO_k25, mdO_g26, mdO_k26, mdO_g27, mdO_k27, mdO_g28, mdO_k28, mdO_g29, mdO_k29, mdO_g30, mdO_k30, mdO_g31, mdO_k31, mdO_g32, mdO_k32, mdO_g33, mdO_k33, mdO_g34, mdO_k34, mdO_g35, mdO_k35, mdO_s0, mdO_s5, mdO_s6, mdO_s7, mdO_s8, mdO_s9, mdO_s10, mdO_s11, mdO_s12, mdO_s13, mdO_s14, mdO_s15, mdO_s19, mdO_s20, mdO_s25, mdO_s26, mdO_s31, mdO_s32, md_1, md_2, md_g71, md_g72, md_g73, md_g74, md_g75, md_g76, md_g77, md_g78, md_g79, md_g80, md_g81, md_g82, md_g83, md_g84, md_g85, md_g86, md_g87, md_g88, md_g89, md_out, md_u71, md_u72, md_u73, md_u74, md_u75, md_u76, md_u77, md_u78, md_u79, md_u80, md_u81, md_u82, md_u83, md_u84, md_u85, md_u86, md_u87, md_u88, md_u89, md_uo, iup_s, iup_n, aup_s, aup_n, ne_eq, not_false_eq_true, sh_0, sh_1, sh_2, sh_3, sh_4, sh_5, sh_8, sh_15, sh_16, sh_24, Int.reducePow, Int.cast_ofNat_Int, w_of, wl_of, ltT, ltF, leT, leF, eqT, eqF, okF_0, okF_s, gF_0, gF_s, consC_o, sF_0, sF_s, clsO_o, inA_i, ldA_i, stA_i, inJ_l, ldJ_l, stJ_l, inR_r, ldR_r, stR_r, tgR_r, lenA_i, lenA_l, lenA_r, lenA_ex, nl_i, nl_o, nl_l, nl_n, wd_n, wd_i, wd_l, wd_o, fit_i, fit_l, fit_o, K_v, K_n, true_and, and_true, Nat.reduceAdd, Nat.reduceLeDiff, Nat.reduceEqDiff, Nat.reduceMul, Nat.reduceLT, reduceIte, true_or, or_true, cmp_lt, cmp_gt, cmp_eq, wb_0, b_01, cmp_lt', cmp_gt', cmp_eq', b_0, b_1, wb_1, Int.reduceSub, Int.reduceToNat, List.getD_cons_succ, List.getD_cons_zero, Int.reduceLE, Int.reduceLT, Int.reduceEq, Int.reduceNeg, Int.reduceAdd, Int.reduceMul, and_self, em_b, ne_eq, not_false_eq_true, not_true_eq_false]
        try rfl
    · obtain ⟨c11, c12⟩ := (rf_wr f1).2 hal
      refine ⟨i3, A3, f1, fun z => absurd z hal, frr, f4.1, fun d Q hd => ?_⟩
      obtain ⟨d', rfl⟩ : ∃ d', d = d' + 1 := ⟨d - 1, by omega⟩
      rw [sg1 d' Q hd]
      simp (disch := omega) only [e_192_18, e_192_19, e_192_22, e_192_24, e_192_25, e_192_26, e_192_27, e_192_28, e_192_31, e_192_32, e_192_35, e_192_36, e_192_37, e_192_40, e_192_48, e_192_49, e_192_52, e_192_55, r9, f5, true_and, mdO_c, mdO_g0, mdO_k0, mdO_g1, mdO_k1, mdO_g2, mdO_k2, mdO_g3, mdO_k3, mdO_g4, mdO_k4, mdO_g5, mdO_k5, mdO_g6, mdO_k6, mdO_g7, mdO_k7, mdO_g8, mdO_k8, mdO_g9, mdO_k9, mdO_g10, mdO_k10, mdO_g11, mdO_k11, mdO_g12, mdO_k12, mdO_g13, mdO_k13, mdO_g14, mdO_k14, mdO_g15, mdO_k15, mdO_g16, mdO_k16, mdO_g17, mdO_k17, mdO_g18, mdO_k18, mdO_g19, mdO_k19, mdO_g20, mdO_k20, mdO_g21, mdO_k21, mdO_g22, mdO_k22, mdO_g23, mdO_k23, mdO_g24, mdO_k24, mdO_g25, mdO_k25, mdO_g26, mdO_k26, mdO_g27, mdO_k27, mdO_g28, mdO_k28, mdO_g29, mdO_k29, mdO_g30, mdO_k30, mdO_g31, mdO_k31, mdO_g32, mdO_k32, mdO_g33, mdO_k33, mdO_g34, mdO_k34, mdO_g35, mdO_k35, mdO_s0, mdO_s5, mdO_s6, mdO_s7, mdO_s8, mdO_s9, mdO_s10, mdO_s11, mdO_s12, mdO_s13, mdO_s14, mdO_s15, mdO_s19, mdO_s20, mdO_s25, mdO_s26, mdO_s31, mdO_s32, md_1, md_2, md_g71, md_g72, md_g73, md_g74, md_g75, md_g76, md_g77, md_g78, md_g79, md_g80, md_g81, md_g82, md_g83, md_g84, md_g85, md_g86, md_g87, md_g88, md_g89, md_out, md_u71, md_u72, md_u73, md_u74, md_u75, md_u76, md_u77, md_u78, md_u79, md_u80, md_u81, md_u82, md_u83, md_u84, md_u85, md_u86, md_u87, md_u88, md_u89, md_uo, iup_s, iup_n, aup_s, aup_n, ne_eq, not_false_eq_true, sh_0, sh_1, sh_2, sh_3, sh_4, sh_5, sh_8, sh_15, sh_16, sh_24, Int.reducePow, Int.cast_ofNat_Int, w_of, wl_of, ltT, ltF, leT, leF, eqT, eqF, okF_0, okF_s, gF_0, gF_s, consC_o, sF_0, sF_s, clsO_o, inA_i, ldA_i, stA_i, inJ_l, ldJ_l, stJ_l, inR_r, ldR_r, stR_r, tgR_r, lenA_i, lenA_l, lenA_r, lenA_ex, nl_i, nl_o, nl_l, nl_n, wd_n, wd_i, wd_l, wd_o, fit_i, fit_l, fit_o, K_v, K_n, true_and, and_true, Nat.reduceAdd, Nat.reduceLeDiff, Nat.reduceEqDiff, Nat.reduceMul, Nat.reduceLT, reduceIte, true_or, or_true, cmp_lt, cmp_gt, cmp_eq, wb_0, b_01, cmp_lt', cmp_gt', cmp_eq', b_0, b_1, wb_1, Int.reduceSub, Int.reduceToNat, List.getD_cons_succ, List.getD_cons_zero, Int.reduceLE, Int.reduceLT, Int.reduceEq, Int.reduceNeg, Int.reduceAdd, Int.reduceMul, and_self, em_b, ne_eq, not_false_eq_true, not_true_eq_false]
      try rfl
theorem LN_may (hnb : n ≤ b.length) (hb9 : b.length ≤ 900) (hqn : q ≤ n) (hk : tkK b n q = 11) (hD : okD c) (hC : C.length ≤ q) : ∃ s' c' C', LNp n q c s' c' C' ∧ LNc b n 60 66 0 [some (vi 11), none] q c C s' c' C' ∧ LNf b n 60 192 0 [some (vi 1), none] q c C s' c' C' := by
  have hlt := tkE_lt hqn (show tkK b n q ≠ 32 by omega)
  have hle := (tkE_le (b := b) hqn).2
  have h33 : tkK b n q ≠ 33 := by omega
  have ok1 : okq n (.inl (tkE b n q)) := fun z e => by cases e; exact hle
  have pe := ex_prg (b := b) (kd := 58) (by omega) ok1
  have JJ := J_all (b := b) (n := n) (l := 1) hnb hb9 (by omega) 6 0 (by omega)
  obtain ⟨s2, L, p2, w2, cs2, rs2⟩ := JJ.2.2.2 (exS b n 58 (.inl (tkE b n q))) (prg_ok pe)
  have p3 := prg_t pe p2
  rw [List.nil_append] at p3
  have hp3 : ∀ q3, s2 = .inl q3 → tkE b n q + L.length ≤ q3 ∧ q3 ≤ n := fun q3 e => by
    obtain ⟨z, e1, e2, e3⟩ := p3.1 q3 e
    cases e1
    exact ⟨e2, e3⟩
  have hC1 : ∀ z, exS b n 58 (.inl (tkE b n q)) = .inl z → C.length ≤ z := fun z e => by
    obtain ⟨y, e1, e2, e3⟩ := pe.1 z e
    have e2' : y + 0 ≤ z := e2
    cases e1
    omega
  have e0 : ((0 : Nat) : Int) = 0 := rfl
  refine ⟨s2, kMa c L, C ++ L, fun q3 e => ?_, fun h i j A hX hT hc hR hcd => ?_, fun h i A hX hT hr hR => ?_⟩
  · have h3 := hp3 q3 e
    obtain ⟨d1, d2, d3, d4, d5, d6, d7, d8, d9, d10⟩ := hD
    exact ⟨by omega, h3.2, ⟨d1, d2, d3, d4, d5, d6, d7, fun o e2 => by have e3 : some L = some o := e2; cases e3; exact good_wf (w2 ⟨q3, e⟩) (by omega), d9, d10⟩, by rw [List.length_append]; omega, rfl⟩
  · obtain ⟨r1, r2, r3, r4, r5, r6, r7, r8, r9⟩ := hR
    obtain ⟨i1, a1, a2, a3⟩ := C_st1 (h := h) (j := j) hX hT hnb hc
    obtain ⟨i2, b1, b2, b3⟩ := C_ex (h := h) (j := j) (A := A) (s := .inl (tkE b n q)) (kd := 58) hX hT hnb (by omega) (by omega) (by omega) (by omega) a1
    have u2 := (hcd.2 trivial).1
    obtain ⟨i3, j3, A3, f1, f2, f3, f4, f5, f6⟩ := cs2 h i2 (iup j 17 17) A C hX hT b1 (cd_t (cd_fr hcd (iup_n (by omega)) rfl) (fun _ => trivial)) hC1 (by rw [iup_s]; rfl)
    rw [e0] at f6
    obtain ⟨⟨u, u3, u4⟩, f2'⟩ := f2
    have g : ∀ k, k ≠ 2 → k ≠ 17 → j3 k = j k := fun k k1 k2 => by rw [f4 k (by simp [k1]), iup_n k2]
    refine ⟨i3, iup (iup j3 15 (C.length : Nat)) 16 (u : Nat), A3, f1, fun z => ?_, ⟨⟨u, by rw [iup_n (by omega), iup_n (by omega)]; exact u3, u4⟩, fun z => by rw [iup_n (by omega), iup_n (by omega)]; exact f2' z⟩, frI_t a2 (frI_t b2 f3), frA_w f5 (by decide), fun d Q hd => ?_⟩
    · obtain ⟨y1, y2, y3⟩ := f2' z
      have hu : (u : Int) = ((C ++ L).length : Int) := by rw [← u3]; exact y1
      refine ⟨?_, ?_, ?_, ?_, ?_, fun k hk => by rw [f5 15 (by decide), f5 16 (by decide)]; exact r6 k hk, fun p hp => by rw [f5 17 (by decide), f5 18 (by decide), f5 19 (by decide)]; exact r7 p hp, by rw [iup_n (by omega), iup_n (by omega), iup_n (by omega), iup_n (by omega), g _ (by omega) (by omega), g _ (by omega) (by omega)]; exact lwC_app r8, by rw [iup_n (by omega), iup_s, iup_s, hu]; exact lwC_new⟩
      all_goals rw [iup_n (by omega), iup_n (by omega), g _ (by omega) (by omega)]
      · exact r1
      · exact r2
      · exact r3
      · exact r4
      · exact r5
    · obtain ⟨d', rfl⟩ : ∃ d', d = d' + 1 := ⟨d - 1, by omega⟩
      simp (disch := omega) only [e_66_0, e_66_1, e_66_4, e_66_7, e_66_8, e_66_11, e_66_13, e_66_16, e_66_17, e_66_20, e_66_21, e_66_22, e_66_24, e_66_54, e_66_55, e_66_57, e_66_60, e_66_61, e_66_62, e_66_65, e_66_66, e_66_67, e_66_70, e_66_71, e_66_72, e_66_75, e_66_78, a3, b3, u2, f6, u3, true_and, tkO_c, tkO_g0, tkO_k0, tkO_g1, tkO_k1, tkO_g2, tkO_k2, tkO_g3, tkO_k3, tkO_g4, tkO_k4, tkO_g5, tkO_k5, tkO_g6, tkO_k6, tkO_g7, tkO_k7, tkO_g8, tkO_k8, tkO_s1, tkO_s2, tkO_s3, tkO_s4, tkO_s5, tkO_s6, tkO_s7, tkO_s8, rdO_c, rdO_g0, rdO_k0, rdO_g1, rdO_k1, rdO_g2, rdO_k2, rdO_g3, rdO_k3, rdO_g4, rdO_k4, rdO_g5, rdO_k5, rdO_g6, rdO_k6, rdO_g7, rdO_k7, rdO_g8, rdO_k8, rdO_g9, rdO_k9, rdO_g10, rdO_k10, rdO_g11, rdO_k11, rdO_g12, rdO_k12, rdO_g13, rdO_k13, rdO_g14, rdO_k14, rdO_g15, rdO_k15, rdO_g16, rdO_k16, rdO_g17, rdO_k17, rdO_s2, rdO_s3, rdO_s4, rdO_s10, rdO_s11, rdO_s12, rdO_s13, rdO_s14, rdO_s15, rdO_s16, rdO_s17, rh_1, rh_2, rh_g11, rh_g12, rh_g13, rh_g14, rh_g15, rh_g16, rh_g17, rh_g18, rh_g19, rh_out, rh_u11, rh_u12, rh_u13, rh_u14, rh_u15, rh_u16, rh_u17, rh_u18, rh_u19, iup_s, iup_n, aup_s, aup_n, ne_eq, not_false_eq_true, sh_0, sh_1, sh_2, sh_3, sh_4, sh_5, sh_8, sh_15, sh_16, sh_24, Int.reducePow, Int.cast_ofNat_Int, w_of, wl_of, ltT, ltF, leT, leF, eqT, eqF, okF_0, okF_s, gF_0, gF_s, consC_o, sF_0, sF_s, clsO_o, inA_i, ldA_i, stA_i, inJ_l, ldJ_l, stJ_l, inR_r, ldR_r, stR_r, tgR_r, lenA_i, lenA_l, lenA_r, lenA_ex, nl_i, nl_o, nl_l, nl_n, wd_n, wd_i, wd_l, wd_o, fit_i, fit_l, fit_o, K_v, K_n, true_and, and_true, Nat.reduceAdd, Nat.reduceLeDiff, Nat.reduceEqDiff, Nat.reduceMul, Nat.reduceLT, reduceIte, true_or, or_true, cmp_lt, cmp_gt, cmp_eq, wb_0, b_01, cmp_lt', cmp_gt', cmp_eq', b_0, b_1, wb_1, Int.reduceSub, Int.reduceToNat, List.getD_cons_succ, List.getD_cons_zero, Int.reduceLE, Int.reduceLT, Int.reduceEq, Int.reduceNeg, Int.reduceAdd, Int.reduceMul, and_self, em_b, ne_eq, not_false_eq_true, not_true_eq_false]
      try rfl
  · obtain ⟨r0, r1, r2, r3, r4, r5, r6, r7, r8, r9, r10, r11, r12⟩ := hR
    obtain ⟨i1, a1, a2, a3⟩ := R_nx1 (h := h) (A := A) hX hT hnb hr
    obtain ⟨i2, i2', b1, b2, b3, b4, b5⟩ := R_exB (h := h) (A := A) (kd := 58) hX hT hnb (by decide) a1
    rw [show rkK 58 = 31 from rfl] at b3
    have rfi : ∀ {i : Nat → Int} {s : TS}, rfT b n i s → rfT b n (iup i 15 1) s := fun {i s} hr => by
      match s, hr with
      | .inl q, ⟨y1, y2, y3, y4, y5, y6, y7⟩ => exact ⟨by rw [iup_n (by omega)]; exact y1, y2, by rw [iup_n (by omega)]; exact y3, by rw [iup_n (by omega)]; exact y4, by rw [iup_n (by omega)]; exact y5, by rw [iup_n (by omega)]; exact y6, fun z => by rw [iup_n (by omega)]; exact y7 z⟩
      | .inr (f, a), ⟨y1, y2, y3, y4⟩ => exact ⟨by rw [iup_n (by omega)]; exact y1, by rw [iup_n (by omega)]; exact y2, by rw [iup_n (by omega)]; exact y3, y4⟩
    obtain ⟨i3, A3, f1, f2, f3, f4, f5⟩ := rs2 h (iup i2' 15 1) A C C.length hX hT (rfi b1) (fun _ => ⟨Nat.le_refl _, r9, r10, fun k k1 k2 => by omega⟩) hC1 iup_s
    rw [e0] at f5
    have frr : frI [6, 7, 9, 10, 11, 12, 15] i i3 := frI_t (frI_w a2 (by decide)) (frI_t (frI_w b2 (by decide)) (frI_t (frI_u (by decide)) (frI_w f3 (by decide))))
    have sg1 : ∀ d Q, 60 ≤ d + 1 → WP (d + 1) 192 0 [some (vr 71), some (vi 1), none] [] (mdH h i A) Q = WP (d + 1) 192 18 [some (vr 71), some (vi 1), none] [] (mdH h i2' A) Q := fun d Q hd => by
      by_cases z : isB b n (.inl (tkE b n q)) 58 = true
      · rw [b4 z]
        rw [if_pos z] at b3
        simp (disch := omega) only [e_192_0, e_192_1, e_192_4, e_192_5, e_192_7, e_192_10, a3, b3, true_and, mdO_c, mdO_g0, mdO_k0, mdO_g1, mdO_k1, mdO_g2, mdO_k2, mdO_g3, mdO_k3, mdO_g4, mdO_k4, mdO_g5, mdO_k5, mdO_g6, mdO_k6, mdO_g7, mdO_k7, mdO_g8, mdO_k8, mdO_g9, mdO_k9, mdO_g10, mdO_k10, mdO_g11, mdO_k11, mdO_g12, mdO_k12, mdO_g13, mdO_k13, mdO_g14, mdO_k14, mdO_g15, mdO_k15, mdO_g16, mdO_k16, mdO_g17, mdO_k17, mdO_g18, mdO_k18, mdO_g19, mdO_k19, mdO_g20, mdO_k20, mdO_g21, mdO_k21, mdO_g22, mdO_k22, mdO_g23, mdO_k23, mdO_g24, mdO_k24, mdO_g25, mdO_k25, mdO_g26, mdO_k26, mdO_g27, mdO_k27, mdO_g28, mdO_k28, mdO_g29, mdO_k29, mdO_g30, mdO_k30, mdO_g31, mdO_k31, mdO_g32, mdO_k32, mdO_g33, mdO_k33, mdO_g34, mdO_k34, mdO_g35, mdO_k35, mdO_s0, mdO_s5, mdO_s6, mdO_s7, mdO_s8, mdO_s9, mdO_s10, mdO_s11, mdO_s12, mdO_s13, mdO_s14, mdO_s15, mdO_s19, mdO_s20, mdO_s25, mdO_s26, mdO_s31, mdO_s32, md_1, md_2, md_g71, md_g72, md_g73, md_g74, md_g75, md_g76, md_g77, md_g78, md_g79, md_g80, md_g81, md_g82, md_g83, md_g84, md_g85, md_g86, md_g87, md_g88, md_g89, md_out, md_u71, md_u72, md_u73, md_u74, md_u75, md_u76, md_u77, md_u78, md_u79, md_u80, md_u81, md_u82, md_u83, md_u84, md_u85, md_u86, md_u87, md_u88, md_u89, md_uo, iup_s, iup_n, aup_s, aup_n, ne_eq, not_false_eq_true, sh_0, sh_1, sh_2, sh_3, sh_4, sh_5, sh_8, sh_15, sh_16, sh_24, Int.reducePow, Int.cast_ofNat_Int, w_of, wl_of, ltT, ltF, leT, leF, eqT, eqF, okF_0, okF_s, gF_0, gF_s, consC_o, sF_0, sF_s, clsO_o, inA_i, ldA_i, stA_i, inJ_l, ldJ_l, stJ_l, inR_r, ldR_r, stR_r, tgR_r, lenA_i, lenA_l, lenA_r, lenA_ex, nl_i, nl_o, nl_l, nl_n, wd_n, wd_i, wd_l, wd_o, fit_i, fit_l, fit_o, K_v, K_n, true_and, and_true, Nat.reduceAdd, Nat.reduceLeDiff, Nat.reduceEqDiff, Nat.reduceMul, Nat.reduceLT, reduceIte, true_or, or_true, cmp_lt, cmp_gt, cmp_eq, wb_0, b_01, cmp_lt', cmp_gt', cmp_eq', b_0, b_1, wb_1, Int.reduceSub, Int.reduceToNat, List.getD_cons_succ, List.getD_cons_zero, Int.reduceLE, Int.reduceLT, Int.reduceEq, Int.reduceNeg, Int.reduceAdd, Int.reduceMul, and_self, em_b, ne_eq, not_false_eq_true, not_true_eq_false]
        try rfl
      · rw [if_neg z] at b3
        have b5' := b5 z
        simp (disch := omega) only [e_192_0, e_192_1, e_192_4, e_192_5, e_192_7, e_192_10, e_192_13, e_192_14, e_192_15, a3, b3, b5', true_and, mdO_c, mdO_g0, mdO_k0, mdO_g1, mdO_k1, mdO_g2, mdO_k2, mdO_g3, mdO_k3, mdO_g4, mdO_k4, mdO_g5, mdO_k5, mdO_g6, mdO_k6, mdO_g7, mdO_k7, mdO_g8, mdO_k8, mdO_g9, mdO_k9, mdO_g10, mdO_k10, mdO_g11, mdO_k11, mdO_g12, mdO_k12, mdO_g13, mdO_k13, mdO_g14, mdO_k14, mdO_g15, mdO_k15, mdO_g16, mdO_k16, mdO_g17, mdO_k17, mdO_g18, mdO_k18, mdO_g19, mdO_k19, mdO_g20, mdO_k20, mdO_g21, mdO_k21, mdO_g22, mdO_k22, mdO_g23, mdO_k23, mdO_g24, mdO_k24, mdO_g25, mdO_k25, mdO_g26, mdO_k26, mdO_g27, mdO_k27, mdO_g28, mdO_k28, mdO_g29, mdO_k29, mdO_g30, mdO_k30, mdO_g31, mdO_k31, mdO_g32, mdO_k32, mdO_g33, mdO_k33, mdO_g34, mdO_k34, mdO_g35, mdO_k35, mdO_s0, mdO_s5, mdO_s6, mdO_s7, mdO_s8, mdO_s9, mdO_s10, mdO_s11, mdO_s12, mdO_s13, mdO_s14, mdO_s15, mdO_s19, mdO_s20, mdO_s25, mdO_s26, mdO_s31, mdO_s32, md_1, md_2, md_g71, md_g72, md_g73, md_g74, md_g75, md_g76, md_g77, md_g78, md_g79, md_g80, md_g81, md_g82, md_g83, md_g84, md_g85, md_g86, md_g87, md_g88, md_g89, md_out, md_u71, md_u72, md_u73, md_u74, md_u75, md_u76, md_u77, md_u78, md_u79, md_u80, md_u81, md_u82, md_u83, md_u84, md_u85, md_u86, md_u87, md_u88, md_u89, md_uo, iup_s, iup_n, aup_s, aup_n, ne_eq, not_false_eq_true, sh_0, sh_1, sh_2, sh_3, sh_4, sh_5, sh_8, sh_15, sh_16, sh_24, Int.reducePow, Int.cast_ofNat_Int, w_of, wl_of, ltT, ltF, leT, leF, eqT, eqF, okF_0, okF_s, gF_0, gF_s, consC_o, sF_0, sF_s, clsO_o, inA_i, ldA_i, stA_i, inJ_l, ldJ_l, stJ_l, inR_r, ldR_r, stR_r, tgR_r, lenA_i, lenA_l, lenA_r, lenA_ex, nl_i, nl_o, nl_l, nl_n, wd_n, wd_i, wd_l, wd_o, fit_i, fit_l, fit_o, K_v, K_n, true_and, and_true, Nat.reduceAdd, Nat.reduceLeDiff, Nat.reduceEqDiff, Nat.reduceMul, Nat.reduceLT, reduceIte, true_or, or_true, cmp_lt, cmp_gt, cmp_eq, wb_0, b_01, cmp_lt', cmp_gt', cmp_eq', b_0, b_1, wb_1, Int.reduceSub, Int.reduceToNat, List.getD_cons_succ, List.getD_cons_zero, Int.reduceLE, Int.reduceLT, Int.reduceEq, Int.reduceNeg, Int.reduceAdd, Int.reduceMul, and_self, em_b, ne_eq, not_false_eq_true, not_true_eq_false]
        try rfl
    by_cases hal : alR s2
    · have c11 := (rf_wr f1).1 hal
      obtain ⟨m1, m2, m3, m4⟩ := f2 hal
      have lo : ∀ k : Int, k < 122 → A3 75 k = A 75 k := fun k hk => f4.2 k (Or.inl hk)
      have e7 : (((C ++ L).length : Nat) : Int) - (C.length : Int) = (L.length : Int) := by rw [List.length_append]; omega
      have hR' : ∀ y : Int, y ≠ 4 → y ≠ 6 → y ≠ 8 → fset (fset (fset (A3 75) 4 1) 6 (C.length : Nat)) 8 (L.length : Nat) y = A3 75 y := fun y y1 y2 y3 => by rw [fs_ne y3, fs_ne y2, fs_ne y1]
      refine ⟨i3, aup A3 75 (fset (fset (fset (A3 75) 4 1) 6 (C.length : Nat)) 8 (L.length : Nat)), f1, fun _ => ⟨?_, ?_, ?_, fun x hx => ?_, fun p hp => ?_, ?_, ?_, ?_, ?_, ?_, by rw [List.length_append] at m3 ⊢; exact m3, lwR_mono (by rw [List.length_append]; omega) (lwR_frl (by omega) (fun y hy => by rw [aup_s, hR' _ (by omega) (by omega) (by omega), f4.2 y (by omega)]) r11), ⟨by rw [aup_s, fs_ne (by omega), fs_ne (by omega)]; exact fs_same, by rw [aup_s]; exact fs_same, C.length, by rw [aup_s, fs_ne (by omega)]; exact fs_same, by rw [List.length_append]; exact Nat.le_refl _, fun x hx => by
        rw [aup_s, hR' _ (by omega) (by omega) (by omega)]
        have := m4 (C.length + x) (by omega) (by rw [List.length_append]; omega)
        rw [show (((123 + (C.length + x) : Nat)) : Int) = 123 + (C.length : Int) + (x : Int) by omega] at this
        rw [this, List.getD_eq_getElem?_getD, List.getElem?_append_right (by omega), List.getD_eq_getElem?_getD, show C.length + x - C.length = x by omega]⟩⟩, frr, frA_t f4.1 (frA_u (by decide)), fun d Q hd => ?_⟩
      · rw [aup_s, hR' _ (by omega) (by omega) (by omega), lo _ (by omega)]; exact r0
      · rw [aup_s, hR' _ (by omega) (by omega) (by omega), lo _ (by omega)]; exact r1
      · rw [aup_s, hR' _ (by omega) (by omega) (by omega), lo _ (by omega)]; exact r2
      · rw [aup_s, hR' _ (by omega) (by omega) (by omega), lo _ (by omega), hR' _ (by omega) (by omega) (by omega), lo _ (by omega)]; exact r3 x hx
      · rw [aup_s, hR' _ (by omega) (by omega) (by omega), lo _ (by omega), hR' _ (by omega) (by omega) (by omega), lo _ (by omega), hR' _ (by omega) (by omega) (by omega), lo _ (by omega)]; exact r4 p hp
      · rw [aup_s, hR' _ (by omega) (by omega) (by omega), lo _ (by omega)]; exact r5
      · rw [aup_s, hR' _ (by omega) (by omega) (by omega), lo _ (by omega)]; exact r6
      · rw [aup_s, hR' _ (by omega) (by omega) (by omega), lo _ (by omega)]; exact r7
      · rw [aup_s, hR' _ (by omega) (by omega) (by omega), lo _ (by omega)]; exact r8
      · rw [aup_s, hR' _ (by omega) (by omega) (by omega)]; exact m2
      · obtain ⟨d', rfl⟩ : ∃ d', d = d' + 1 := ⟨d - 1, by omega⟩
        rw [sg1 d' Q hd]
        have m2' : fset (fset (A3 75) 4 1) 6 ((C.length : Nat) : Int) 122 = (((C ++ L).length : Nat) : Int) := by rw [fs_ne (by omega), fs_ne (by omega)]; exact m2
        simp (disch := omega) only [e_192_18, e_192_19, e_192_22, e_192_24, e_192_25, e_192_26, e_192_27, e_192_28, e_192_31, e_192_32, e_192_43, e_192_44, e_192_45, e_192_48, e_192_49, e_192_52, e_192_55, e_192_56, e_192_57, e_192_60, e_192_61, e_192_62, e_192_63, e_192_64, e_192_65, e_192_66, e_192_69, e_192_70, e_192_71, e_192_72, e_192_73, e_192_74, e_192_75, e_192_78, e_192_80, e_192_81, e_192_82, e_192_83, e_192_86, e_192_88, e_192_89, e_192_90, e_192_91, e_192_92, r9, f5, c11, m2', e7, aup_aup, true_and, mdO_c, mdO_g0, mdO_k0, mdO_g1, mdO_k1, mdO_g2, mdO_k2, mdO_g3, mdO_k3, mdO_g4, mdO_k4, mdO_g5, mdO_k5, mdO_g6, mdO_k6, mdO_g7, mdO_k7, mdO_g8, mdO_k8, mdO_g9, mdO_k9, mdO_g10, mdO_k10, mdO_g11, mdO_k11, mdO_g12, mdO_k12, mdO_g13, mdO_k13, mdO_g14, mdO_k14, mdO_g15, mdO_k15, mdO_g16, mdO_k16, mdO_g17, mdO_k17, mdO_g18, mdO_k18, mdO_g19, mdO_k19, mdO_g20, mdO_k20, mdO_g21, mdO_k21, mdO_g22, mdO_k22, mdO_g23, mdO_k23, mdO_g24, mdO_k24, mdO_g25, mdO_k25, mdO_g26, mdO_k26, mdO_g27, mdO_k27, mdO_g28, mdO_k28, mdO_g29, mdO_k29, mdO_g30, mdO_k30, mdO_g31, mdO_k31, mdO_g32, mdO_k32, mdO_g33, mdO_k33, mdO_g34, mdO_k34, mdO_g35, mdO_k35, mdO_s0, mdO_s5, mdO_s6, mdO_s7, mdO_s8, mdO_s9, mdO_s10, mdO_s11, mdO_s12, mdO_s13, mdO_s14, mdO_s15, mdO_s19, mdO_s20, mdO_s25, mdO_s26, mdO_s31, mdO_s32, md_1, md_2, md_g71, md_g72, md_g73, md_g74, md_g75, md_g76, md_g77, md_g78, md_g79, md_g80, md_g81, md_g82, md_g83, md_g84, md_g85, md_g86, md_g87, md_g88, md_g89, md_out, md_u71, md_u72, md_u73, md_u74, md_u75, md_u76, md_u77, md_u78, md_u79, md_u80, md_u81, md_u82, md_u83, md_u84, md_u85, md_u86, md_u87, md_u88, md_u89, md_uo, iup_s, iup_n, aup_s, aup_n, ne_eq, not_false_eq_true, sh_0, sh_1, sh_2, sh_3, sh_4, sh_5, sh_8, sh_15, sh_16, sh_24, Int.reducePow, Int.cast_ofNat_Int, w_of, wl_of, ltT, ltF, leT, leF, eqT, eqF, okF_0, okF_s, gF_0, gF_s, consC_o, sF_0, sF_s, clsO_o, inA_i, ldA_i, stA_i, inJ_l, ldJ_l, stJ_l, inR_r, ldR_r, stR_r, tgR_r, lenA_i, lenA_l, lenA_r, lenA_ex, nl_i, nl_o, nl_l, nl_n, wd_n, wd_i, wd_l, wd_o, fit_i, fit_l, fit_o, K_v, K_n, true_and, and_true, Nat.reduceAdd, Nat.reduceLeDiff, Nat.reduceEqDiff, Nat.reduceMul, Nat.reduceLT, reduceIte, true_or, or_true, cmp_lt, cmp_gt, cmp_eq, wb_0, b_01, cmp_lt', cmp_gt', cmp_eq', b_0, b_1, wb_1, Int.reduceSub, Int.reduceToNat, List.getD_cons_succ, List.getD_cons_zero, Int.reduceLE, Int.reduceLT, Int.reduceEq, Int.reduceNeg, Int.reduceAdd, Int.reduceMul, and_self, em_b, ne_eq, not_false_eq_true, not_true_eq_false]
        try rfl
    · obtain ⟨c11, c12⟩ := (rf_wr f1).2 hal
      refine ⟨i3, A3, f1, fun z => absurd z hal, frr, f4.1, fun d Q hd => ?_⟩
      obtain ⟨d', rfl⟩ : ∃ d', d = d' + 1 := ⟨d - 1, by omega⟩
      rw [sg1 d' Q hd]
      simp (disch := omega) only [e_192_18, e_192_19, e_192_22, e_192_24, e_192_25, e_192_26, e_192_27, e_192_28, e_192_31, e_192_32, e_192_43, e_192_44, e_192_45, e_192_48, e_192_49, e_192_52, e_192_55, r9, f5, true_and, mdO_c, mdO_g0, mdO_k0, mdO_g1, mdO_k1, mdO_g2, mdO_k2, mdO_g3, mdO_k3, mdO_g4, mdO_k4, mdO_g5, mdO_k5, mdO_g6, mdO_k6, mdO_g7, mdO_k7, mdO_g8, mdO_k8, mdO_g9, mdO_k9, mdO_g10, mdO_k10, mdO_g11, mdO_k11, mdO_g12, mdO_k12, mdO_g13, mdO_k13, mdO_g14, mdO_k14, mdO_g15, mdO_k15, mdO_g16, mdO_k16, mdO_g17, mdO_k17, mdO_g18, mdO_k18, mdO_g19, mdO_k19, mdO_g20, mdO_k20, mdO_g21, mdO_k21, mdO_g22, mdO_k22, mdO_g23, mdO_k23, mdO_g24, mdO_k24, mdO_g25, mdO_k25, mdO_g26, mdO_k26, mdO_g27, mdO_k27, mdO_g28, mdO_k28, mdO_g29, mdO_k29, mdO_g30, mdO_k30, mdO_g31, mdO_k31, mdO_g32, mdO_k32, mdO_g33, mdO_k33, mdO_g34, mdO_k34, mdO_g35, mdO_k35, mdO_s0, mdO_s5, mdO_s6, mdO_s7, mdO_s8, mdO_s9, mdO_s10, mdO_s11, mdO_s12, mdO_s13, mdO_s14, mdO_s15, mdO_s19, mdO_s20, mdO_s25, mdO_s26, mdO_s31, mdO_s32, md_1, md_2, md_g71, md_g72, md_g73, md_g74, md_g75, md_g76, md_g77, md_g78, md_g79, md_g80, md_g81, md_g82, md_g83, md_g84, md_g85, md_g86, md_g87, md_g88, md_g89, md_out, md_u71, md_u72, md_u73, md_u74, md_u75, md_u76, md_u77, md_u78, md_u79, md_u80, md_u81, md_u82, md_u83, md_u84, md_u85, md_u86, md_u87, md_u88, md_u89, md_uo, iup_s, iup_n, aup_s, aup_n, ne_eq, not_false_eq_true, sh_0, sh_1, sh_2, sh_3, sh_4, sh_5, sh_8, sh_15, sh_16, sh_24, Int.reducePow, Int.cast_ofNat_Int, w_of, wl_of, ltT, ltF, leT, leF, eqT, eqF, okF_0, okF_s, gF_0, gF_s, consC_o, sF_0, sF_s, clsO_o, inA_i, ldA_i, stA_i, inJ_l, ldJ_l, stJ_l, inR_r, ldR_r, stR_r, tgR_r, lenA_i, lenA_l, lenA_r, lenA_ex, nl_i, nl_o, nl_l, nl_n, wd_n, wd_i, wd_l, wd_o, fit_i, fit_l, fit_o, K_v, K_n, true_and, and_true, Nat.reduceAdd, Nat.reduceLeDiff, Nat.reduceEqDiff, Nat.reduceMul, Nat.reduceLT, reduceIte, true_or, or_true, cmp_lt, cmp_gt, cmp_eq, wb_0, b_01, cmp_lt', cmp_gt', cmp_eq', b_0, b_1, wb_1, Int.reduceSub, Int.reduceToNat, List.getD_cons_succ, List.getD_cons_zero, Int.reduceLE, Int.reduceLT, Int.reduceEq, Int.reduceNeg, Int.reduceAdd, Int.reduceMul, and_self, em_b, ne_eq, not_false_eq_true, not_true_eq_false]
      try rfl
end ln
