theorem enc_tired {c : KC} {sky : Nat} {s : ST} {g : Nat} : encC c (tiredS c sky s g) = (s.1 * kPw c + encP (kP c) (kN c) s.2.1) * 4 ^ kN c + encP 4 (kN c) (fun p => tireV c sky p (s.2.2 p) (bearN s p) (s.2.1 p) (if p = g then 1 else 0)) := by
  unfold encC tiredS
  dsimp only
  congr 1
  exact encP_congr (fun i hi => if_pos hi)
theorem enc_to0 {c : KC} {sky : Nat} {s : ST} (hK : okK c) : encC c (toM c sky s 0) = (s.1 * kPw c + encP (kP c) (kN c) s.2.1) * 4 ^ kN c + encP 4 (kN c) (calmF c sky s) := by
  have hN := hK.2.2
  unfold toM
  rw [enc_tired]
  show (s.1 * kPw c + encP (kP c) (kN c) s.2.1) * 4 ^ kN c + _ = _
  congr 1
  refine encP_congr (fun i hi => ?_)
  show tireV c sky i (s.2.2 i) (bearN s i) (s.2.1 i) (if i = 9 then 1 else 0) = _
  rw [if_neg (by omega)]
  rfl
theorem enc_toH {c : KC} {sky : Nat} {s : ST} {q : Nat} (hK : okK c) (hb : s.1 ≠ q) (hq3 : q < 3) : encC c (toM c sky s (1 + q)) = (q * kPw c + encP (kP c) (kN c) s.2.1) * 4 ^ kN c + encP 4 (kN c) (fup (fup (calmF c sky s) s.1 (tireV c sky s.1 (s.2.2 s.1) 0 (s.2.1 s.1) 0)) q (tireV c sky q (s.2.2 q) 1 (s.2.1 q) 0)) := by
  have hN := hK.2.2
  unfold toM
  rw [enc_tired]
  have e : baseM s (1 + q) = (q, s.2.1, s.2.2) := by
    unfold baseM
    rw [if_neg (by omega), if_pos (by omega), show 1 + q - 1 = q by omega]
  have e2 : goerM (1 + q) = 9 := by unfold goerM; rw [if_pos (by omega)]
  rw [e, e2]
  dsimp only
  congr 1
  refine encP_congr (fun i hi => ?_)
  rw [if_neg (by omega)]
  by_cases q1 : i = q
  · subst q1; rw [fup_self]; unfold bearN; rw [if_pos rfl]
  · rw [fup_ne q1]
    by_cases q2 : i = s.1
    · subst q2; rw [fup_self]; unfold bearN; rw [if_neg q1]
    · rw [fup_ne q2]; unfold calmF bearN; rw [if_neg q1, if_neg q2]
theorem enc_toG {c : KC} {sky : Nat} {s : ST} {p to : Nat} (hK : okK c) (hto : to < 5) : encC c (toM c sky s (4 + 5 * p + to)) = (s.1 * kPw c + encP (kP c) (kN c) (fup s.2.1 p to)) * 4 ^ kN c + encP 4 (kN c) (fup (calmF c sky s) p (tireV c sky p (s.2.2 p) (bearN s p) to 1)) := by
  have hN := hK.2.2
  unfold toM
  rw [enc_tired]
  have e : baseM s (4 + 5 * p + to) = (s.1, fup s.2.1 p to, s.2.2) := by
    unfold baseM
    rw [if_neg (by omega), if_neg (by omega), show (4 + 5 * p + to - 4) / 5 = p by omega, show (4 + 5 * p + to - 4) % 5 = to by omega]
  have e2 : goerM (4 + 5 * p + to) = p := by unfold goerM; rw [if_neg (by omega)]; omega
  rw [e, e2]
  dsimp only
  congr 1
  refine encP_congr (fun i hi => ?_)
  by_cases q1 : i = p
  · subst q1; rw [fup_self, if_pos rfl, fup_self]; rfl
  · rw [fup_ne q1, if_neg q1, fup_ne q1]; rfl
theorem canM_0 {c : KC} {sky : Nat} {s : ST} (hd : downB c s = false) : canM c sky s 0 = true := by
  unfold canM whyM; rw [isMv_0, hd]; rfl
theorem canM_h {c : KC} {sky : Nat} {s : ST} {q : Nat} (hd : downB c s = false) (hq : q < kN c) (hq3 : q < 3) : canM c sky s (1 + q) = (decide (q ≠ s.1) && decide (s.2.1 q = s.2.1 s.1) && decide (0 < s.2.2 q)) := by
  unfold canM whyM
  rw [isMv_h (by omega) (by omega), hd, show 1 + q - 1 = q by omega, decide_eq_true hq, if_neg (by simp), if_neg (by omega), if_pos (by omega)]
  by_cases h1 : q = s.1
  · simp [h1]
  · by_cases h2 : s.2.1 q = s.2.1 s.1
    · by_cases h3 : s.2.2 q = 0
      · simp [h1, h2, h3]
      · have : 0 < s.2.2 q := by omega
        simp [h1, h2, h3, this]
    · simp [h1, h2]
theorem canM_g {c : KC} {sky : Nat} {s : ST} {p to : Nat} (hd : downB c s = false) (hp : p < kN c) (ht : to < kP c) (h5 : to < 5) : canM c sky s (4 + 5 * p + to) = (wayB c (s.2.1 p) to && mayV c sky p (s.2.2 p) (bearN s p) (s.2.1 p) to) := by
  unfold canM whyM
  rw [isMv_g h5, hd, show (4 + 5 * p + to - 4) / 5 = p by omega, show (4 + 5 * p + to - 4) % 5 = to by omega, decide_eq_true hp, decide_eq_true ht, if_neg (by simp), if_neg (by omega), if_neg (by omega)]
  by_cases h1 : wayB c (s.2.1 p) to = true
  · by_cases h2 : mayV c sky p (s.2.2 p) (bearN s p) (s.2.1 p) to = true
    · simp [h1, h2]
    · simp [h1, h2]
  · simp [h1]
theorem sp_lp2 {ca : Nat} {h : PH} {c : KC} {sky e : Nat} {s : ST} {i : Nat → Int} (hO : okC c) (hca : outH ca) (hC : CtyAt h ca c) (hs : okS c s) (hd : downB c s = false) :
    ∀ r q A l7 l8 l9, q + r = kN c → hoOK c sky e i A → lsOK c (nxTo c sky s (1 + q)) A → ∃ B l7' l8' l9', hoOK c sky e i B ∧ lsOK c (nxTo c sky s 4) B ∧ ∀ d Q, WP (d + 8) 40 135 [some (vr 27), some (vi (encC c s)), some (vi s.1), some (vi (encP (kP c) (kN c) s.2.1)), some (vi (encP 8 (kN c) s.2.1)), some (vi (encP 4 (kN c) (calmF c sky s))), some (vi q), l7, l8, l9, none, none, none] [] (hoH h ca (iup i 9 ((nxTo c sky s (1 + q)).length : Nat)) A) Q = WP (d + 8) 40 264 [some (vr 27), some (vi (encC c s)), some (vi s.1), some (vi (encP (kP c) (kN c) s.2.1)), some (vi (encP 8 (kN c) s.2.1)), some (vi (encP 4 (kN c) (calmF c sky s))), some (vi (kN c)), l7', l8', l9', none, none, none] [] (hoH h ca (iup i 9 ((nxTo c sky s 4).length : Nat)) B) Q := by
  have hK := hO.1
  have hN := hK.2.2
  have hC' := hC
  obtain ⟨tf, tt, mf, mt, n, fh, fw, fa, fc, fg, fp, hA, -⟩ := hC
  have o0 : ∀ i A, hp (hoH h ca i A) ca = hp h ca := fun i A => ho_out (by unfold outH at hca; omega)
  obtain ⟨b1, b2, b3, b4, b5, b6⟩ := okS_bounds hs hK.2.2 hK.2.1 hK.1
  obtain ⟨e8, d8⟩ := encP8_lt hK (fun i hi => (hs.1 i hi).1)
  have hP := hK.2.1
  have hN0 : kN c ≠ 0 := fun z => by unfold downB at hd; rw [decide_eq_true z] at hd; simp at hd
  have hbn := bear_lt hs hN0
  obtain ⟨hb1, hb2⟩ := hs.1 s.1 hbn
  intro r
  induction r with
  | zero =>
    intro q A l7 l8 l9 hq hI hL
    have : q = kN c := by omega
    subst this
    refine ⟨A, l7, l8, l9, hI, by rw [nxTo_hands hK]; exact hL, fun d Q => ?_⟩
    rw [nxTo_hands hK]
    rw [e_40_135]
    simp (disch := omega) only [e_40_137, e_40_138, e_40_141, e_40_144, o0, hA, hoO_c, hoO_g0, hoO_k0, hoO_g1, hoO_k1, hoO_g2, hoO_k2, hoO_g3, hoO_k3, hoO_g4, hoO_k4, hoO_g5, hoO_k5, hoO_g6, hoO_k6, hoO_g7, hoO_k7, hoO_g8, hoO_k8, hoO_g9, hoO_k9, hoO_s0, hoO_s1, hoO_s2, hoO_s9, ho_1, ho_2, ho_g27, ho_g28, ho_g29, ho_g30, ho_g31, ho_g32, ho_g33, ho_out, ho_u27, ho_u28, ho_u29, ho_u30, ho_u31, ho_u32, ho_u33, ho_uo, iup_s, iup_n, aup_s, aup_n, ne_eq, not_false_eq_true, sh_0, sh_1, sh_2, sh_3, sh_4, sh_5, sh_8, sh_15, sh_16, sh_24, Int.reducePow, Int.cast_ofNat_Int, w_of, wl_of, ltT, ltF, leT, leF, eqT, eqF, okF_0, okF_s, gF_0, gF_s, consC_o, sF_0, sF_s, clsO_o, inA_i, ldA_i, stA_i, inJ_l, ldJ_l, stJ_l, inR_r, ldR_r, stR_r, tgR_r, lenA_i, lenA_l, lenA_r, lenA_ex, nl_i, nl_o, nl_l, nl_n, wd_n, wd_i, wd_l, wd_o, fit_i, fit_l, fit_o, K_v, K_n, true_and, and_true, Nat.reduceAdd, Nat.reduceLeDiff, Nat.reduceEqDiff, Nat.reduceMul, Nat.reduceLT, reduceIte, true_or, or_true, cmp_lt, cmp_gt, cmp_eq, wb_0, b_01, cmp_lt', cmp_gt', cmp_eq', b_0, b_1, wb_1, Int.reduceSub, Int.reduceToNat, List.getD_cons_succ, List.getD_cons_zero, Int.reduceLE, Int.reduceLT, Int.reduceEq, Int.reduceNeg, Int.reduceAdd, Int.reduceMul, and_self]
  | succ r ih =>
    intro q A l7 l8 l9 hq hI hL
    have hqn : q < kN c := by omega
    obtain ⟨hq1, hq2⟩ := hs.1 q hqn
    have es := e_str hK hs hqn
    have ep := e_pl hK hs hqn
    have esb := e_str hK hs hbn
    have epb := e_pl hK hs hbn
    have hcan := canM_h (sky := sky) hd hqn (by omega)
    have hlen := nxTo_len (sky := sky) (m := 1 + q) hO hs (by omega)
    by_cases c1 : q = s.1
    · have hno := nxTo_no (c := c) (sky := sky) (s := s) (m := 1 + q) (by rw [hcan]; simp [c1])
      obtain ⟨B, m7, m8, m9, hB, hLB, hih⟩ := ih (q + 1) A (some (vi (s.2.1 q))) (some (vi (s.2.2 q))) l9 (by omega) hI (by rw [show 1 + (q + 1) = 1 + q + 1 by omega, hno]; exact hL)
      refine ⟨B, m7, m8, m9, hB, hLB, fun d Q => ?_⟩
      rw [← hih d Q, show 1 + (q + 1) = 1 + q + 1 by omega, hno]
      rw [e_40_135]
      simp (disch := omega) only [e_40_137, e_40_138, e_40_141, e_40_144, e_40_147, e_40_149, e_40_150, e_40_152, e_40_153, e_40_154, e_40_156, e_40_157, e_40_159, e_40_160, e_40_161, e_40_163, e_40_164, e_40_165, e_40_166, e_40_167, e_40_169, e_40_171, e_40_172, e_40_258, e_40_261, o0, hA, es, ep, hoO_c, hoO_g0, hoO_k0, hoO_g1, hoO_k1, hoO_g2, hoO_k2, hoO_g3, hoO_k3, hoO_g4, hoO_k4, hoO_g5, hoO_k5, hoO_g6, hoO_k6, hoO_g7, hoO_k7, hoO_g8, hoO_k8, hoO_g9, hoO_k9, hoO_s0, hoO_s1, hoO_s2, hoO_s9, ho_1, ho_2, ho_g27, ho_g28, ho_g29, ho_g30, ho_g31, ho_g32, ho_g33, ho_out, ho_u27, ho_u28, ho_u29, ho_u30, ho_u31, ho_u32, ho_u33, ho_uo, iup_s, iup_n, aup_s, aup_n, ne_eq, not_false_eq_true, sh_0, sh_1, sh_2, sh_3, sh_4, sh_5, sh_8, sh_15, sh_16, sh_24, Int.reducePow, Int.cast_ofNat_Int, w_of, wl_of, ltT, ltF, leT, leF, eqT, eqF, okF_0, okF_s, gF_0, gF_s, consC_o, sF_0, sF_s, clsO_o, inA_i, ldA_i, stA_i, inJ_l, ldJ_l, stJ_l, inR_r, ldR_r, stR_r, tgR_r, lenA_i, lenA_l, lenA_r, lenA_ex, nl_i, nl_o, nl_l, nl_n, wd_n, wd_i, wd_l, wd_o, fit_i, fit_l, fit_o, K_v, K_n, true_and, and_true, Nat.reduceAdd, Nat.reduceLeDiff, Nat.reduceEqDiff, Nat.reduceMul, Nat.reduceLT, reduceIte, true_or, or_true, cmp_lt, cmp_gt, cmp_eq, wb_0, b_01, cmp_lt', cmp_gt', cmp_eq', b_0, b_1, wb_1, Int.reduceSub, Int.reduceToNat, List.getD_cons_succ, List.getD_cons_zero, Int.reduceLE, Int.reduceLT, Int.reduceEq, Int.reduceNeg, Int.reduceAdd, Int.reduceMul, and_self]
      rfl
    · by_cases c2 : s.2.1 q = s.2.1 s.1
      · by_cases c3 : s.2.2 q = 0
        · have hno := nxTo_no (c := c) (sky := sky) (s := s) (m := 1 + q) (by rw [hcan]; simp [c3])
          obtain ⟨B, m7, m8, m9, hB, hLB, hih⟩ := ih (q + 1) A (some (vi (s.2.1 q))) (some (vi (s.2.2 q))) l9 (by omega) hI (by rw [show 1 + (q + 1) = 1 + q + 1 by omega, hno]; exact hL)
          refine ⟨B, m7, m8, m9, hB, hLB, fun d Q => ?_⟩
          rw [← hih d Q, show 1 + (q + 1) = 1 + q + 1 by omega, hno]
          rw [e_40_135]
          simp (disch := omega) only [e_40_137, e_40_138, e_40_141, e_40_144, e_40_147, e_40_149, e_40_150, e_40_152, e_40_153, e_40_154, e_40_156, e_40_157, e_40_159, e_40_160, e_40_161, e_40_163, e_40_164, e_40_165, e_40_166, e_40_167, e_40_169, e_40_171, e_40_172, e_40_175, e_40_177, e_40_179, e_40_180, e_40_181, e_40_182, e_40_183, e_40_185, e_40_186, e_40_189, e_40_191, e_40_258, e_40_261, o0, hA, es, ep, epb, hoO_c, hoO_g0, hoO_k0, hoO_g1, hoO_k1, hoO_g2, hoO_k2, hoO_g3, hoO_k3, hoO_g4, hoO_k4, hoO_g5, hoO_k5, hoO_g6, hoO_k6, hoO_g7, hoO_k7, hoO_g8, hoO_k8, hoO_g9, hoO_k9, hoO_s0, hoO_s1, hoO_s2, hoO_s9, ho_1, ho_2, ho_g27, ho_g28, ho_g29, ho_g30, ho_g31, ho_g32, ho_g33, ho_out, ho_u27, ho_u28, ho_u29, ho_u30, ho_u31, ho_u32, ho_u33, ho_uo, iup_s, iup_n, aup_s, aup_n, ne_eq, not_false_eq_true, sh_0, sh_1, sh_2, sh_3, sh_4, sh_5, sh_8, sh_15, sh_16, sh_24, Int.reducePow, Int.cast_ofNat_Int, w_of, wl_of, ltT, ltF, leT, leF, eqT, eqF, okF_0, okF_s, gF_0, gF_s, consC_o, sF_0, sF_s, clsO_o, inA_i, ldA_i, stA_i, inJ_l, ldJ_l, stJ_l, inR_r, ldR_r, stR_r, tgR_r, lenA_i, lenA_l, lenA_r, lenA_ex, nl_i, nl_o, nl_l, nl_n, wd_n, wd_i, wd_l, wd_o, fit_i, fit_l, fit_o, K_v, K_n, true_and, and_true, Nat.reduceAdd, Nat.reduceLeDiff, Nat.reduceEqDiff, Nat.reduceMul, Nat.reduceLT, reduceIte, true_or, or_true, cmp_lt, cmp_gt, cmp_eq, wb_0, b_01, cmp_lt', cmp_gt', cmp_eq', b_0, b_1, wb_1, Int.reduceSub, Int.reduceToNat, List.getD_cons_succ, List.getD_cons_zero, Int.reduceLE, Int.reduceLT, Int.reduceEq, Int.reduceNeg, Int.reduceAdd, Int.reduceMul, and_self]
          rfl
        · have hyes := nxTo_yes (c := c) (sky := sky) (s := s) (m := 1 + q) (by rw [hcan]; have : 0 < s.2.2 q := by omega
                                                                                simp [c1, c2, this])
          have hI9 : hoOK c sky e (iup i 9 ((nxTo c sky s (1 + q)).length : Nat)) A := hoOK_i hI
          obtain ⟨B1, hB1, k1, k2, hg1⟩ := h_tire' (ip := (s.1 : Int)) (is := (s.2.2 s.1 : Int)) (ib := 0) (ik := (s.2.1 q : Int)) (ig := 0) hO hca hC' hI9 hbn hb2 (show 0 < 2 by omega) (show s.2.1 s.1 < 5 by omega) (show 0 < 2 by omega) rfl rfl rfl (by rw [c2]) rfl
          obtain ⟨B2, hB2, k3, k4, hg2⟩ := h_tire' (ip := (q : Int)) (is := (s.2.2 q : Int)) (ib := 1) (ik := (s.2.1 q : Int)) (ig := 0) hO hca hC' hB1 hqn hq2 (show 1 < 2 by omega) (show s.2.1 q < 5 by omega) (show 0 < 2 by omega) rfl rfl rfl rfl rfl
          have hw1 := fun (d : Nat) (h : PH) (Q : PQ) => j_with (d := d) (a := 27) (h := h) (Q := Q) (f := calmF c sky s) (p := s.1) (v := tireV c sky s.1 (s.2.2 s.1) 0 (s.2.1 s.1) 0) hN (fun i _ => tireV_lt) hbn tireV_lt
          have hf2 : ∀ i, i < kN c → fup (calmF c sky s) s.1 (tireV c sky s.1 (s.2.2 s.1) 0 (s.2.1 s.1) 0) i < 4 := fun i _ => by unfold fup; split <;> exact tireV_lt
          have hw2 := fun (d : Nat) (h : PH) (Q : PQ) => j_with (d := d) (a := 27) (h := h) (Q := Q) (f := fup (calmF c sky s) s.1 (tireV c sky s.1 (s.2.2 s.1) 0 (s.2.1 s.1) 0)) (p := q) (v := tireV c sky q (s.2.2 q) 1 (s.2.1 q) 0) hN hf2 hqn tireV_lt
          have hf3 : ∀ i, i < kN c → fup (fup (calmF c sky s) s.1 (tireV c sky s.1 (s.2.2 s.1) 0 (s.2.1 s.1) 0)) q (tireV c sky q (s.2.2 q) 1 (s.2.1 q) 0) i < 4 := fun i hi => by
            by_cases z : i = q
            · rw [z, fup_self]; exact tireV_lt
            · rw [fup_ne z]; exact hf2 i hi
          have hst := fun (d : Nat) (i : Nat → Int) (A : Nat → Int → Int) (Q : PQ) => c_stand (d := d) (Q := Q) hK (CtyAt_ho (cb := ca) (i := i) (A := A) hca hC') (b := q) (by omega) b1 (encP_lt (B := 4) hf3)
          rw [← enc_toH hK (Ne.symm c1) (by omega)] at hst
          have hadd := fun (d : Nat) (B : Nat → Int → Int) (deed stand : Int) (Q : PQ) => j_add (d := d) (ca := ca) (h := h) (Q := Q) (i := i) (A := B) (deed := deed) (stand := stand) (n := (nxTo c sky s (1 + q)).length) (by omega)
          have hI2 : hoOK c sky e i B2 := by
            have := hoOK_i (n := i 9) hB2
            rw [iup_iup, iup_id] at this
            exact this
          have hLn : lsOK c (nxTo c sky s (1 + q + 1)) (aup (aup B2 32 (fset (B2 32) ((nxTo c sky s (1 + q)).length : Nat) ((deedM (1 + q) : Nat) : Int))) 33 (fset (B2 33) ((nxTo c sky s (1 + q)).length : Nat) (encC c (toM c sky s (1 + q))))) := by
            rw [hyes]
            exact lsOK_add (lsOK_x hL (by rw [k3, k1]) (by rw [k4, k2]))
          obtain ⟨B, m7, m8, m9, hB, hLB, hih⟩ := ih (q + 1) (aup (aup B2 32 (fset (B2 32) ((nxTo c sky s (1 + q)).length : Nat) ((deedM (1 + q) : Nat) : Int))) 33 (fset (B2 33) ((nxTo c sky s (1 + q)).length : Nat) (encC c (toM c sky s (1 + q))))) (some (vi (s.2.1 q))) (some (vi (s.2.2 q))) (some (vi (encP 4 (kN c) (fup (calmF c sky s) s.1 (tireV c sky s.1 (s.2.2 s.1) 0 (s.2.1 s.1) 0))))) (by omega) (hoOK_x hI2 (by rw [aup_n (by omega), aup_n (by omega)]) (by rw [aup_n (by omega), aup_n (by omega)])) (by rw [show 1 + (q + 1) = 1 + q + 1 by omega]; exact hLn)
          refine ⟨B, m7, m8, m9, hB, hLB, fun d Q => ?_⟩
          have hle : (nxTo c sky s (1 + (q + 1))).length = (nxTo c sky s (1 + q)).length + 1 := by rw [show 1 + (q + 1) = 1 + q + 1 by omega, hyes, List.length_append]; rfl
          have hdd : (10 : Int) + (q : Int) = ((deedM (1 + q) : Nat) : Int) := by unfold deedM; rw [if_neg (by omega), if_pos (by omega)]; omega
          rw [← hih d Q, hle]
          rw [e_40_135]
          simp (disch := omega) only [e_40_137, e_40_138, e_40_141, e_40_144, e_40_147, e_40_149, e_40_150, e_40_152, e_40_153, e_40_154, e_40_156, e_40_157, e_40_159, e_40_160, e_40_161, e_40_163, e_40_164, e_40_165, e_40_166, e_40_167, e_40_169, e_40_171, e_40_172, e_40_175, e_40_177, e_40_179, e_40_180, e_40_181, e_40_182, e_40_183, e_40_185, e_40_186, e_40_189, e_40_191, e_40_194, e_40_195, e_40_197, e_40_198, e_40_199, e_40_200, e_40_201, e_40_202, e_40_203, e_40_204, e_40_205, e_40_206, e_40_207, e_40_208, e_40_210, e_40_211, e_40_214, e_40_217, e_40_219, e_40_220, e_40_222, e_40_224, e_40_225, e_40_226, e_40_229, e_40_231, e_40_232, e_40_233, e_40_235, e_40_237, e_40_238, e_40_240, e_40_242, e_40_243, e_40_245, e_40_246, e_40_249, e_40_252, e_40_255, e_40_258, e_40_261, o0, hA, es, ep, esb, epb, hg1, hg2, hw1, hw2, hst, hadd, hdd, hoO_c, hoO_g0, hoO_k0, hoO_g1, hoO_k1, hoO_g2, hoO_k2, hoO_g3, hoO_k3, hoO_g4, hoO_k4, hoO_g5, hoO_k5, hoO_g6, hoO_k6, hoO_g7, hoO_k7, hoO_g8, hoO_k8, hoO_g9, hoO_k9, hoO_s0, hoO_s1, hoO_s2, hoO_s9, ho_1, ho_2, ho_g27, ho_g28, ho_g29, ho_g30, ho_g31, ho_g32, ho_g33, ho_out, ho_u27, ho_u28, ho_u29, ho_u30, ho_u31, ho_u32, ho_u33, ho_uo, iup_s, iup_n, aup_s, aup_n, ne_eq, not_false_eq_true, sh_0, sh_1, sh_2, sh_3, sh_4, sh_5, sh_8, sh_15, sh_16, sh_24, Int.reducePow, Int.cast_ofNat_Int, w_of, wl_of, ltT, ltF, leT, leF, eqT, eqF, okF_0, okF_s, gF_0, gF_s, consC_o, sF_0, sF_s, clsO_o, inA_i, ldA_i, stA_i, inJ_l, ldJ_l, stJ_l, inR_r, ldR_r, stR_r, tgR_r, lenA_i, lenA_l, lenA_r, lenA_ex, nl_i, nl_o, nl_l, nl_n, wd_n, wd_i, wd_l, wd_o, fit_i, fit_l, fit_o, K_v, K_n, true_and, and_true, Nat.reduceAdd, Nat.reduceLeDiff, Nat.reduceEqDiff, Nat.reduceMul, Nat.reduceLT, reduceIte, true_or, or_true, cmp_lt, cmp_gt, cmp_eq, wb_0, b_01, cmp_lt', cmp_gt', cmp_eq', b_0, b_1, wb_1, Int.reduceSub, Int.reduceToNat, List.getD_cons_succ, List.getD_cons_zero, Int.reduceLE, Int.reduceLT, Int.reduceEq, Int.reduceNeg, Int.reduceAdd, Int.reduceMul, and_self]
          rfl
      · have hno := nxTo_no (c := c) (sky := sky) (s := s) (m := 1 + q) (by rw [hcan]; simp [c2])
        obtain ⟨B, m7, m8, m9, hB, hLB, hih⟩ := ih (q + 1) A (some (vi (s.2.1 q))) (some (vi (s.2.2 q))) l9 (by omega) hI (by rw [show 1 + (q + 1) = 1 + q + 1 by omega, hno]; exact hL)
        refine ⟨B, m7, m8, m9, hB, hLB, fun d Q => ?_⟩
        rw [← hih d Q, show 1 + (q + 1) = 1 + q + 1 by omega, hno]
        rw [e_40_135]
        simp (disch := omega) only [e_40_137, e_40_138, e_40_141, e_40_144, e_40_147, e_40_149, e_40_150, e_40_152, e_40_153, e_40_154, e_40_156, e_40_157, e_40_159, e_40_160, e_40_161, e_40_163, e_40_164, e_40_165, e_40_166, e_40_167, e_40_169, e_40_171, e_40_172, e_40_175, e_40_177, e_40_179, e_40_180, e_40_181, e_40_182, e_40_183, e_40_185, e_40_186, e_40_258, e_40_261, o0, hA, es, ep, epb, hoO_c, hoO_g0, hoO_k0, hoO_g1, hoO_k1, hoO_g2, hoO_k2, hoO_g3, hoO_k3, hoO_g4, hoO_k4, hoO_g5, hoO_k5, hoO_g6, hoO_k6, hoO_g7, hoO_k7, hoO_g8, hoO_k8, hoO_g9, hoO_k9, hoO_s0, hoO_s1, hoO_s2, hoO_s9, ho_1, ho_2, ho_g27, ho_g28, ho_g29, ho_g30, ho_g31, ho_g32, ho_g33, ho_out, ho_u27, ho_u28, ho_u29, ho_u30, ho_u31, ho_u32, ho_u33, ho_uo, iup_s, iup_n, aup_s, aup_n, ne_eq, not_false_eq_true, sh_0, sh_1, sh_2, sh_3, sh_4, sh_5, sh_8, sh_15, sh_16, sh_24, Int.reducePow, Int.cast_ofNat_Int, w_of, wl_of, ltT, ltF, leT, leF, eqT, eqF, okF_0, okF_s, gF_0, gF_s, consC_o, sF_0, sF_s, clsO_o, inA_i, ldA_i, stA_i, inJ_l, ldJ_l, stJ_l, inR_r, ldR_r, stR_r, tgR_r, lenA_i, lenA_l, lenA_r, lenA_ex, nl_i, nl_o, nl_l, nl_n, wd_n, wd_i, wd_l, wd_o, fit_i, fit_l, fit_o, K_v, K_n, true_and, and_true, Nat.reduceAdd, Nat.reduceLeDiff, Nat.reduceEqDiff, Nat.reduceMul, Nat.reduceLT, reduceIte, true_or, or_true, cmp_lt, cmp_gt, cmp_eq, wb_0, b_01, cmp_lt', cmp_gt', cmp_eq', b_0, b_1, wb_1, Int.reduceSub, Int.reduceToNat, List.getD_cons_succ, List.getD_cons_zero, Int.reduceLE, Int.reduceLT, Int.reduceEq, Int.reduceNeg, Int.reduceAdd, Int.reduceMul, and_self]
        rfl
