theorem e_way {c : KC} (hO : okC c) {a b : Nat} (hb : b < 5) : iand ((kWay c a : Int) / 2 ^ sh (b : Int)) 1 = if wayB c a b = true then 1 else 0 := by
  have hw := hO.2.2.2.1 a
  have := shr_nat (a := kWay c a) (k := b) (by omega) (by omega)
  rw [w_nat (by omega)] at this
  rw [this, iand_1, castM2]
  unfold wayB
  by_cases q : kWay c a / 2 ^ b % 2 = 1
  · rw [q]; simp
  · rw [show kWay c a / 2 ^ b % 2 = 0 by omega]; simp
theorem sp_lp4 {ca : Nat} {h : PH} {c : KC} {sky e : Nat} {s : ST} {i : Nat → Int} {p : Nat} {ib : Int} (hO : okC c) (hca : outH ca) (hC : CtyAt h ca c) (hs : okS c s) (hd : downB c s = false) (hpn : p < kN c) (hib : ib = (bearN s p : Int)) :
    ∀ r to A l11 l12, to + r = kP c → hoOK c sky e i A → lsOK c (nxTo c sky s (4 + 5 * p + to)) A → ∃ B l11' l12', hoOK c sky e i B ∧ lsOK c (nxTo c sky s (4 + 5 * (p + 1))) B ∧ ∀ d Q, WP (d + 8) 40 317 [some (vr 27), some (vi (encC c s)), some (vi s.1), some (vi (encP (kP c) (kN c) s.2.1)), some (vi (encP 8 (kN c) s.2.1)), some (vi (encP 4 (kN c) (calmF c sky s))), some (vi p), some (vi (s.2.1 p)), some (vi (s.2.2 p)), some (vi ib), some (vi to), l11, l12] [] (hoH h ca (iup i 9 ((nxTo c sky s (4 + 5 * p + to)).length : Nat)) A) Q = WP (d + 8) 40 441 [some (vr 27), some (vi (encC c s)), some (vi s.1), some (vi (encP (kP c) (kN c) s.2.1)), some (vi (encP 8 (kN c) s.2.1)), some (vi (encP 4 (kN c) (calmF c sky s))), some (vi p), some (vi (s.2.1 p)), some (vi (s.2.2 p)), some (vi ib), some (vi (kP c)), l11', l12'] [] (hoH h ca (iup i 9 ((nxTo c sky s (4 + 5 * (p + 1))).length : Nat)) B) Q := by
  have hK := hO.1
  have hN := hK.2.2
  have hP := hK.2.1
  have hC' := hC
  obtain ⟨tf, tt, mf, mt, n, fh, fw, fa, fc, fg, fp, hA, h1, h2, h3, h4, h5, h6, hh, hw, ha, hwg, -⟩ := hC
  have o0 : ∀ i A, hp (hoH h ca i A) ca = hp h ca := fun i A => ho_out (by unfold outH at hca; omega)
  have o2 : ∀ i A, hp (hoH h ca i A) (ca + 2) = hp h (ca + 2) := fun i A => ho_out (by unfold outH at hca; omega)
  have o5 : ∀ i A, hp (hoH h ca i A) (ca + 5) = hp h (ca + 5) := fun i A => ho_out (by unfold outH at hca; omega)
  obtain ⟨b1, b2, b3, b4, b5, b6⟩ := okS_bounds hs hK.2.2 hK.2.1 hK.1
  obtain ⟨hp1, hp2⟩ := hs.1 p hpn
  have hwp := hw (s.2.1 p) (by omega)
  have hgp := hwg p hpn
  have hwb := hO.2.2.2.1 (s.2.1 p)
  intro r
  induction r with
  | zero =>
    intro to A l11 l12 ht hI hL
    have : to = kP c := by omega
    subst this
    refine ⟨A, l11, l12, hI, by rw [nxTo_skip hK (by omega)]; exact hL, fun d Q => ?_⟩
    rw [nxTo_skip hK (by omega)]
    rw [e_40_317]
    simp (disch := omega) only [e_40_319, e_40_320, e_40_323, e_40_326, o0, hA, hoO_c, hoO_g0, hoO_k0, hoO_g1, hoO_k1, hoO_g2, hoO_k2, hoO_g3, hoO_k3, hoO_g4, hoO_k4, hoO_g5, hoO_k5, hoO_g6, hoO_k6, hoO_g7, hoO_k7, hoO_g8, hoO_k8, hoO_g9, hoO_k9, hoO_s0, hoO_s1, hoO_s2, hoO_s9, ho_1, ho_2, ho_g27, ho_g28, ho_g29, ho_g30, ho_g31, ho_g32, ho_g33, ho_out, ho_u27, ho_u28, ho_u29, ho_u30, ho_u31, ho_u32, ho_u33, ho_uo, iup_s, iup_n, aup_s, aup_n, ne_eq, not_false_eq_true, sh_0, sh_1, sh_2, sh_3, sh_4, sh_5, sh_8, sh_15, sh_16, sh_24, Int.reducePow, Int.cast_ofNat_Int, w_of, wl_of, ltT, ltF, leT, leF, eqT, eqF, okF_0, okF_s, gF_0, gF_s, consC_o, sF_0, sF_s, clsO_o, inA_i, ldA_i, stA_i, inJ_l, ldJ_l, stJ_l, inR_r, ldR_r, stR_r, tgR_r, lenA_i, lenA_l, lenA_r, lenA_ex, nl_i, nl_o, nl_l, nl_n, wd_n, wd_i, wd_l, wd_o, fit_i, fit_l, fit_o, K_v, K_n, true_and, and_true, Nat.reduceAdd, Nat.reduceLeDiff, Nat.reduceEqDiff, Nat.reduceMul, Nat.reduceLT, reduceIte, true_or, or_true, cmp_lt, cmp_gt, cmp_eq, wb_0, b_01, cmp_lt', cmp_gt', cmp_eq', b_0, b_1, wb_1, Int.reduceSub, Int.reduceToNat, List.getD_cons_succ, List.getD_cons_zero, Int.reduceLE, Int.reduceLT, Int.reduceEq, Int.reduceNeg, Int.reduceAdd, Int.reduceMul, and_self]
  | succ r ih =>
    intro to A l11 l12 ht hI hL
    have htn : to < kP c := by omega
    have ew := e_way hO (a := s.2.1 p) (b := to) (by omega)
    have hcan := canM_g (sky := sky) hd hpn htn (by omega)
    have hlen := nxTo_len (sky := sky) (m := 4 + 5 * p + to) hO hs (by omega)
    by_cases c1 : wayB c (s.2.1 p) to = true
    · rw [if_pos c1] at ew
      have hI9 : hoOK c sky e (iup i 9 ((nxTo c sky s (4 + 5 * p + to)).length : Nat)) A := hoOK_i hI
      obtain ⟨B1, hB1, k1, k2, hg1⟩ := h_mayGo' (ip := (p : Int)) (is := (s.2.2 p : Int)) (ib := ib) (ik := (s.2.1 p : Int)) (ig := (to : Int)) hO hca hC' hI9 hpn hp2 (bearN_lt (s := s) (p := p)) (show s.2.1 p < 5 by omega) (show to < 5 by omega) rfl rfl hib rfl rfl
      by_cases c2 : mayV c sky p (s.2.2 p) (bearN s p) (s.2.1 p) to = true
      · have hyes := nxTo_yes (c := c) (sky := sky) (s := s) (m := 4 + 5 * p + to) (by rw [hcan, c1, c2]; rfl)
        simp only [c2, if_true] at hg1
        obtain ⟨B2, hB2, k3, k4, hg2⟩ := h_tire' (ip := (p : Int)) (is := (s.2.2 p : Int)) (ib := ib) (ik := (to : Int)) (ig := 1) hO hca hC' hB1 hpn hp2 (bearN_lt (s := s) (p := p)) (show to < 5 by omega) (show 1 < 2 by omega) rfl rfl hib rfl rfl
        have hw1 := fun (d : Nat) (h : PH) (Q : PQ) => j_with (d := d) (a := 27) (h := h) (Q := Q) (f := calmF c sky s) (p := p) (v := tireV c sky p (s.2.2 p) (bearN s p) to 1) hN (fun i _ => tireV_lt) hpn tireV_lt
        have hf2 : ∀ i, i < kN c → fup (calmF c sky s) p (tireV c sky p (s.2.2 p) (bearN s p) to 1) i < 4 := fun i _ => by unfold fup; split <;> exact tireV_lt
        have hfp : ∀ i, i < kN c → fup s.2.1 p to i < kP c := fun i hi => by
          by_cases z : i = p
          · rw [z, fup_self]; exact htn
          · rw [fup_ne z]; exact (hs.1 i hi).1
        have hst := fun (d : Nat) (i : Nat → Int) (A : Nat → Int → Int) (Q : PQ) => c_stand (d := d) (Q := Q) hK (CtyAt_ho (cb := ca) (i := i) (A := A) hca hC') (b := s.1) b5 (encP_lt (B := kP c) hfp) (encP_lt (B := 4) hf2)
        rw [← enc_toG hK (by omega)] at hst
        have hadd := fun (d : Nat) (B : Nat → Int → Int) (deed stand : Int) (Q : PQ) => j_add (d := d) (ca := ca) (h := h) (Q := Q) (i := i) (A := B) (deed := deed) (stand := stand) (n := (nxTo c sky s (4 + 5 * p + to)).length) (by omega)
        have hI2 : hoOK c sky e i B2 := by
          have := hoOK_i (n := i 9) hB2
          rw [iup_iup, iup_id] at this
          exact this
        have hLn : lsOK c (nxTo c sky s (4 + 5 * p + to + 1)) (aup (aup B2 32 (fset (B2 32) ((nxTo c sky s (4 + 5 * p + to)).length : Nat) ((deedM (4 + 5 * p + to) : Nat) : Int))) 33 (fset (B2 33) ((nxTo c sky s (4 + 5 * p + to)).length : Nat) (encC c (toM c sky s (4 + 5 * p + to))))) := by
          rw [hyes]
          exact lsOK_add (lsOK_x hL (by rw [k3, k1]) (by rw [k4, k2]))
        obtain ⟨B, m11, m12, hB, hLB, hih⟩ := ih (to + 1) (aup (aup B2 32 (fset (B2 32) ((nxTo c sky s (4 + 5 * p + to)).length : Nat) ((deedM (4 + 5 * p + to) : Nat) : Int))) 33 (fset (B2 33) ((nxTo c sky s (4 + 5 * p + to)).length : Nat) (encC c (toM c sky s (4 + 5 * p + to))))) (some (vi (encP (kP c) (kN c) (fup s.2.1 p to)))) (some (vi (encP 4 (kN c) (fup (calmF c sky s) p (tireV c sky p (s.2.2 p) (bearN s p) to 1))))) (by omega) (hoOK_x hI2 (by rw [aup_n (by omega), aup_n (by omega)]) (by rw [aup_n (by omega), aup_n (by omega)])) (by rw [show 4 + 5 * p + (to + 1) = 4 + 5 * p + to + 1 by omega]; exact hLn)
        refine ⟨B, m11, m12, hB, hLB, fun d Q => ?_⟩
        have hle : (nxTo c sky s (4 + 5 * p + (to + 1))).length = (nxTo c sky s (4 + 5 * p + to)).length + 1 := by rw [show 4 + 5 * p + (to + 1) = 4 + 5 * p + to + 1 by omega, hyes, List.length_append]; rfl
        have hdd : (100 : Int) + 10 * (p : Int) + (to : Int) = ((deedM (4 + 5 * p + to) : Nat) : Int) := by unfold deedM; rw [if_neg (by omega), if_neg (by omega)]; omega
        have hth : (encP (kP c) (kN c) s.2.1 : Int) + ((to : Int) - (s.2.1 p : Int)) * ((kP c ^ p : Nat) : Int) = (encP (kP c) (kN c) (fup s.2.1 p to) : Int) := by
          have := encP_up (B := kP c) (f := s.2.1) (i := p) (v := to) hpn
          rw [Int.sub_mul, ← Int.natCast_mul, ← Int.natCast_mul]
          omega
        rw [← hih d Q, hle]
        rw [e_40_317]
        simp (disch := omega) only [e_40_319, e_40_320, e_40_323, e_40_326, e_40_329, e_40_330, e_40_333, e_40_336, e_40_338, e_40_339, e_40_341, e_40_342, e_40_343, e_40_344, e_40_345, e_40_348, e_40_349, e_40_351, e_40_353, e_40_355, e_40_357, e_40_359, e_40_362, e_40_365, e_40_366, e_40_368, e_40_370, e_40_371, e_40_372, e_40_375, e_40_378, e_40_380, e_40_381, e_40_382, e_40_383, e_40_385, e_40_386, e_40_388, e_40_390, e_40_391, e_40_393, e_40_395, e_40_397, e_40_399, e_40_400, e_40_403, e_40_406, e_40_408, e_40_409, e_40_411, e_40_413, e_40_415, e_40_416, e_40_417, e_40_419, e_40_420, e_40_421, e_40_424, e_40_425, e_40_427, e_40_429, e_40_432, e_40_435, e_40_438, o0, o2, o5, hA, h2, h5, hwp, hgp, ew, hg1, hg2, hw1, hst, hadd, hdd, hth, hoO_c, hoO_g0, hoO_k0, hoO_g1, hoO_k1, hoO_g2, hoO_k2, hoO_g3, hoO_k3, hoO_g4, hoO_k4, hoO_g5, hoO_k5, hoO_g6, hoO_k6, hoO_g7, hoO_k7, hoO_g8, hoO_k8, hoO_g9, hoO_k9, hoO_s0, hoO_s1, hoO_s2, hoO_s9, ho_1, ho_2, ho_g27, ho_g28, ho_g29, ho_g30, ho_g31, ho_g32, ho_g33, ho_out, ho_u27, ho_u28, ho_u29, ho_u30, ho_u31, ho_u32, ho_u33, ho_uo, iup_s, iup_n, aup_s, aup_n, ne_eq, not_false_eq_true, sh_0, sh_1, sh_2, sh_3, sh_4, sh_5, sh_8, sh_15, sh_16, sh_24, Int.reducePow, Int.cast_ofNat_Int, w_of, wl_of, ltT, ltF, leT, leF, eqT, eqF, okF_0, okF_s, gF_0, gF_s, consC_o, sF_0, sF_s, clsO_o, inA_i, ldA_i, stA_i, inJ_l, ldJ_l, stJ_l, inR_r, ldR_r, stR_r, tgR_r, lenA_i, lenA_l, lenA_r, lenA_ex, nl_i, nl_o, nl_l, nl_n, wd_n, wd_i, wd_l, wd_o, fit_i, fit_l, fit_o, K_v, K_n, true_and, and_true, Nat.reduceAdd, Nat.reduceLeDiff, Nat.reduceEqDiff, Nat.reduceMul, Nat.reduceLT, reduceIte, true_or, or_true, cmp_lt, cmp_gt, cmp_eq, wb_0, b_01, cmp_lt', cmp_gt', cmp_eq', b_0, b_1, wb_1, Int.reduceSub, Int.reduceToNat, List.getD_cons_succ, List.getD_cons_zero, Int.reduceLE, Int.reduceLT, Int.reduceEq, Int.reduceNeg, Int.reduceAdd, Int.reduceMul, and_self]
        rfl
      · have hno := nxTo_no (c := c) (sky := sky) (s := s) (m := 4 + 5 * p + to) (by rw [hcan]; simp [c2])
        simp only [c2, if_false, Bool.false_eq_true] at hg1
        have hI1 : hoOK c sky e i B1 := by
          have := hoOK_i (n := i 9) hB1
          rw [iup_iup, iup_id] at this
          exact this
        obtain ⟨B, m11, m12, hB, hLB, hih⟩ := ih (to + 1) B1 l11 l12 (by omega) hI1 (by rw [show 4 + 5 * p + (to + 1) = 4 + 5 * p + to + 1 by omega, hno]; exact lsOK_x hL k1 k2)
        refine ⟨B, m11, m12, hB, hLB, fun d Q => ?_⟩
        rw [← hih d Q, show 4 + 5 * p + (to + 1) = 4 + 5 * p + to + 1 by omega, hno]
        rw [e_40_317]
        simp (disch := omega) only [e_40_319, e_40_320, e_40_323, e_40_326, e_40_329, e_40_330, e_40_333, e_40_336, e_40_338, e_40_339, e_40_341, e_40_342, e_40_343, e_40_344, e_40_345, e_40_348, e_40_349, e_40_351, e_40_353, e_40_355, e_40_357, e_40_359, e_40_362, e_40_435, e_40_438, o0, o2, hA, h2, hwp, ew, hg1, hoO_c, hoO_g0, hoO_k0, hoO_g1, hoO_k1, hoO_g2, hoO_k2, hoO_g3, hoO_k3, hoO_g4, hoO_k4, hoO_g5, hoO_k5, hoO_g6, hoO_k6, hoO_g7, hoO_k7, hoO_g8, hoO_k8, hoO_g9, hoO_k9, hoO_s0, hoO_s1, hoO_s2, hoO_s9, ho_1, ho_2, ho_g27, ho_g28, ho_g29, ho_g30, ho_g31, ho_g32, ho_g33, ho_out, ho_u27, ho_u28, ho_u29, ho_u30, ho_u31, ho_u32, ho_u33, ho_uo, iup_s, iup_n, aup_s, aup_n, ne_eq, not_false_eq_true, sh_0, sh_1, sh_2, sh_3, sh_4, sh_5, sh_8, sh_15, sh_16, sh_24, Int.reducePow, Int.cast_ofNat_Int, w_of, wl_of, ltT, ltF, leT, leF, eqT, eqF, okF_0, okF_s, gF_0, gF_s, consC_o, sF_0, sF_s, clsO_o, inA_i, ldA_i, stA_i, inJ_l, ldJ_l, stJ_l, inR_r, ldR_r, stR_r, tgR_r, lenA_i, lenA_l, lenA_r, lenA_ex, nl_i, nl_o, nl_l, nl_n, wd_n, wd_i, wd_l, wd_o, fit_i, fit_l, fit_o, K_v, K_n, true_and, and_true, Nat.reduceAdd, Nat.reduceLeDiff, Nat.reduceEqDiff, Nat.reduceMul, Nat.reduceLT, reduceIte, true_or, or_true, cmp_lt, cmp_gt, cmp_eq, wb_0, b_01, cmp_lt', cmp_gt', cmp_eq', b_0, b_1, wb_1, Int.reduceSub, Int.reduceToNat, List.getD_cons_succ, List.getD_cons_zero, Int.reduceLE, Int.reduceLT, Int.reduceEq, Int.reduceNeg, Int.reduceAdd, Int.reduceMul, and_self]
        rfl
    · rw [if_neg c1] at ew
      have hno := nxTo_no (c := c) (sky := sky) (s := s) (m := 4 + 5 * p + to) (by rw [hcan]; simp [c1])
      obtain ⟨B, m11, m12, hB, hLB, hih⟩ := ih (to + 1) A l11 l12 (by omega) hI (by rw [show 4 + 5 * p + (to + 1) = 4 + 5 * p + to + 1 by omega, hno]; exact hL)
      refine ⟨B, m11, m12, hB, hLB, fun d Q => ?_⟩
      rw [← hih d Q, show 4 + 5 * p + (to + 1) = 4 + 5 * p + to + 1 by omega, hno]
      rw [e_40_317]
      simp (disch := omega) only [e_40_319, e_40_320, e_40_323, e_40_326, e_40_329, e_40_330, e_40_333, e_40_336, e_40_338, e_40_339, e_40_341, e_40_342, e_40_343, e_40_344, e_40_345, e_40_435, e_40_438, o0, o2, hA, h2, hwp, ew, hoO_c, hoO_g0, hoO_k0, hoO_g1, hoO_k1, hoO_g2, hoO_k2, hoO_g3, hoO_k3, hoO_g4, hoO_k4, hoO_g5, hoO_k5, hoO_g6, hoO_k6, hoO_g7, hoO_k7, hoO_g8, hoO_k8, hoO_g9, hoO_k9, hoO_s0, hoO_s1, hoO_s2, hoO_s9, ho_1, ho_2, ho_g27, ho_g28, ho_g29, ho_g30, ho_g31, ho_g32, ho_g33, ho_out, ho_u27, ho_u28, ho_u29, ho_u30, ho_u31, ho_u32, ho_u33, ho_uo, iup_s, iup_n, aup_s, aup_n, ne_eq, not_false_eq_true, sh_0, sh_1, sh_2, sh_3, sh_4, sh_5, sh_8, sh_15, sh_16, sh_24, Int.reducePow, Int.cast_ofNat_Int, w_of, wl_of, ltT, ltF, leT, leF, eqT, eqF, okF_0, okF_s, gF_0, gF_s, consC_o, sF_0, sF_s, clsO_o, inA_i, ldA_i, stA_i, inJ_l, ldJ_l, stJ_l, inR_r, ldR_r, stR_r, tgR_r, lenA_i, lenA_l, lenA_r, lenA_ex, nl_i, nl_o, nl_l, nl_n, wd_n, wd_i, wd_l, wd_o, fit_i, fit_l, fit_o, K_v, K_n, true_and, and_true, Nat.reduceAdd, Nat.reduceLeDiff, Nat.reduceEqDiff, Nat.reduceMul, Nat.reduceLT, reduceIte, true_or, or_true, cmp_lt, cmp_gt, cmp_eq, wb_0, b_01, cmp_lt', cmp_gt', cmp_eq', b_0, b_1, wb_1, Int.reduceSub, Int.reduceToNat, List.getD_cons_succ, List.getD_cons_zero, Int.reduceLE, Int.reduceLT, Int.reduceEq, Int.reduceNeg, Int.reduceAdd, Int.reduceMul, and_self]
      rfl
theorem sp_lp3 {ca : Nat} {h : PH} {c : KC} {sky e : Nat} {s : ST} {i : Nat → Int} (hO : okC c) (hca : outH ca) (hC : CtyAt h ca c) (hs : okS c s) (hd : downB c s = false) :
    ∀ r p A l7 l8 l9 l10 l11 l12, p + r = kN c → hoOK c sky e i A → lsOK c (nxTo c sky s (4 + 5 * p)) A → ∃ B, hoOK c sky e i B ∧ lsOK c (nx c sky s) B ∧ ∀ d Q, WP (d + 8) 40 267 [some (vr 27), some (vi (encC c s)), some (vi s.1), some (vi (encP (kP c) (kN c) s.2.1)), some (vi (encP 8 (kN c) s.2.1)), some (vi (encP 4 (kN c) (calmF c sky s))), some (vi p), l7, l8, l9, l10, l11, l12] [] (hoH h ca (iup i 9 ((nxTo c sky s (4 + 5 * p)).length : Nat)) A) Q = Q none (hoH h ca (iup i 9 ((nx c sky s).length : Nat)) B) := by
  have hK := hO.1
  have hN := hK.2.2
  have hP := hK.2.1
  have hC' := hC
  obtain ⟨tf, tt, mf, mt, n, fh, fw, fa, fc, fg, fp, hA, -⟩ := hC
  have o0 : ∀ i A, hp (hoH h ca i A) ca = hp h ca := fun i A => ho_out (by unfold outH at hca; omega)
  obtain ⟨b1, b2, b3, b4, b5, b6⟩ := okS_bounds hs hK.2.2 hK.2.1 hK.1
  obtain ⟨e8, d8⟩ := encP8_lt hK (fun i hi => (hs.1 i hi).1)
  intro r
  induction r with
  | zero =>
    intro p A l7 l8 l9 l10 l11 l12 hp' hI hL
    have : p = kN c := by omega
    subst this
    refine ⟨A, hI, by rw [nxTo_end hK]; exact hL, fun d Q => ?_⟩
    rw [nxTo_end hK]
    rw [e_40_267]
    simp (disch := omega) only [e_40_269, e_40_270, e_40_273, e_40_276, e_40_447, o0, hA, hoO_c, hoO_g0, hoO_k0, hoO_g1, hoO_k1, hoO_g2, hoO_k2, hoO_g3, hoO_k3, hoO_g4, hoO_k4, hoO_g5, hoO_k5, hoO_g6, hoO_k6, hoO_g7, hoO_k7, hoO_g8, hoO_k8, hoO_g9, hoO_k9, hoO_s0, hoO_s1, hoO_s2, hoO_s9, ho_1, ho_2, ho_g27, ho_g28, ho_g29, ho_g30, ho_g31, ho_g32, ho_g33, ho_out, ho_u27, ho_u28, ho_u29, ho_u30, ho_u31, ho_u32, ho_u33, ho_uo, iup_s, iup_n, aup_s, aup_n, ne_eq, not_false_eq_true, sh_0, sh_1, sh_2, sh_3, sh_4, sh_5, sh_8, sh_15, sh_16, sh_24, Int.reducePow, Int.cast_ofNat_Int, w_of, wl_of, ltT, ltF, leT, leF, eqT, eqF, okF_0, okF_s, gF_0, gF_s, consC_o, sF_0, sF_s, clsO_o, inA_i, ldA_i, stA_i, inJ_l, ldJ_l, stJ_l, inR_r, ldR_r, stR_r, tgR_r, lenA_i, lenA_l, lenA_r, lenA_ex, nl_i, nl_o, nl_l, nl_n, wd_n, wd_i, wd_l, wd_o, fit_i, fit_l, fit_o, K_v, K_n, true_and, and_true, Nat.reduceAdd, Nat.reduceLeDiff, Nat.reduceEqDiff, Nat.reduceMul, Nat.reduceLT, reduceIte, true_or, or_true, cmp_lt, cmp_gt, cmp_eq, wb_0, b_01, cmp_lt', cmp_gt', cmp_eq', b_0, b_1, wb_1, Int.reduceSub, Int.reduceToNat, List.getD_cons_succ, List.getD_cons_zero, Int.reduceLE, Int.reduceLT, Int.reduceEq, Int.reduceNeg, Int.reduceAdd, Int.reduceMul, and_self]
  | succ r ih =>
    intro p A l7 l8 l9 l10 l11 l12 hp' hI hL
    have hpn : p < kN c := by omega
    obtain ⟨hp1, hp2⟩ := hs.1 p hpn
    have es := e_str hK hs hpn
    have ep := e_pl hK hs hpn
    by_cases q : p = s.1
    · obtain ⟨B1, m11, m12, hB1, hL1, h1⟩ := sp_lp4 (ib := 1) hO hca hC' hs hd hpn (by unfold bearN; rw [if_pos q]; rfl) (kP c) 0 A l11 l12 (by omega) hI hL
      obtain ⟨B, hB, hLB, hih⟩ := ih (p + 1) B1 (some (vi (s.2.1 p))) (some (vi (s.2.2 p))) (some (vi 1)) (some (vi (kP c))) m11 m12 (by omega) hB1 hL1
      refine ⟨B, hB, hLB, fun d Q => ?_⟩
      rw [← hih d Q]
      have h1' := h1 d Q
      rw [Nat.add_zero] at h1'
      rw [e_40_267]
      simp (disch := omega) only [e_40_269, e_40_270, e_40_273, e_40_276, e_40_279, e_40_281, e_40_282, e_40_284, e_40_285, e_40_286, e_40_288, e_40_289, e_40_291, e_40_292, e_40_293, e_40_295, e_40_296, e_40_297, e_40_298, e_40_299, e_40_301, e_40_303, e_40_304, e_40_307, e_40_308, e_40_311, e_40_312, e_40_314, e_40_315, e_40_441, e_40_444, o0, hA, es, ep, hoO_c, hoO_g0, hoO_k0, hoO_g1, hoO_k1, hoO_g2, hoO_k2, hoO_g3, hoO_k3, hoO_g4, hoO_k4, hoO_g5, hoO_k5, hoO_g6, hoO_k6, hoO_g7, hoO_k7, hoO_g8, hoO_k8, hoO_g9, hoO_k9, hoO_s0, hoO_s1, hoO_s2, hoO_s9, ho_1, ho_2, ho_g27, ho_g28, ho_g29, ho_g30, ho_g31, ho_g32, ho_g33, ho_out, ho_u27, ho_u28, ho_u29, ho_u30, ho_u31, ho_u32, ho_u33, ho_uo, iup_s, iup_n, aup_s, aup_n, ne_eq, not_false_eq_true, sh_0, sh_1, sh_2, sh_3, sh_4, sh_5, sh_8, sh_15, sh_16, sh_24, Int.reducePow, Int.cast_ofNat_Int, w_of, wl_of, ltT, ltF, leT, leF, eqT, eqF, okF_0, okF_s, gF_0, gF_s, consC_o, sF_0, sF_s, clsO_o, inA_i, ldA_i, stA_i, inJ_l, ldJ_l, stJ_l, inR_r, ldR_r, stR_r, tgR_r, lenA_i, lenA_l, lenA_r, lenA_ex, nl_i, nl_o, nl_l, nl_n, wd_n, wd_i, wd_l, wd_o, fit_i, fit_l, fit_o, K_v, K_n, true_and, and_true, Nat.reduceAdd, Nat.reduceLeDiff, Nat.reduceEqDiff, Nat.reduceMul, Nat.reduceLT, reduceIte, true_or, or_true, cmp_lt, cmp_gt, cmp_eq, wb_0, b_01, cmp_lt', cmp_gt', cmp_eq', b_0, b_1, wb_1, Int.reduceSub, Int.reduceToNat, List.getD_cons_succ, List.getD_cons_zero, Int.reduceLE, Int.reduceLT, Int.reduceEq, Int.reduceNeg, Int.reduceAdd, Int.reduceMul, and_self]
      refine Eq.trans h1' ?_
      simp (disch := omega) only [e_40_441, e_40_444, hoO_c, hoO_g0, hoO_k0, hoO_g1, hoO_k1, hoO_g2, hoO_k2, hoO_g3, hoO_k3, hoO_g4, hoO_k4, hoO_g5, hoO_k5, hoO_g6, hoO_k6, hoO_g7, hoO_k7, hoO_g8, hoO_k8, hoO_g9, hoO_k9, hoO_s0, hoO_s1, hoO_s2, hoO_s9, ho_1, ho_2, ho_g27, ho_g28, ho_g29, ho_g30, ho_g31, ho_g32, ho_g33, ho_out, ho_u27, ho_u28, ho_u29, ho_u30, ho_u31, ho_u32, ho_u33, ho_uo, iup_s, iup_n, aup_s, aup_n, ne_eq, not_false_eq_true, sh_0, sh_1, sh_2, sh_3, sh_4, sh_5, sh_8, sh_15, sh_16, sh_24, Int.reducePow, Int.cast_ofNat_Int, w_of, wl_of, ltT, ltF, leT, leF, eqT, eqF, okF_0, okF_s, gF_0, gF_s, consC_o, sF_0, sF_s, clsO_o, inA_i, ldA_i, stA_i, inJ_l, ldJ_l, stJ_l, inR_r, ldR_r, stR_r, tgR_r, lenA_i, lenA_l, lenA_r, lenA_ex, nl_i, nl_o, nl_l, nl_n, wd_n, wd_i, wd_l, wd_o, fit_i, fit_l, fit_o, K_v, K_n, true_and, and_true, Nat.reduceAdd, Nat.reduceLeDiff, Nat.reduceEqDiff, Nat.reduceMul, Nat.reduceLT, reduceIte, true_or, or_true, cmp_lt, cmp_gt, cmp_eq, wb_0, b_01, cmp_lt', cmp_gt', cmp_eq', b_0, b_1, wb_1, Int.reduceSub, Int.reduceToNat, List.getD_cons_succ, List.getD_cons_zero, Int.reduceLE, Int.reduceLT, Int.reduceEq, Int.reduceNeg, Int.reduceAdd, Int.reduceMul, and_self]
      rfl
    · obtain ⟨B1, m11, m12, hB1, hL1, h1⟩ := sp_lp4 (ib := 0) hO hca hC' hs hd hpn (by unfold bearN; rw [if_neg q]; rfl) (kP c) 0 A l11 l12 (by omega) hI hL
      obtain ⟨B, hB, hLB, hih⟩ := ih (p + 1) B1 (some (vi (s.2.1 p))) (some (vi (s.2.2 p))) (some (vi 0)) (some (vi (kP c))) m11 m12 (by omega) hB1 hL1
      refine ⟨B, hB, hLB, fun d Q => ?_⟩
      rw [← hih d Q]
      have h1' := h1 d Q
      rw [Nat.add_zero] at h1'
      rw [e_40_267]
      simp (disch := omega) only [e_40_269, e_40_270, e_40_273, e_40_276, e_40_279, e_40_281, e_40_282, e_40_284, e_40_285, e_40_286, e_40_288, e_40_289, e_40_291, e_40_292, e_40_293, e_40_295, e_40_296, e_40_297, e_40_298, e_40_299, e_40_301, e_40_303, e_40_304, e_40_307, e_40_308, e_40_311, e_40_312, e_40_314, e_40_315, e_40_441, e_40_444, o0, hA, es, ep, hoO_c, hoO_g0, hoO_k0, hoO_g1, hoO_k1, hoO_g2, hoO_k2, hoO_g3, hoO_k3, hoO_g4, hoO_k4, hoO_g5, hoO_k5, hoO_g6, hoO_k6, hoO_g7, hoO_k7, hoO_g8, hoO_k8, hoO_g9, hoO_k9, hoO_s0, hoO_s1, hoO_s2, hoO_s9, ho_1, ho_2, ho_g27, ho_g28, ho_g29, ho_g30, ho_g31, ho_g32, ho_g33, ho_out, ho_u27, ho_u28, ho_u29, ho_u30, ho_u31, ho_u32, ho_u33, ho_uo, iup_s, iup_n, aup_s, aup_n, ne_eq, not_false_eq_true, sh_0, sh_1, sh_2, sh_3, sh_4, sh_5, sh_8, sh_15, sh_16, sh_24, Int.reducePow, Int.cast_ofNat_Int, w_of, wl_of, ltT, ltF, leT, leF, eqT, eqF, okF_0, okF_s, gF_0, gF_s, consC_o, sF_0, sF_s, clsO_o, inA_i, ldA_i, stA_i, inJ_l, ldJ_l, stJ_l, inR_r, ldR_r, stR_r, tgR_r, lenA_i, lenA_l, lenA_r, lenA_ex, nl_i, nl_o, nl_l, nl_n, wd_n, wd_i, wd_l, wd_o, fit_i, fit_l, fit_o, K_v, K_n, true_and, and_true, Nat.reduceAdd, Nat.reduceLeDiff, Nat.reduceEqDiff, Nat.reduceMul, Nat.reduceLT, reduceIte, true_or, or_true, cmp_lt, cmp_gt, cmp_eq, wb_0, b_01, cmp_lt', cmp_gt', cmp_eq', b_0, b_1, wb_1, Int.reduceSub, Int.reduceToNat, List.getD_cons_succ, List.getD_cons_zero, Int.reduceLE, Int.reduceLT, Int.reduceEq, Int.reduceNeg, Int.reduceAdd, Int.reduceMul, and_self]
      refine Eq.trans h1' ?_
      simp (disch := omega) only [e_40_441, e_40_444, hoO_c, hoO_g0, hoO_k0, hoO_g1, hoO_k1, hoO_g2, hoO_k2, hoO_g3, hoO_k3, hoO_g4, hoO_k4, hoO_g5, hoO_k5, hoO_g6, hoO_k6, hoO_g7, hoO_k7, hoO_g8, hoO_k8, hoO_g9, hoO_k9, hoO_s0, hoO_s1, hoO_s2, hoO_s9, ho_1, ho_2, ho_g27, ho_g28, ho_g29, ho_g30, ho_g31, ho_g32, ho_g33, ho_out, ho_u27, ho_u28, ho_u29, ho_u30, ho_u31, ho_u32, ho_u33, ho_uo, iup_s, iup_n, aup_s, aup_n, ne_eq, not_false_eq_true, sh_0, sh_1, sh_2, sh_3, sh_4, sh_5, sh_8, sh_15, sh_16, sh_24, Int.reducePow, Int.cast_ofNat_Int, w_of, wl_of, ltT, ltF, leT, leF, eqT, eqF, okF_0, okF_s, gF_0, gF_s, consC_o, sF_0, sF_s, clsO_o, inA_i, ldA_i, stA_i, inJ_l, ldJ_l, stJ_l, inR_r, ldR_r, stR_r, tgR_r, lenA_i, lenA_l, lenA_r, lenA_ex, nl_i, nl_o, nl_l, nl_n, wd_n, wd_i, wd_l, wd_o, fit_i, fit_l, fit_o, K_v, K_n, true_and, and_true, Nat.reduceAdd, Nat.reduceLeDiff, Nat.reduceEqDiff, Nat.reduceMul, Nat.reduceLT, reduceIte, true_or, or_true, cmp_lt, cmp_gt, cmp_eq, wb_0, b_01, cmp_lt', cmp_gt', cmp_eq', b_0, b_1, wb_1, Int.reduceSub, Int.reduceToNat, List.getD_cons_succ, List.getD_cons_zero, Int.reduceLE, Int.reduceLT, Int.reduceEq, Int.reduceNeg, Int.reduceAdd, Int.reduceMul, and_self]
      rfl
/-- spread: the hours that can be, in rows -/
theorem h_spread {ca : Nat} {h : PH} {c : KC} {sky e : Nat} {s : ST} {i : Nat → Int} {A : Nat → Int → Int} (hO : okC c) (hca : outH ca) (hC : CtyAt h ca c) (hI : hoOK c sky e i A) (hs : okS c s) :
    ∃ B, hoOK c sky e i B ∧ lsOK c (nx c sky s) B ∧ ∀ d Q, WP (d + 8) 40 0 [some (vr 27), some (vi (encC c s)), none, none, none, none, none, none, none, none, none, none, none] [] (hoH h ca i A) Q = Q none (hoH h ca (iup i 9 ((nx c sky s).length : Nat)) B) := by
  have hK := hO.1
  have hN := hK.2.2
  have hP := hK.2.1
  have hC' := hC
  obtain ⟨tf, tt, mf, mt, n, fh, fw, fa, fc, fg, fp, hA, h1, h2, h3, h4, h5, h6, hh, hw, ha, hwg, hpl, -⟩ := hC
  have o0 : ∀ i A, hp (hoH h ca i A) ca = hp h ca := fun i A => ho_out (by unfold outH at hca; omega)
  have o6 : ∀ i A, hp (hoH h ca i A) (ca + 6) = hp h (ca + 6) := fun i A => ho_out (by unfold outH at hca; omega)
  obtain ⟨b1, b2, b3, b4, b5, b6⟩ := okS_bounds hs hK.2.2 hK.2.1 hK.1
  have hpw : kPw c ≤ 125 := b3
  have hb1 : encP (kP c) (kN c) s.2.1 < kPw c := b1
  obtain ⟨e8, d8⟩ := encP8_lt hK (fun i hi => (hs.1 i hi).1)
  have hpl' := hpl s.2.1 (fun i hi => (hs.1 i hi).1)
  have hdn := fun (d : Nat) (i : Nat → Int) (A : Nat → Int → Int) (Q : PQ) => c_isDown (d := d) (Q := Q) hK (CtyAt_ho (cb := ca) (i := i) (A := A) hca hC') hs
  have hbr := fun (d : Nat) (i : Nat → Int) (A : Nat → Int → Int) (Q : PQ) => c_bearerOf (d := d) (Q := Q) hK (CtyAt_ho (cb := ca) (i := i) (A := A) hca hC') hs
  have hpg := fun (d : Nat) (i : Nat → Int) (A : Nat → Int → Int) (Q : PQ) => c_placingOf (d := d) (Q := Q) hK (CtyAt_ho (cb := ca) (i := i) (A := A) hca hC') hs
  by_cases hd : downB c s = true
  · simp only [hd, if_true] at hdn
    have hnil : nx c sky s = [] := nxTo_down hd 19
    rw [hnil]
    refine ⟨A, hI, lsOK_nil, fun d Q => ?_⟩
    simp (disch := omega) only [e_40_0, e_40_1, e_40_2, e_40_5, e_40_6, e_40_9, e_40_10, e_40_13, e_40_16, hdn, o0, hA, hoO_c, hoO_g0, hoO_k0, hoO_g1, hoO_k1, hoO_g2, hoO_k2, hoO_g3, hoO_k3, hoO_g4, hoO_k4, hoO_g5, hoO_k5, hoO_g6, hoO_k6, hoO_g7, hoO_k7, hoO_g8, hoO_k8, hoO_g9, hoO_k9, hoO_s0, hoO_s1, hoO_s2, hoO_s9, ho_1, ho_2, ho_g27, ho_g28, ho_g29, ho_g30, ho_g31, ho_g32, ho_g33, ho_out, ho_u27, ho_u28, ho_u29, ho_u30, ho_u31, ho_u32, ho_u33, ho_uo, iup_s, iup_n, aup_s, aup_n, ne_eq, not_false_eq_true, sh_0, sh_1, sh_2, sh_3, sh_4, sh_5, sh_8, sh_15, sh_16, sh_24, Int.reducePow, Int.cast_ofNat_Int, w_of, wl_of, ltT, ltF, leT, leF, eqT, eqF, okF_0, okF_s, gF_0, gF_s, consC_o, sF_0, sF_s, clsO_o, inA_i, ldA_i, stA_i, inJ_l, ldJ_l, stJ_l, inR_r, ldR_r, stR_r, tgR_r, lenA_i, lenA_l, lenA_r, lenA_ex, nl_i, nl_o, nl_l, nl_n, wd_n, wd_i, wd_l, wd_o, fit_i, fit_l, fit_o, K_v, K_n, true_and, and_true, Nat.reduceAdd, Nat.reduceLeDiff, Nat.reduceEqDiff, Nat.reduceMul, Nat.reduceLT, reduceIte, true_or, or_true, cmp_lt, cmp_gt, cmp_eq, wb_0, b_01, cmp_lt', cmp_gt', cmp_eq', b_0, b_1, wb_1, Int.reduceSub, Int.reduceToNat, List.getD_cons_succ, List.getD_cons_zero, Int.reduceLE, Int.reduceLT, Int.reduceEq, Int.reduceNeg, Int.reduceAdd, Int.reduceMul, and_self]
    rfl
  · have hd' : downB c s = false := by simpa using hd
    simp only [hd', if_false, Bool.false_eq_true] at hdn
    obtain ⟨B1, hB1, k1, k2, g1⟩ := sp_lp1 (e := e) (i := iup i 9 0) hO hca hC' hs (kN c) 0 A (by omega) (hoOK_i hI)
    have hst := fun (d : Nat) (i : Nat → Int) (A : Nat → Int → Int) (Q : PQ) => c_stand (d := d) (Q := Q) hK (CtyAt_ho (cb := ca) (i := i) (A := A) hca hC') (b := s.1) b5 b1 (encP_lt (B := 4) (n := kN c) (f := calmF c sky s) (fun i _ => tireV_lt))
    rw [← enc_to0 hK] at hst
    have hadd : ∀ (d : Nat) (B : Nat → Int → Int) (deed stand : Int) (Q : PQ), WP d 41 0 [some (vr 27), some (vi deed), some (vi stand)] [] (hoH h ca (iup i 9 0) B) Q = Q none (hoH h ca (iup i 9 1) (aup (aup B 32 (fset (B 32) 0 deed)) 33 (fset (B 33) 0 stand))) := fun d B deed stand Q => j_add (n := 0) (by omega)
    have hI1 : hoOK c sky e i B1 := by
      have := hoOK_i (n := i 9) hB1
      rw [iup_iup, iup_id] at this
      exact this
    have hy : nxTo c sky s 1 = [(0, toM c sky s 0)] := nxTo_yes (canM_0 hd')
    have hLn : lsOK c (nxTo c sky s (1 + 0)) (aup (aup B1 32 (fset (B1 32) 0 0)) 33 (fset (B1 33) 0 (encC c (toM c sky s 0)))) := by
      rw [show 1 + 0 = 1 from rfl, hy]
      exact lsOK_add (L := []) (dd := 0) lsOK_nil
    obtain ⟨B2, m7, m8, m9, hB2, hL2, g2⟩ := sp_lp2 hO hca hC' hs hd' (kN c) 0 (aup (aup B1 32 (fset (B1 32) 0 0)) 33 (fset (B1 33) 0 (encC c (toM c sky s 0)))) none none none (by omega) (hoOK_x hI1 (by rw [aup_n (by omega), aup_n (by omega)]) (by rw [aup_n (by omega), aup_n (by omega)])) hLn
    obtain ⟨B3, hB3, hL3, g3⟩ := sp_lp3 hO hca hC' hs hd' (kN c) 0 B2 m7 m8 m9 none none none (by omega) hB2 hL2
    refine ⟨B3, hB3, hL3, fun d Q => ?_⟩
    rw [← g3 d Q]
    have g2' := g2 d Q
    have g1' := g1 d Q
    rw [show 1 + 0 = 1 from rfl, hy] at g2'
    simp (disch := omega) only [e_40_0, e_40_1, e_40_2, e_40_5, e_40_6, e_40_9, e_40_10, e_40_13, e_40_16, e_40_17, e_40_18, e_40_21, e_40_22, e_40_25, e_40_26, e_40_27, e_40_30, e_40_31, e_40_34, e_40_35, e_40_36, e_40_39, e_40_42, e_40_43, e_40_44, e_40_46, e_40_47, e_40_49, e_40_50, o0, o6, hA, h6, hpl', hdn, hbr, hpg, hoO_c, hoO_g0, hoO_k0, hoO_g1, hoO_k1, hoO_g2, hoO_k2, hoO_g3, hoO_k3, hoO_g4, hoO_k4, hoO_g5, hoO_k5, hoO_g6, hoO_k6, hoO_g7, hoO_k7, hoO_g8, hoO_k8, hoO_g9, hoO_k9, hoO_s0, hoO_s1, hoO_s2, hoO_s9, ho_1, ho_2, ho_g27, ho_g28, ho_g29, ho_g30, ho_g31, ho_g32, ho_g33, ho_out, ho_u27, ho_u28, ho_u29, ho_u30, ho_u31, ho_u32, ho_u33, ho_uo, iup_s, iup_n, aup_s, aup_n, ne_eq, not_false_eq_true, sh_0, sh_1, sh_2, sh_3, sh_4, sh_5, sh_8, sh_15, sh_16, sh_24, Int.reducePow, Int.cast_ofNat_Int, w_of, wl_of, ltT, ltF, leT, leF, eqT, eqF, okF_0, okF_s, gF_0, gF_s, consC_o, sF_0, sF_s, clsO_o, inA_i, ldA_i, stA_i, inJ_l, ldJ_l, stJ_l, inR_r, ldR_r, stR_r, tgR_r, lenA_i, lenA_l, lenA_r, lenA_ex, nl_i, nl_o, nl_l, nl_n, wd_n, wd_i, wd_l, wd_o, fit_i, fit_l, fit_o, K_v, K_n, true_and, and_true, Nat.reduceAdd, Nat.reduceLeDiff, Nat.reduceEqDiff, Nat.reduceMul, Nat.reduceLT, reduceIte, true_or, or_true, cmp_lt, cmp_gt, cmp_eq, wb_0, b_01, cmp_lt', cmp_gt', cmp_eq', b_0, b_1, wb_1, Int.reduceSub, Int.reduceToNat, List.getD_cons_succ, List.getD_cons_zero, Int.reduceLE, Int.reduceLT, Int.reduceEq, Int.reduceNeg, Int.reduceAdd, Int.reduceMul, and_self]
    refine Eq.trans g1' ?_
    simp (disch := omega) only [e_40_116, e_40_117, e_40_118, e_40_119, e_40_122, e_40_123, e_40_124, e_40_126, e_40_129, e_40_132, e_40_133, o0, hA, hst, hadd, hoO_c, hoO_g0, hoO_k0, hoO_g1, hoO_k1, hoO_g2, hoO_k2, hoO_g3, hoO_k3, hoO_g4, hoO_k4, hoO_g5, hoO_k5, hoO_g6, hoO_k6, hoO_g7, hoO_k7, hoO_g8, hoO_k8, hoO_g9, hoO_k9, hoO_s0, hoO_s1, hoO_s2, hoO_s9, ho_1, ho_2, ho_g27, ho_g28, ho_g29, ho_g30, ho_g31, ho_g32, ho_g33, ho_out, ho_u27, ho_u28, ho_u29, ho_u30, ho_u31, ho_u32, ho_u33, ho_uo, iup_s, iup_n, aup_s, aup_n, ne_eq, not_false_eq_true, sh_0, sh_1, sh_2, sh_3, sh_4, sh_5, sh_8, sh_15, sh_16, sh_24, Int.reducePow, Int.cast_ofNat_Int, w_of, wl_of, ltT, ltF, leT, leF, eqT, eqF, okF_0, okF_s, gF_0, gF_s, consC_o, sF_0, sF_s, clsO_o, inA_i, ldA_i, stA_i, inJ_l, ldJ_l, stJ_l, inR_r, ldR_r, stR_r, tgR_r, lenA_i, lenA_l, lenA_r, lenA_ex, nl_i, nl_o, nl_l, nl_n, wd_n, wd_i, wd_l, wd_o, fit_i, fit_l, fit_o, K_v, K_n, true_and, and_true, Nat.reduceAdd, Nat.reduceLeDiff, Nat.reduceEqDiff, Nat.reduceMul, Nat.reduceLT, reduceIte, true_or, or_true, cmp_lt, cmp_gt, cmp_eq, wb_0, b_01, cmp_lt', cmp_gt', cmp_eq', b_0, b_1, wb_1, Int.reduceSub, Int.reduceToNat, List.getD_cons_succ, List.getD_cons_zero, Int.reduceLE, Int.reduceLT, Int.reduceEq, Int.reduceNeg, Int.reduceAdd, Int.reduceMul, and_self]
    refine Eq.trans g2' ?_
    simp (disch := omega) only [e_40_264, e_40_265, hoO_c, hoO_g0, hoO_k0, hoO_g1, hoO_k1, hoO_g2, hoO_k2, hoO_g3, hoO_k3, hoO_g4, hoO_k4, hoO_g5, hoO_k5, hoO_g6, hoO_k6, hoO_g7, hoO_k7, hoO_g8, hoO_k8, hoO_g9, hoO_k9, hoO_s0, hoO_s1, hoO_s2, hoO_s9, ho_1, ho_2, ho_g27, ho_g28, ho_g29, ho_g30, ho_g31, ho_g32, ho_g33, ho_out, ho_u27, ho_u28, ho_u29, ho_u30, ho_u31, ho_u32, ho_u33, ho_uo, iup_s, iup_n, aup_s, aup_n, ne_eq, not_false_eq_true, sh_0, sh_1, sh_2, sh_3, sh_4, sh_5, sh_8, sh_15, sh_16, sh_24, Int.reducePow, Int.cast_ofNat_Int, w_of, wl_of, ltT, ltF, leT, leF, eqT, eqF, okF_0, okF_s, gF_0, gF_s, consC_o, sF_0, sF_s, clsO_o, inA_i, ldA_i, stA_i, inJ_l, ldJ_l, stJ_l, inR_r, ldR_r, stR_r, tgR_r, lenA_i, lenA_l, lenA_r, lenA_ex, nl_i, nl_o, nl_l, nl_n, wd_n, wd_i, wd_l, wd_o, fit_i, fit_l, fit_o, K_v, K_n, true_and, and_true, Nat.reduceAdd, Nat.reduceLeDiff, Nat.reduceEqDiff, Nat.reduceMul, Nat.reduceLT, reduceIte, true_or, or_true, cmp_lt, cmp_gt, cmp_eq, wb_0, b_01, cmp_lt', cmp_gt', cmp_eq', b_0, b_1, wb_1, Int.reduceSub, Int.reduceToNat, List.getD_cons_succ, List.getD_cons_zero, Int.reduceLE, Int.reduceLT, Int.reduceEq, Int.reduceNeg, Int.reduceAdd, Int.reduceMul, and_self]
