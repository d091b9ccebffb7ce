theorem ior_comm (x y : Int) : ior x y = ior y x := by unfold ior; rw [Int32.or_comm]
theorem e_str {c : KC} {s : ST} (hK : okK c) (hs : okS c s) {p : Nat} (hp : p < kN c) : iand ((encC c s : Int) / 2 ^ sh (2 * (p : Int))) 3 = (s.2.2 p : Int) := by
  obtain ⟨b1, b2, b3, b4, b5, b6⟩ := okS_bounds hs hK.2.2 hK.2.1 hK.1
  have hN := hK.2.2
  have := shr_nat (a := encC c s) (k := 2 * p) (by omega) (by omega)
  rw [w_nat (by omega)] at this
  rw [cast2, this, iand_3, castM4, four_pow, encC_str hs hp]
theorem e_pl {c : KC} {s : ST} (hK : okK c) (hs : okS c s) {p : Nat} (hp : p < kN c) : iand ((encP 8 (kN c) s.2.1 : Int) / 2 ^ sh (3 * (p : Int))) 7 = (s.2.1 p : Int) := by
  have hN := hK.2.2
  obtain ⟨e8, d8⟩ := encP8_lt hK (fun i hi => (hs.1 i hi).1)
  have := shr_nat (a := encP 8 (kN c) s.2.1) (k := 3 * p) (by omega) (by omega)
  rw [w_nat (by omega)] at this
  rw [cast3, this, iand_7, castM8, pow8, encP_digit d8 hp]
theorem e_calm {f : Nat → Nat} {p v : Nat} (hp : p < 3) (hf : ∀ i, i < p → f i < 4) (hv : v < 4) : ior (encP 4 p f : Int) ((v : Int) * 2 ^ sh (2 * (p : Int))) = ((encP 4 p f + v * 4 ^ p : Nat) : Int) := by
  have hl := encP_lt (B := 4) hf
  have h4 : 4 ^ p ≤ 4 ^ 2 := Nat.pow_le_pow_right (by decide) (by omega)
  have hm : v * 4 ^ p ≤ 3 * 16 := Nat.mul_le_mul (by omega) h4
  rw [ior_comm, cast2, sh_nat (by omega), castP, ← Int.natCast_mul, four_pow]
  have := ior_add (k := 2 * p) (a := encP 4 p f) (b := v) (by rw [four_pow]; exact hl) (by rw [four_pow]; omega)
  rw [four_pow] at this
  rw [this]
  congr 1
  omega
theorem h_tire' {ca : Nat} {h : PH} {c : KC} {sky e p str bears k goes : Nat} {i : Nat → Int} {A : Nat → Int → Int} {ip is ib ik ig : Int} (hO : okC c) (hca : outH ca) (hC : CtyAt h ca c) (hI : hoOK c sky e i A) (hpn : p < kN c) (hs : str < 4) (hb : bears < 2) (hk : k < 5) (hg : goes < 2) (e1 : ip = (p : Int)) (e2 : is = (str : Int)) (e3 : ib = (bears : Int)) (e4 : ik = (k : Int)) (e5 : ig = (goes : Int)) :
    ∃ B, hoOK c sky e i B ∧ B 32 = A 32 ∧ B 33 = A 33 ∧ ∀ d Q, WP (d + 5) 43 0 [some (vr 27), some (vi ip), some (vi is), some (vi ib), some (vi ik), some (vi ig), none, none, none] [] (hoH h ca i A) Q = Q (some (vi (tireV c sky p str bears k goes))) (hoH h ca i B) := by
  subst e1 e2 e3 e4 e5
  exact h_tire hO hca hC hI hpn hs hb hk hg
theorem h_mayGo' {ca : Nat} {h : PH} {c : KC} {sky e p str bears fr to : Nat} {i : Nat → Int} {A : Nat → Int → Int} {ip is ib ik ig : Int} (hO : okC c) (hca : outH ca) (hC : CtyAt h ca c) (hI : hoOK c sky e i A) (hpn : p < kN c) (hs : str < 4) (hb : bears < 2) (hk : fr < 5) (hg : to < 5) (e1 : ip = (p : Int)) (e2 : is = (str : Int)) (e3 : ib = (bears : Int)) (e4 : ik = (fr : Int)) (e5 : ig = (to : Int)) :
    ∃ B, hoOK c sky e i B ∧ B 32 = A 32 ∧ B 33 = A 33 ∧ ∀ d Q, WP (d + 5) 44 0 [some (vr 27), some (vi ip), some (vi is), some (vi ib), some (vi ik), some (vi ig), none, none, none] [] (hoH h ca i A) Q = Q (some (vi (if mayV c sky p str bears fr to then 1 else 0))) (hoH h ca i B) := by
  subst e1 e2 e3 e4 e5
  exact h_mayGo hO hca hC hI hpn hs hb hk hg
noncomputable def calmF (c : KC) (sky : Nat) (s : ST) : Nat → Nat := fun r => tireV c sky r (s.2.2 r) (bearN s r) (s.2.1 r) 0
theorem CtyAt_ho {h : PH} {ca : Nat} {c : KC} {cb : Nat} {i : Nat → Int} {A : Nat → Int → Int} (hca : outH ca) (hC : CtyAt h ca c) : CtyAt (hoH h cb i A) ca c := by
  unfold outH at hca
  exact CtyAt_frame (fun k h1 h2 => ho_out (by omega)) hC
theorem hoOK_i {c : KC} {sky e : Nat} {i : Nat → Int} {A : Nat → Int → Int} {n : Int} (h : hoOK c sky e i A) : hoOK c sky e (iup i 9 n) A := by
  obtain ⟨h1, h2, h3⟩ := h
  exact ⟨by rw [iup_n (by omega)]; exact h1, by rw [iup_n (by omega)]; exact h2, h3⟩
theorem sp_lp1 {ca : Nat} {h : PH} {c : KC} {sky e : Nat} {s : ST} {i : Nat → Int} (hO : okC c) (hca : outH ca) (hC : CtyAt h ca c) (hs : okS c s) :
    ∀ r p A, p + r = kN c → hoOK c sky e i A → ∃ B, hoOK c sky e i B ∧ B 32 = A 32 ∧ B 33 = A 33 ∧ ∀ d Q, WP (d + 8) 40 52 [some (vr 27), some (vi (encC c s)), some (vi s.1), some (vi (encP (kP c) (kN c) s.2.1)), some (vi (encP 8 (kN c) s.2.1)), some (vi (encP 4 p (calmF c sky s))), some (vi p), none, none, none, none, none, none] [] (hoH h ca i A) Q = WP (d + 8) 40 116 [some (vr 27), some (vi (encC c s)), some (vi s.1), some (vi (encP (kP c) (kN c) s.2.1)), some (vi (encP 8 (kN c) s.2.1)), some (vi (encP 4 (kN c) (calmF c sky s))), some (vi (kN c)), none, none, none, none, none, none] [] (hoH h ca i B) Q := by
  have hK := hO.1
  have hN := hK.2.2
  have hC' := hC
  obtain ⟨tf, tt, mf, mt, n, fh, fw, fa, fc, fg, fp, hA, -⟩ := hC
  have o0 : ∀ i A, hp (hoH h ca i A) ca = hp h ca := fun i A => ho_out (by unfold outH at hca; omega)
  obtain ⟨b1, b2, b3, b4, b5, b6⟩ := okS_bounds hs hK.2.2 hK.2.1 hK.1
  obtain ⟨e8, d8⟩ := encP8_lt hK (fun i hi => (hs.1 i hi).1)
  intro r
  induction r with
  | zero =>
    intro p A hp' hI
    refine ⟨A, hI, rfl, rfl, fun d Q => ?_⟩
    have : p = kN c := by omega
    subst this
    rw [e_40_52]
    simp (disch := omega) only [e_40_54, e_40_55, e_40_58, e_40_61, o0, hA, hoO_c, hoO_g0, hoO_k0, hoO_g1, hoO_k1, hoO_g2, hoO_k2, hoO_g3, hoO_k3, hoO_g4, hoO_k4, hoO_g5, hoO_k5, hoO_g6, hoO_k6, hoO_g7, hoO_k7, hoO_g8, hoO_k8, hoO_g9, hoO_k9, hoO_s0, hoO_s1, hoO_s2, hoO_s9, ho_1, ho_2, ho_g27, ho_g28, ho_g29, ho_g30, ho_g31, ho_g32, ho_g33, ho_out, ho_u27, ho_u28, ho_u29, ho_u30, ho_u31, ho_u32, ho_u33, ho_uo, iup_s, iup_n, aup_s, aup_n, ne_eq, not_false_eq_true, sh_0, sh_1, sh_2, sh_3, sh_4, sh_5, sh_8, sh_15, sh_16, sh_24, Int.reducePow, Int.cast_ofNat_Int, w_of, wl_of, ltT, ltF, leT, leF, eqT, eqF, okF_0, okF_s, gF_0, gF_s, consC_o, sF_0, sF_s, clsO_o, inA_i, ldA_i, stA_i, inJ_l, ldJ_l, stJ_l, inR_r, ldR_r, stR_r, tgR_r, lenA_i, lenA_l, lenA_r, lenA_ex, nl_i, nl_o, nl_l, nl_n, wd_n, wd_i, wd_l, wd_o, fit_i, fit_l, fit_o, K_v, K_n, true_and, and_true, Nat.reduceAdd, Nat.reduceLeDiff, Nat.reduceEqDiff, Nat.reduceMul, Nat.reduceLT, reduceIte, true_or, or_true, cmp_lt, cmp_gt, cmp_eq, wb_0, b_01, cmp_lt', cmp_gt', cmp_eq', b_0, b_1, wb_1, Int.reduceSub, Int.reduceToNat, List.getD_cons_succ, List.getD_cons_zero, Int.reduceLE, Int.reduceLT, Int.reduceEq, Int.reduceNeg, Int.reduceAdd, Int.reduceMul, and_self]
  | succ r ih =>
    intro p A hp' hI
    have hpn : p < kN c := by omega
    have hP := hK.2.1
    obtain ⟨hp1, hp2⟩ := hs.1 p hpn
    have es := e_str hK hs hpn
    have ep := e_pl hK hs hpn
    have ec := e_calm (f := calmF c sky s) (p := p) (v := tireV c sky p (s.2.2 p) (bearN s p) (s.2.1 p) 0) (by omega) (fun i _ => tireV_lt) tireV_lt
    by_cases q : p = s.1
    · obtain ⟨B1, hB1, k1, k2, hg⟩ := h_tire' (ip := (p : Int)) (is := (s.2.2 p : Int)) (ib := 1) (ik := (s.2.1 p : Int)) (ig := 0) hO hca hC' hI hpn hp2 (bearN_lt (s := s) (p := p)) (show s.2.1 p < 5 by omega) (show 0 < 2 by omega) rfl rfl (by unfold bearN; rw [if_pos q]; rfl) rfl rfl
      obtain ⟨B, hB, k3, k4, hih⟩ := ih (p + 1) B1 (by omega) hB1
      refine ⟨B, hB, by rw [k3, k1], by rw [k4, k2], fun d Q => ?_⟩
      rw [← hih d Q]
      rw [e_40_52]
      simp (disch := omega) only [e_40_54, e_40_55, e_40_58, e_40_61, e_40_64, e_40_66, e_40_67, e_40_69, e_40_70, e_40_71, e_40_73, e_40_74, e_40_75, e_40_76, e_40_77, e_40_79, e_40_80, e_40_83, e_40_84, e_40_87, e_40_88, e_40_90, e_40_91, e_40_93, e_40_94, e_40_95, e_40_97, e_40_98, e_40_99, e_40_102, e_40_103, e_40_105, e_40_106, e_40_107, e_40_108, e_40_110, e_40_113, o0, hA, es, ep, hg, ec, hoO_c, hoO_g0, hoO_k0, hoO_g1, hoO_k1, hoO_g2, hoO_k2, hoO_g3, hoO_k3, hoO_g4, hoO_k4, hoO_g5, hoO_k5, hoO_g6, hoO_k6, hoO_g7, hoO_k7, hoO_g8, hoO_k8, hoO_g9, hoO_k9, hoO_s0, hoO_s1, hoO_s2, hoO_s9, ho_1, ho_2, ho_g27, ho_g28, ho_g29, ho_g30, ho_g31, ho_g32, ho_g33, ho_out, ho_u27, ho_u28, ho_u29, ho_u30, ho_u31, ho_u32, ho_u33, ho_uo, iup_s, iup_n, aup_s, aup_n, ne_eq, not_false_eq_true, sh_0, sh_1, sh_2, sh_3, sh_4, sh_5, sh_8, sh_15, sh_16, sh_24, Int.reducePow, Int.cast_ofNat_Int, w_of, wl_of, ltT, ltF, leT, leF, eqT, eqF, okF_0, okF_s, gF_0, gF_s, consC_o, sF_0, sF_s, clsO_o, inA_i, ldA_i, stA_i, inJ_l, ldJ_l, stJ_l, inR_r, ldR_r, stR_r, tgR_r, lenA_i, lenA_l, lenA_r, lenA_ex, nl_i, nl_o, nl_l, nl_n, wd_n, wd_i, wd_l, wd_o, fit_i, fit_l, fit_o, K_v, K_n, true_and, and_true, Nat.reduceAdd, Nat.reduceLeDiff, Nat.reduceEqDiff, Nat.reduceMul, Nat.reduceLT, reduceIte, true_or, or_true, cmp_lt, cmp_gt, cmp_eq, wb_0, b_01, cmp_lt', cmp_gt', cmp_eq', b_0, b_1, wb_1, Int.reduceSub, Int.reduceToNat, List.getD_cons_succ, List.getD_cons_zero, Int.reduceLE, Int.reduceLT, Int.reduceEq, Int.reduceNeg, Int.reduceAdd, Int.reduceMul, and_self]
      rfl
    · obtain ⟨B1, hB1, k1, k2, hg⟩ := h_tire' (ip := (p : Int)) (is := (s.2.2 p : Int)) (ib := 0) (ik := (s.2.1 p : Int)) (ig := 0) hO hca hC' hI hpn hp2 (bearN_lt (s := s) (p := p)) (show s.2.1 p < 5 by omega) (show 0 < 2 by omega) rfl rfl (by unfold bearN; rw [if_neg q]; rfl) rfl rfl
      obtain ⟨B, hB, k3, k4, hih⟩ := ih (p + 1) B1 (by omega) hB1
      refine ⟨B, hB, by rw [k3, k1], by rw [k4, k2], fun d Q => ?_⟩
      rw [← hih d Q]
      rw [e_40_52]
      simp (disch := omega) only [e_40_54, e_40_55, e_40_58, e_40_61, e_40_64, e_40_66, e_40_67, e_40_69, e_40_70, e_40_71, e_40_73, e_40_74, e_40_75, e_40_76, e_40_77, e_40_79, e_40_80, e_40_83, e_40_84, e_40_87, e_40_88, e_40_90, e_40_91, e_40_93, e_40_94, e_40_95, e_40_97, e_40_98, e_40_99, e_40_102, e_40_103, e_40_105, e_40_106, e_40_107, e_40_108, e_40_110, e_40_113, o0, hA, es, ep, hg, ec, hoO_c, hoO_g0, hoO_k0, hoO_g1, hoO_k1, hoO_g2, hoO_k2, hoO_g3, hoO_k3, hoO_g4, hoO_k4, hoO_g5, hoO_k5, hoO_g6, hoO_k6, hoO_g7, hoO_k7, hoO_g8, hoO_k8, hoO_g9, hoO_k9, hoO_s0, hoO_s1, hoO_s2, hoO_s9, ho_1, ho_2, ho_g27, ho_g28, ho_g29, ho_g30, ho_g31, ho_g32, ho_g33, ho_out, ho_u27, ho_u28, ho_u29, ho_u30, ho_u31, ho_u32, ho_u33, ho_uo, iup_s, iup_n, aup_s, aup_n, ne_eq, not_false_eq_true, sh_0, sh_1, sh_2, sh_3, sh_4, sh_5, sh_8, sh_15, sh_16, sh_24, Int.reducePow, Int.cast_ofNat_Int, w_of, wl_of, ltT, ltF, leT, leF, eqT, eqF, okF_0, okF_s, gF_0, gF_s, consC_o, sF_0, sF_s, clsO_o, inA_i, ldA_i, stA_i, inJ_l, ldJ_l, stJ_l, inR_r, ldR_r, stR_r, tgR_r, lenA_i, lenA_l, lenA_r, lenA_ex, nl_i, nl_o, nl_l, nl_n, wd_n, wd_i, wd_l, wd_o, fit_i, fit_l, fit_o, K_v, K_n, true_and, and_true, Nat.reduceAdd, Nat.reduceLeDiff, Nat.reduceEqDiff, Nat.reduceMul, Nat.reduceLT, reduceIte, true_or, or_true, cmp_lt, cmp_gt, cmp_eq, wb_0, b_01, cmp_lt', cmp_gt', cmp_eq', b_0, b_1, wb_1, Int.reduceSub, Int.reduceToNat, List.getD_cons_succ, List.getD_cons_zero, Int.reduceLE, Int.reduceLT, Int.reduceEq, Int.reduceNeg, Int.reduceAdd, Int.reduceMul, and_self]
      rfl
