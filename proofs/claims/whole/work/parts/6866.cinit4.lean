/-! THE CLASS: a County out of the draft: the whole constructor -/
def cy0 : PC := oC 2 [vi 0, vi 0, vi 0, vi 0, vn, vn, vn, vn, vi 0, vi 0, vi 0, vi 0, vi 0, vi 0, vn, vn, vi 0, vi 0]
theorem cH_00 {h : PH} {a : Nat} {X : Nat → PC} (ha : h.1 = a) : cH h a 0 0 X = h := by
  unfold cH
  refine Prod.ext ha.symm (Prod.ext rfl (funext fun k => ?_))
  dsimp only
  rw [if_neg (by omega)]
theorem m_max1 {v : Nat} (hv : v < 2147483648) {d : Nat} {h : PH} {Q : PQ} : WP d 298 0 [some (vi 1), some (vi v)] [] h Q = Q (some (vi ((max 1 v : Nat) : Int))) h := by
  rw [m_max, w_of (by omega) (by omega), w_of (by omega) (by omega)]
  by_cases q : (1 : Int) < (v : Int)
  · rw [if_pos q, show max 1 v = v by omega]
  · rw [if_neg q, show max 1 v = 1 by omega]; rfl
section ci
variable {h : PH} {a : Nat} {j : Nat → Int} {A : Nat → Int → Int} {c : KC} {C : List Int}
theorem ci_front {u : Nat} (ha : 20 ≤ a) (hu : u ≤ 900) (hj : j 2 = (u : Int)) (hD : okD c) (hX : rdX h j A) (hR : rdD j A C c) : ∃ (X' : Nat → PC) (g : Int → Int), (∀ k : Nat, k < u → g k = A 14 k) ∧ X' 0 = cyF c a (j 13) (j 14) (j 15) (j 16) 0 0 0 vn ∧ X' 1 = aI 0 5 (A 15) ∧ X' 2 = aI 0 5 (A 16) ∧ X' 3 = aI 0 3 (A 18) ∧ X' 4 = aI 0 u g ∧ X' 5 = aI 0 3 (fun _ => 0) ∧ ∀ d Q, WP (d + 2) 17 0 [some (vr a), some (vr 13), none, none, none, none, none] [] (cH h a 1 18 (fun _ => cy0)) Q = WP (d + 2) 17 152 [some (vr a), some (vr 13), some (vi 1), some (vi 0), some (vi 0), some (vi 0), none] [] (cH h a 6 (18 + 5 + 5 + 3 + u + 3) X') Q := by
  obtain ⟨x13, x14, x15, x16, x17, x18, x19⟩ := hX
  obtain ⟨r3, r4, r12, r11, -⟩ := hR
  obtain ⟨hP1, hP5, hN3⟩ := hD.1
  obtain ⟨g, hg, cp⟩ := cp_of ha x14 hu
  refine ⟨xup (xup (xup (xup (xup (xup (fun _ => cy0) 0 (cyF c a (j 13) (j 14) (j 15) (j 16) 0 0 0 vn)) 1 (aI 0 5 (A 15))) 2 (aI 0 5 (A 16))) 3 (aI 0 3 (A 18))) 4 (aI 0 u g)) 5 (aI 0 3 (fun _ => 0)), g, hg, ?_, ?_, ?_, ?_, ?_, ?_, fun d Q => ?_⟩
  · rw [xup_n (by omega), xup_n (by omega), xup_n (by omega), xup_n (by omega), xup_n (by omega), xup_s]
  · rw [xup_n (by omega), xup_n (by omega), xup_n (by omega), xup_n (by omega), xup_s]
  · rw [xup_n (by omega), xup_n (by omega), xup_n (by omega), xup_s]
  · rw [xup_n (by omega), xup_n (by omega), xup_s]
  · rw [xup_n (by omega), xup_s]
  · rw [xup_s]
  have t10 : ∀ r : Nat, (10 ≤ a + r) = True := fun r => eq_true (by omega)
  have t10' : (10 ≤ a) = True := eq_true (by omega)
  have cl1 := fun (d : Nat) (ls : PL) (st : List PV) (Q : PQ) (sl : Nat) (X : Nat → PC) => e_17_41 (d := d) (ls := ls) (st := st) (Q := Q) (h := cH h a 1 sl X) (a := 15) (nn := 5) (f := A 15) (by rw [cH_lo (by omega)]; exact x15)
  have cl2 := fun (d : Nat) (ls : PL) (st : List PV) (Q : PQ) (sl : Nat) (X : Nat → PC) => e_17_55 (d := d) (ls := ls) (st := st) (Q := Q) (h := cH h a 2 sl X) (a := 16) (nn := 5) (f := A 16) (by rw [cH_lo (by omega)]; exact x16)
  have cl3 := fun (d : Nat) (ls : PL) (st : List PV) (Q : PQ) (sl : Nat) (X : Nat → PC) => e_17_69 (d := d) (ls := ls) (st := st) (Q := Q) (h := cH h a 3 sl X) (a := 18) (nn := 3) (f := A 18) (by rw [cH_lo (by omega)]; exact x18)
  have e13 : ∀ m sl X, hp (cH h a m sl X) 13 = rdO j := fun m sl X => by rw [cH_lo (by omega)]; exact x13
  have cm : ∀ {X : Nat → PC} {r : Nat} {c d : PC}, r ≠ 0 → xup (xup X r c) 0 d = xup (xup X 0 d) r c := fun {X r c d} hr => by
    funext k
    unfold xup
    by_cases e : k = 0
    · rw [if_pos e, if_neg (by omega), if_pos e]
    · rw [if_neg e, if_neg e]
  have e2 : (2 : Int) * (kN c : Int) = ((2 * kN c : Nat) : Int) := by omega
  unfold cyF
  have c0 : cy0 = oC 2 [vi 0, vi 0, vi 0, vi 0, vn, vn, vn, vn, vi 0, vi 0, vi 0, vi 0, vi 0, vi 0, vn, vn, vi 0, vi 0] := rfl
  simp (disch := omega) only [e_17_0, e_17_1, e_17_4, e_17_5, e_17_6, e_17_9, e_17_12, e_17_13, e_17_14, e_17_17, e_17_20, e_17_21, e_17_22, e_17_25, e_17_28, e_17_29, e_17_30, e_17_33, e_17_36, e_17_37, e_17_38, e_17_44, e_17_47, e_17_50, e_17_51, e_17_52, e_17_58, e_17_61, e_17_64, e_17_65, e_17_66, e_17_72, e_17_75, e_17_78, e_17_79, e_17_80, e_17_83, e_17_84, e_17_87, e_17_90, e_17_93, e_17_94, e_17_95, e_17_98, e_17_101, e_17_102, e_17_103, e_17_106, e_17_109, e_17_110, e_17_111, e_17_114, e_17_117, e_17_118, e_17_119, e_17_122, e_17_125, e_17_126, e_17_127, e_17_128, e_17_131, e_17_132, e_17_135, e_17_136, e_17_137, e_17_139, e_17_142, e_17_143, e_17_144, e_17_145, e_17_146, e_17_147, e_17_149, e_17_150, cl1, cl2, cl3, cp, e13, cH_1, cH_mk, cH_0, cH_in, cH_u0, xup_s, xup_n, xup_xup, cm, c0, exA, r3, r4, r12, r11, hj, e2, t10, t10', ne_eq, not_false_eq_true, true_and, rdO_c, rdO_g0, rdO_k0, rdO_g1, rdO_k1, rdO_g2, rdO_k2, rdO_g3, rdO_k3, rdO_g4, rdO_k4, rdO_g5, rdO_k5, rdO_g6, rdO_k6, rdO_g7, rdO_k7, rdO_g8, rdO_k8, rdO_g9, rdO_k9, rdO_g10, rdO_k10, rdO_g11, rdO_k11, rdO_g12, rdO_k12, rdO_g13, rdO_k13, rdO_g14, rdO_k14, rdO_g15, rdO_k15, rdO_g16, rdO_k16, rdO_g17, rdO_k17, rdO_s2, rdO_s3, rdO_s4, rdO_s10, rdO_s11, rdO_s12, rdO_s13, rdO_s14, rdO_s15, rdO_s16, rdO_s17, sh_0, sh_1, sh_2, sh_3, sh_4, sh_5, sh_8, sh_15, sh_16, sh_24, Int.reducePow, Int.cast_ofNat_Int, w_of, wl_of, ltT, ltF, leT, leF, eqT, eqF, okF_0, okF_s, gF_0, gF_s, consC_o, sF_0, sF_s, clsO_o, inA_i, ldA_i, stA_i, inJ_l, ldJ_l, stJ_l, inR_r, ldR_r, stR_r, tgR_r, lenA_i, lenA_l, lenA_r, lenA_ex, nl_i, nl_o, nl_l, nl_n, wd_n, wd_i, wd_l, wd_o, fit_i, fit_l, fit_o, K_v, K_n, true_and, and_true, Nat.reduceAdd, Nat.reduceLeDiff, Nat.reduceEqDiff, Nat.reduceMul, Nat.reduceLT, reduceIte, true_or, or_true, cmp_lt, cmp_gt, cmp_eq, wb_0, b_01, cmp_lt', cmp_gt', cmp_eq', b_0, b_1, wb_1, Int.reduceSub, Int.reduceToNat, List.getD_cons_succ, List.getD_cons_zero, Int.reduceLE, Int.reduceLT, Int.reduceEq, Int.reduceNeg, Int.reduceAdd, Int.reduceMul, and_self, em_b, ne_eq, not_false_eq_true, not_true_eq_false]
  try rfl
end ci
section ci
variable {h : PH} {a : Nat} {j : Nat → Int} {A : Nat → Int → Int} {c : KC} {C : List Int}
theorem lw_law {g : Int → Int} {fr tt : Int} {l : Option (List Int)} (hg : ∀ k : Nat, k < C.length → g k = C.getD k 0) (h : lwC C fr tt l) : lawAt C.length g fr tt l := by
  cases l with
  | none => exact h
  | some o =>
    obtain ⟨f, h1, h2, h3, h4⟩ := h
    exact ⟨f, h1, h2, h3, fun i hi => by rw [hg _ (by omega)]; exact h4 i hi⟩
theorem or_first (hD : okD c) : ior ((((kFst c).1 : Int) * ((kP c ^ kN c : Nat) : Int) + ((encP (kP c) (kN c) (kFst c).2.1 : Nat) : Int)) * 2 ^ sh ((2 * kN c : Nat) : Int)) ((encP 4 (kN c) (kFst c).2.2 : Nat) : Int) = (encC c (kFst c) : Nat) := by
  obtain ⟨hP1, hP5, hN3⟩ := hD.1
  have hS := hD.2.2.2.2.2.1
  obtain ⟨b1, b2, b3, b4, b5, b6⟩ := okS_bounds hS hN3 hP5 hP1
  rw [sh_nat (by omega), castP, four_pow]
  have e : (((kFst c).1 : Int) * ((kP c ^ kN c : Nat) : Int) + ((encP (kP c) (kN c) (kFst c).2.1 : Nat) : Int)) * ((4 ^ kN c : Nat) : Int) = ((((kFst c).1 * kP c ^ kN c + encP (kP c) (kN c) (kFst c).2.1) * 4 ^ kN c : Nat) : Int) := by
    rw [Int.natCast_mul, Int.natCast_add, Int.natCast_mul]
  have hE : encC c (kFst c) = ((kFst c).1 * kP c ^ kN c + encP (kP c) (kN c) (kFst c).2.1) * 4 ^ kN c + encP 4 (kN c) (kFst c).2.2 := rfl
  rw [e, ior_nat (by omega) (by omega)]
  have := Nat.two_pow_add_eq_or_of_lt (i := 2 * kN c) (b := encP 4 (kN c) (kFst c).2.2) (by rw [four_pow]; exact b2) ((kFst c).1 * kP c ^ kN c + encP (kP c) (kN c) (kFst c).2.1)
  rw [four_pow] at this
  rw [hE, Nat.mul_comm _ (4 ^ kN c), ← this]
theorem ci_all (ha : 20 ≤ a) (hD : okD c) (hX : rdX h j A) (hR : rdD j A C c) (hC : cdC j A C True) : ∃ (X' : Nat → PC) (sl : Nat), sl ≤ 1059 ∧ CtyAt (cH h a 7 sl X') a c ∧ ∀ d Q, WP (d + 2) 17 0 [some (vr a), some (vr 13), none, none, none, none, none] [] (cH h a 1 18 (fun _ => cy0)) Q = Q none (cH h a 7 sl X') := by
  obtain ⟨hj, hC9, hC14⟩ := hC.2 trivial
  obtain ⟨hP1, hP5, hN3⟩ := hD.1
  have hS := hD.2.2.2.2.2.1
  obtain ⟨b1, b2, b3, b4, b5, b6⟩ := okS_bounds hS hN3 hP5 hP1
  obtain ⟨X1, g, hg, a0, a1, a2, a3, a4, a5, a6⟩ := ci_front ha hC9 hj hD hX hR
  have h17 : ∀ p : Nat, p < kN c → A 17 p = ((kFst c).2.1 p : Int) ∧ A 19 p = ((kFst c).2.2 p : Int) := fun p hp => ⟨(hR.2.2.2.2.2.2.1 p hp).1, (hR.2.2.2.2.2.2.1 p hp).2.2⟩
  obtain ⟨X2, fg, w0, w5, wg, wX, wW⟩ := ci_w (sl := 18 + 5 + 5 + 3 + C.length + 3) (o6 := none) ha hD hX h17 (kN c) 0 X1 (fun _ => 0) (by omega) a0 a5 (fun k hk => by omega)
  obtain ⟨fp, o6, pf, pW⟩ := ci_out (h := h) (sl := 18 + 5 + 5 + 3 + C.length + 3 + kP c ^ kN c) (tf := j 13) (tt := j 14) (mf := j 15) (mt := j 16) (pv := ((kP c ^ kN c : Nat) : Int)) (lv := ((encP (kP c) (kN c) (kFst c).2.1 : Nat) : Int)) (sv := ((encP 4 (kN c) (kFst c).2.2 : Nat) : Int)) ha hD wg (kN c) 0 (xup (xup X2 6 (aI 0 (kP c ^ kN c) (fun _ => 0))) 0 (cyF c a (j 13) (j 14) (j 15) (j 16) ((kP c ^ kN c : Nat) : Int) 0 0 (vr (a + 6)))) (fun _ => 0) none (by omega) xup_s (by rw [xup_n (by omega), xup_n (by omega)]; exact w5) (by rw [xup_n (by omega), xup_s]) (fun y hy => by omega) (fun f hf => rfl)
  refine ⟨xup (xup (xup X2 6 (aI 0 (kP c ^ kN c) (fun _ => 0))) 6 (aI 0 (kP c ^ kN c) fp)) 0 (cyF c a (j 13) (j 14) (j 15) (j 16) ((kP c ^ kN c : Nat) : Int) ((max 1 (kN c * kP c ^ kN c * 4 ^ kN c) : Nat) : Int) ((encC c (kFst c) : Nat) : Int) (vr (a + 6))), 18 + 5 + 5 + 3 + C.length + 3 + kP c ^ kN c, by omega, ?_, fun d Q => ?_⟩
  · refine ⟨j 13, j 14, j 15, j 16, C.length, A 15, A 16, A 18, g, fg, fp, ?_, ?_, ?_, ?_, ?_, ?_, ?_, fun k hk => (hR.2.2.2.2.2.1 k hk).1, fun k hk => (hR.2.2.2.2.2.1 k hk).2, fun p hp => (hR.2.2.2.2.2.2.1 p hp).2.1, wg, pf, lw_law (fun k hk => by rw [hg k hk]; exact hC14 k hk) hR.2.2.2.2.2.2.2.1, lw_law (fun k hk => by rw [hg k hk]; exact hC14 k hk) hR.2.2.2.2.2.2.2.2, hC9⟩
    · rw [cH_0 (by omega), xup_s]; rfl
    · rw [cH_in (by omega), xup_n (by omega), xup_n (by omega), xup_n (by omega), wX _ (by omega)]; exact a1
    · rw [cH_in (by omega), xup_n (by omega), xup_n (by omega), xup_n (by omega), wX _ (by omega)]; exact a2
    · rw [cH_in (by omega), xup_n (by omega), xup_n (by omega), xup_n (by omega), wX _ (by omega)]; exact a3
    · rw [cH_in (by omega), xup_n (by omega), xup_n (by omega), xup_n (by omega), wX _ (by omega)]; exact a4
    · rw [cH_in (by omega), xup_n (by omega), xup_n (by omega), xup_n (by omega)]; exact w5
    · rw [cH_in (by omega), xup_n (by omega), xup_s]; rfl
  · rw [a6 d Q]
    have ww := wW (d + 2) Q
    rw [Nat.pow_zero] at ww
    refine ww.trans ?_
    have t10 : ∀ r : Nat, (10 ≤ a + r) = True := fun r => eq_true (by omega)
    have t10' : (10 ≤ a) = True := eq_true (by omega)
    have z1 : 0 ≤ ((kP c ^ kN c : Nat) : Int) := by omega
    have z2 : ((kP c ^ kN c : Nat) : Int) ≤ 500000 := by omega
    have cm : ∀ {X : Nat → PC} {c d : PC}, xup (xup X 0 c) 6 d = xup (xup X 6 d) 0 c := fun {X c d} => by
      funext k
      unfold xup
      by_cases e : k = 6
      · rw [if_pos e, if_neg (by omega), if_pos e]
      · rw [if_neg e, if_neg e]
    have A1 : WP (d + 2) 17 211 [some (vr a), some (vr 13), some (vi ((kP c ^ kN c : Nat) : Int)), some (vi ((encP (kP c) (kN c) (kFst c).2.1 : Nat) : Int)), some (vi ((encP 4 (kN c) (kFst c).2.2 : Nat) : Int)), some (vi (kN c)), none] [] (cH h a 6 (18 + 5 + 5 + 3 + C.length + 3) X2) Q = WP (d + 2) 17 226 [some (vr a), some (vr 13), some (vi ((kP c ^ kN c : Nat) : Int)), some (vi ((encP (kP c) (kN c) (kFst c).2.1 : Nat) : Int)), some (vi ((encP 4 (kN c) (kFst c).2.2 : Nat) : Int)), some (vi (0 : Nat)), none] [] (cH h a 7 (18 + 5 + 5 + 3 + C.length + 3 + kP c ^ kN c) (xup (xup X2 6 (aI 0 (kP c ^ kN c) (fun _ => 0))) 0 (cyF c a (j 13) (j 14) (j 15) (j 16) ((kP c ^ kN c : Nat) : Int) 0 0 (vr (a + 6))))) Q := by
      have e0 : (((0 : Nat) : Int)) = 0 := rfl
      unfold cyF at w0 ⊢
      simp (disch := omega) only [e_17_211, e_17_212, e_17_213, e_17_216, e_17_217, e_17_218, e_17_220, e_17_223, e_17_224, w0, cH_1, cH_mk, cH_0, cH_in, cH_u0, xup_s, xup_n, xup_xup, cm, e0, z1, z2, t10, t10', Int.toNat_natCast, ne_eq, not_false_eq_true, true_and, iup_s, iup_n, hp_up1, hp_upn, ne_eq, not_false_eq_true, sh_0, sh_1, sh_2, sh_3, sh_4, sh_5, sh_8, sh_15, sh_16, sh_24, Int.reducePow, Int.cast_ofNat_Int, w_of, wl_of, ltT, ltF, leT, leF, eqT, eqF, okF_0, okF_s, gF_0, gF_s, consC_o, sF_0, sF_s, clsO_o, inA_i, ldA_i, stA_i, inJ_l, ldJ_l, stJ_l, inR_r, ldR_r, stR_r, tgR_r, lenA_i, lenA_l, lenA_r, lenA_ex, nl_i, nl_o, nl_l, nl_n, wd_n, wd_i, wd_l, wd_o, fit_i, fit_l, fit_o, K_v, K_n, true_and, and_true, Nat.reduceAdd, Nat.reduceLeDiff, Nat.reduceEqDiff, Nat.reduceMul, Nat.reduceLT, reduceIte, true_or, or_true, cmp_lt, cmp_gt, cmp_eq, wb_0, b_01, cmp_lt', cmp_gt', cmp_eq', b_0, b_1, wb_1, Int.reduceSub, Int.reduceToNat, List.getD_cons_succ, List.getD_cons_zero, Int.reduceLE, Int.reduceLT, Int.reduceEq, Int.reduceNeg, Int.reduceAdd, Int.reduceMul, and_self, em_b, ne_eq, not_false_eq_true, not_true_eq_false]
      try rfl
    refine A1.trans ((pW (d + 2) Q).trans ?_)
    have mx := fun (d : Nat) (h : PH) (Q : PQ) => m_max1 (d := d) (h := h) (Q := Q) (v := kN c * kP c ^ kN c * 4 ^ kN c) (by
      have : kN c * kP c ^ kN c * 4 ^ kN c ≤ 3 * 125 * 64 := Nat.mul_le_mul (Nat.mul_le_mul hN3 b3) b4
      omega)
    have es : ((kN c : Int) * ((kP c ^ kN c : Nat) : Int)) * 2 ^ sh ((2 * kN c : Nat) : Int) = ((kN c * kP c ^ kN c * 4 ^ kN c : Nat) : Int) := by
      rw [sh_nat (by omega), castP, four_pow, Int.natCast_mul, Int.natCast_mul]
    have ef := or_first hD
    have e13 : ∀ m sl X, hp (cH h a m sl X) 13 = rdO j := fun m sl X => by rw [cH_lo (by omega)]; exact hX.1
    have r10 := hR.2.2.2.2.1
    unfold cyF
    simp (disch := omega) only [e_17_302, e_17_303, e_17_304, e_17_305, e_17_308, e_17_309, e_17_310, e_17_311, e_17_314, e_17_315, e_17_318, e_17_321, e_17_322, e_17_323, e_17_326, e_17_327, e_17_328, e_17_329, e_17_330, e_17_331, e_17_334, e_17_335, e_17_337, e_17_338, e_17_341, mx, es, ef, e13, r10, cH_1, cH_0, cH_in, cH_u0, xup_s, xup_n, xup_xup, cm, t10, t10', ne_eq, not_false_eq_true, true_and, rdO_c, rdO_g0, rdO_k0, rdO_g1, rdO_k1, rdO_g2, rdO_k2, rdO_g3, rdO_k3, rdO_g4, rdO_k4, rdO_g5, rdO_k5, rdO_g6, rdO_k6, rdO_g7, rdO_k7, rdO_g8, rdO_k8, rdO_g9, rdO_k9, rdO_g10, rdO_k10, rdO_g11, rdO_k11, rdO_g12, rdO_k12, rdO_g13, rdO_k13, rdO_g14, rdO_k14, rdO_g15, rdO_k15, rdO_g16, rdO_k16, rdO_g17, rdO_k17, rdO_s2, rdO_s3, rdO_s4, rdO_s10, rdO_s11, rdO_s12, rdO_s13, rdO_s14, rdO_s15, rdO_s16, rdO_s17, sh_0, sh_1, sh_2, sh_3, sh_4, sh_5, sh_8, sh_15, sh_16, sh_24, Int.reducePow, Int.cast_ofNat_Int, w_of, wl_of, ltT, ltF, leT, leF, eqT, eqF, okF_0, okF_s, gF_0, gF_s, consC_o, sF_0, sF_s, clsO_o, inA_i, ldA_i, stA_i, inJ_l, ldJ_l, stJ_l, inR_r, ldR_r, stR_r, tgR_r, lenA_i, lenA_l, lenA_r, lenA_ex, nl_i, nl_o, nl_l, nl_n, wd_n, wd_i, wd_l, wd_o, fit_i, fit_l, fit_o, K_v, K_n, true_and, and_true, Nat.reduceAdd, Nat.reduceLeDiff, Nat.reduceEqDiff, Nat.reduceMul, Nat.reduceLT, reduceIte, true_or, or_true, cmp_lt, cmp_gt, cmp_eq, wb_0, b_01, cmp_lt', cmp_gt', cmp_eq', b_0, b_1, wb_1, Int.reduceSub, Int.reduceToNat, List.getD_cons_succ, List.getD_cons_zero, Int.reduceLE, Int.reduceLT, Int.reduceEq, Int.reduceNeg, Int.reduceAdd, Int.reduceMul, and_self, em_b, ne_eq, not_false_eq_true, not_true_eq_false]
    try rfl
end ci
