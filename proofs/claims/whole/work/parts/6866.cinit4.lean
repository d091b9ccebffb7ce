/-! THE CLASS: a County out of the draft: the whole constructor -/
def cy0 : PC := oC 2 [vi 0, vi 0, vi 0, vi 0, vn, vn, vn, vn, vi 0, vi 0, vi 0, vi 0, vi 0, vi 0, vn, vn, vi 0, vi 0]
theorem cH_00 {h : PH} {a : Nat} {X : Nat → PC} (ha : h.1 = a) : cH h a 0 0 X = h := by
  unfold cH
  refine Prod.ext ha.symm (Prod.ext rfl (funext fun k => ?_))
  dsimp only
  rw [if_neg (by omega)]
theorem m_max1 {v : Nat} (hv : v < 2147483648) {d : Nat} {h : PH} {Q : PQ} : WP d 298 0 [some (vi 1), some (vi v)] [] h Q = Q (some (vi ((max 1 v : Nat) : Int))) h := by
  rw [m_max, w_of (by omega) (by omega), w_of (by omega) (by omega)]
  by_cases q : (1 : Int) < (v : Int)
  · rw [if_pos q, show max 1 v = v by omega]
  · rw [if_neg q, show max 1 v = 1 by omega]; rfl
section ci
variable {h : PH} {a : Nat} {j : Nat → Int} {A : Nat → Int → Int} {c : KC} {C : List Int}
theorem ci_front {u : Nat} (ha : 20 ≤ a) (hu : u ≤ 900) (hj : j 2 = (u : Int)) (hD : okD c) (hX : rdX h j A) (hR : rdD j A C c) : ∃ (X' : Nat → PC) (g : Int → Int), (∀ k : Nat, k < u → g k = A 14 k) ∧ X' 0 = cyF c a (j 13) (j 14) (j 15) (j 16) 0 0 0 vn ∧ X' 1 = aI 0 5 (A 15) ∧ X' 2 = aI 0 5 (A 16) ∧ X' 3 = aI 0 3 (A 18) ∧ X' 4 = aI 0 u g ∧ X' 5 = aI 0 3 (fun _ => 0) ∧ ∀ d Q, WP (d + 2) 17 0 [some (vr a), some (vr 13), none, none, none, none, none] [] (cH h a 1 18 (fun _ => cy0)) Q = WP (d + 2) 17 152 [some (vr a), some (vr 13), some (vi 1), some (vi 0), some (vi 0), some (vi 0), none] [] (cH h a 6 (18 + 5 + 5 + 3 + u + 3) X') Q := by
  obtain ⟨x13, x14, x15, x16, x17, x18, x19⟩ := hX
  obtain ⟨r3, r4, r12, r11, -⟩ := hR
  obtain ⟨hP1, hP5, hN3⟩ := hD.1
  obtain ⟨g, hg, cp⟩ := cp_of ha x14 hu
  refine ⟨xup (xup (xup (xup (xup (xup (fun _ => cy0) 0 (cyF c a (j 13) (j 14) (j 15) (j 16) 0 0 0 vn)) 1 (aI 0 5 (A 15))) 2 (aI 0 5 (A 16))) 3 (aI 0 3 (A 18))) 4 (aI 0 u g)) 5 (aI 0 3 (fun _ => 0)), g, hg, ?_, ?_, ?_, ?_, ?_, ?_, fun d Q => ?_⟩
  · rw [xup_n (by omega), xup_n (by omega), xup_n (by omega), xup_n (by omega), xup_n (by omega), xup_s]
  · rw [xup_n (by omega), xup_n (by omega), xup_n (by omega), xup_n (by omega), xup_s]
  · rw [xup_n (by omega), xup_n (by omega), xup_n (by omega), xup_s]
  · rw [xup_n (by omega), xup_n (by omega), xup_s]
  · rw [xup_n (by omega), xup_s]
  · rw [xup_s]
  have t10 : ∀ r : Nat, (10 ≤ a + r) = True := fun r => eq_true (by omega)
  have t10' : (10 ≤ a) = True := eq_true (by omega)
  have cl1 := fun (d : Nat) (ls : PL) (st : List PV) (Q : PQ) (sl : Nat) (X : Nat → PC) => e_17_41 (d := d) (ls := ls) (st := st) (Q := Q) (h := cH h a 1 sl X) (a := 15) (nn := 5) (f := A 15) (by rw [cH_lo (by omega)]; exact x15)
  have cl2 := fun (d : Nat) (ls : PL) (st : List PV) (Q : PQ) (sl : Nat) (X : Nat → PC) => e_17_55 (d := d) (ls := ls) (st := st) (Q := Q) (h := cH h a 2 sl X) (a := 16) (nn := 5) (f := A 16) (by rw [cH_lo (by omega)]; exact x16)
  have cl3 := fun (d : Nat) (ls : PL) (st : List PV) (Q : PQ) (sl : Nat) (X : Nat → PC) => e_17_69 (d := d) (ls := ls) (st := st) (Q := Q) (h := cH h a 3 sl X) (a := 18) (nn := 3) (f := A 18) (by rw [cH_lo (by omega)]; exact x18)
  have e13 : ∀ m sl X, hp (cH h a m sl X) 13 = rdO j := fun m sl X => by rw [cH_lo (by omega)]; exact x13
  have cm : ∀ {X : Nat → PC} {r : Nat} {c d : PC}, r ≠ 0 → xup (xup X r c) 0 d = xup (xup X 0 d) r c := fun {X r c d} hr => by
    funext k
    unfold xup
    by_cases e : k = 0
    · rw [if_pos e, if_neg (by omega), if_pos e]
    · rw [if_neg e, if_neg e]
  have e2 : (2 : Int) * (kN c : Int) = ((2 * kN c : Nat) : Int) := by omega
  unfold cyF
  have c0 : cy0 = oC 2 [vi 0, vi 0, vi 0, vi 0, vn, vn, vn, vn, vi 0, vi 0, vi 0, vi 0, vi 0, vi 0, vn, vn, vi 0, vi 0] := rfl
  simp (disch := omega) only [e_17_0, e_17_1, e_17_4, e_17_5, e_17_6, e_17_9, e_17_12, e_17_13, e_17_14, e_17_17, e_17_20, e_17_21, e_17_22, e_17_25, e_17_28, e_17_29, e_17_30, e_17_33, e_17_36, e_17_37, e_17_38, e_17_44, e_17_47, e_17_50, e_17_51, e_17_52, e_17_58, e_17_61, e_17_64, e_17_65, e_17_66, e_17_72, e_17_75, e_17_78, e_17_79, e_17_80, e_17_83, e_17_84, e_17_87, e_17_90, e_17_93, e_17_94, e_17_95, e_17_98, e_17_101, e_17_102, e_17_103, e_17_106, e_17_109, e_17_110, e_17_111, e_17_114, e_17_117, e_17_118, e_17_119, e_17_122, e_17_125, e_17_126, e_17_127, e_17_128, e_17_131, e_17_132, e_17_135, e_17_136, e_17_137, e_17_139, e_17_142, e_17_143, e_17_144, e_17_145, e_17_146, e_17_147, e_17_149, e_17_150, cl1, cl2, cl3, cp, e13, cH_1, cH_mk, cH_0, cH_in, cH_u0, xup_s, xup_n, xup_xup, cm, c0, exA, r3, r4, r12, r11, hj, e2, t10, t10', ne_eq, not_false_eq_true, true_and, rdO_c, rdO_g0, rdO_k0, rdO_g1, rdO_k1, rdO_g2, rdO_k2, rdO_g3, rdO_k3, rdO_g4, rdO_k4, rdO_g5, rdO_k5, rdO_g6, rdO_k6, rdO_g7, rdO_k7, rdO_g8, rdO_k8, rdO_g9, rdO_k9, rdO_g10, rdO_k10, rdO_g11, rdO_k11, rdO_g12, rdO_k12, rdO_g13, rdO_k13, rdO_g14, rdO_k14, rdO_g15, rdO_k15, rdO_g16, rdO_k16, rdO_g17, rdO_k17, rdO_s2, rdO_s3, rdO_s4, rdO_s10, rdO_s11, rdO_s12, rdO_s13, rdO_s14, rdO_s15, rdO_s16, rdO_s17, sh_0, sh_1, sh_2, sh_3, sh_4, sh_5, sh_8, sh_15, sh_16, sh_24, Int.reducePow, Int.cast_ofNat_Int, w_of, wl_of, ltT, ltF, leT, leF, eqT, eqF, okF_0, okF_s, gF_0, gF_s, consC_o, sF_0, sF_s, clsO_o, inA_i, ldA_i, stA_i, inJ_l, ldJ_l, stJ_l, inR_r, ldR_r, stR_r, tgR_r, lenA_i, lenA_l, lenA_r, lenA_ex, nl_i, nl_o, nl_l, nl_n, wd_n, wd_i, wd_l, wd_o, fit_i, fit_l, fit_o, K_v, K_n, true_and, and_true, Nat.reduceAdd, Nat.reduceLeDiff, Nat.reduceEqDiff, Nat.reduceMul, Nat.reduceLT, reduceIte, true_or, or_true, cmp_lt, cmp_gt, cmp_eq, wb_0, b_01, cmp_lt', cmp_gt', cmp_eq', b_0, b_1, wb_1, Int.reduceSub, Int.reduceToNat, List.getD_cons_succ, List.getD_cons_zero, Int.reduceLE, Int.reduceLT, Int.reduceEq, Int.reduceNeg, Int.reduceAdd, Int.reduceMul, and_self, em_b, ne_eq, not_false_eq_true, not_true_eq_false]
  try rfl
end ci
