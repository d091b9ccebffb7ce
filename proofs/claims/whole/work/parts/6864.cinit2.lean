/-! THE CLASS: a County out of the draft: its loops -/
section ci
variable {h : PH} {a : Nat} {j : Nat → Int} {A : Nat → Int → Int} {c : KC} {C : List Int}
def cyF (c : KC) (a : Nat) (tf tt mf mt pl sz fi : Int) (pd : PV) : PC := oC 2 [vi (kP c), vi (kN c), vi (kLines c), vi (kSky c), vr (a + 1), vr (a + 2), vr (a + 3), vr (a + 4), vi tf, vi tt, vi mf, vi mt, vi ((2 * kN c : Nat) : Int), vi pl, pd, vr (a + 5), vi sz, vi fi]
theorem or_enc {p y : Nat} {f : Nat → Nat} (hp : p < 3) (hf : ∀ i, i < p → f i < 4) (hy : y < 4) : ior ((encP 4 p f : Nat) : Int) ((y : Int) * 2 ^ sh (2 * (p : Int))) = ((encP 4 p f + y * 4 ^ p : Nat) : Int) := by
  have hl := encP_lt (B := 4) hf
  have h4 : 4 ^ p ≤ 4 ^ 2 := Nat.pow_le_pow_right (by decide) (by omega)
  have hm : y * 4 ^ p ≤ 3 * 16 := Nat.mul_le_mul (by omega) h4
  rw [cast2, sh_nat (by omega), castP, four_pow]
  have e : (y : Int) * ((4 ^ p : Nat) : Int) = ((y * 4 ^ p : Nat) : Int) := by rw [Int.natCast_mul]
  rw [e, ior_nat (by omega) (by omega), Nat.or_comm]
  have := Nat.two_pow_add_eq_or_of_lt (i := 2 * p) (b := encP 4 p f) (by rw [four_pow]; exact hl) y
  rw [four_pow] at this
  rw [Nat.mul_comm y, ← this]
  congr 1
  omega
theorem ci_w {sl : Nat} {tf tt mf mt : Int} {o6 : Option PV} (ha : 20 ≤ a) (hD : okD c) (hX : rdX h j A) (h17 : ∀ p : Nat, p < kN c → A 17 p = ((kFst c).2.1 p : Int) ∧ A 19 p = ((kFst c).2.2 p : Int)) :
    ∀ (r p : Nat) (X : Nat → PC) (f : Int → Int), p + r = kN c → X 0 = cyF c a tf tt mf mt 0 0 0 vn → X 5 = aI 0 3 f → (∀ k : Nat, k < p → f k = ((kP c ^ k : Nat) : Int)) →
    ∃ (X' : Nat → PC) (g : Int → Int), X' 0 = cyF c a tf tt mf mt 0 0 0 vn ∧ X' 5 = aI 0 3 g ∧ (∀ k : Nat, k < kN c → g k = ((kP c ^ k : Nat) : Int)) ∧ (∀ k, k ≠ 5 → X' k = X k) ∧ ∀ d Q, WP d 17 152 [some (vr a), some (vr 13), some (vi ((kP c ^ p : Nat) : Int)), some (vi ((encP (kP c) p (kFst c).2.1 : Nat) : Int)), some (vi ((encP 4 p (kFst c).2.2 : Nat) : Int)), some (vi p), o6] [] (cH h a 6 sl X) Q = WP d 17 211 [some (vr a), some (vr 13), some (vi ((kP c ^ kN c : Nat) : Int)), some (vi ((encP (kP c) (kN c) (kFst c).2.1 : Nat) : Int)), some (vi ((encP 4 (kN c) (kFst c).2.2 : Nat) : Int)), some (vi (kN c)), o6] [] (cH h a 6 sl X') Q := by
  obtain ⟨x13, x14, x15, x16, x17, x18, x19⟩ := hX
  obtain ⟨hP1, hP5, hN3⟩ := hD.1
  have hS := hD.2.2.2.2.2.1
  have t10 : ∀ r : Nat, (10 ≤ a + r) = True := fun r => eq_true (by omega)
  intro r
  induction r with
  | zero =>
    intro p X f hpr h0 h5 hf
    have ep : p = kN c := by omega
    subst ep
    refine ⟨X, f, h0, h5, hf, fun _ _ => rfl, fun d Q => ?_⟩
    have g0 : hp (cH h a 6 sl X) a = cyF c a tf tt mf mt 0 0 0 vn := by rw [cH_0 (by omega)]; exact h0
    unfold cyF at g0
    rw [e_17_152]
    simp (disch := omega) only [e_17_154, e_17_155, e_17_158, g0, true_and, rdO_c, rdO_g0, rdO_k0, rdO_g1, rdO_k1, rdO_g2, rdO_k2, rdO_g3, rdO_k3, rdO_g4, rdO_k4, rdO_g5, rdO_k5, rdO_g6, rdO_k6, rdO_g7, rdO_k7, rdO_g8, rdO_k8, rdO_g9, rdO_k9, rdO_g10, rdO_k10, rdO_g11, rdO_k11, rdO_g12, rdO_k12, rdO_g13, rdO_k13, rdO_g14, rdO_k14, rdO_g15, rdO_k15, rdO_g16, rdO_k16, rdO_g17, rdO_k17, rdO_s2, rdO_s3, rdO_s4, rdO_s10, rdO_s11, rdO_s12, rdO_s13, rdO_s14, rdO_s15, rdO_s16, rdO_s17, sh_0, sh_1, sh_2, sh_3, sh_4, sh_5, sh_8, sh_15, sh_16, sh_24, Int.reducePow, Int.cast_ofNat_Int, w_of, wl_of, ltT, ltF, leT, leF, eqT, eqF, okF_0, okF_s, gF_0, gF_s, consC_o, sF_0, sF_s, clsO_o, inA_i, ldA_i, stA_i, inJ_l, ldJ_l, stJ_l, inR_r, ldR_r, stR_r, tgR_r, lenA_i, lenA_l, lenA_r, lenA_ex, nl_i, nl_o, nl_l, nl_n, wd_n, wd_i, wd_l, wd_o, fit_i, fit_l, fit_o, K_v, K_n, true_and, and_true, Nat.reduceAdd, Nat.reduceLeDiff, Nat.reduceEqDiff, Nat.reduceMul, Nat.reduceLT, reduceIte, true_or, or_true, cmp_lt, cmp_gt, cmp_eq, wb_0, b_01, cmp_lt', cmp_gt', cmp_eq', b_0, b_1, wb_1, Int.reduceSub, Int.reduceToNat, List.getD_cons_succ, List.getD_cons_zero, Int.reduceLE, Int.reduceLT, Int.reduceEq, Int.reduceNeg, Int.reduceAdd, Int.reduceMul, and_self, em_b, ne_eq, not_false_eq_true, not_true_eq_false]
    try rfl
  | succ r ih =>
    intro p X f hpr h0 h5 hf
    obtain ⟨s1, s2⟩ := hS.1 p (by omega)
    obtain ⟨y1, y2⟩ := h17 p (by omega)
    have hPp : kP c ^ p ≤ 25 := by
      have : kP c ^ p ≤ 5 ^ 2 := Nat.le_trans (Nat.pow_le_pow_left hP5 _) (Nat.pow_le_pow_right (by decide) (by omega))
      exact this
    have hl1 := encP_lt (B := kP c) (n := p) (f := (kFst c).2.1) (fun i hi => (hS.1 i (by omega)).1)
    have hl2 := encP_lt (B := 4) (n := p) (f := (kFst c).2.2) (fun i hi => (hS.1 i (by omega)).2)
    obtain ⟨X', g, a1, a2, a3, a4, a5⟩ := ih (p + 1) (xup X 5 (aI 0 3 (fset f (p : Nat) ((kP c ^ p : Nat) : Int)))) (fset f (p : Nat) ((kP c ^ p : Nat) : Int)) (by omega) (by rw [xup_n (by omega)]; exact h0) xup_s (fun k hk => by
      by_cases z : k = p
      · rw [z, fs_same]
      · rw [fs_ne (by omega)]; exact hf k (by omega))
    refine ⟨X', g, a1, a2, a3, fun k hk => by rw [a4 k hk, xup_n hk], fun d Q => ?_⟩
    rw [← a5 d Q]
    have g0 : hp (cH h a 6 sl X) a = cyF c a tf tt mf mt 0 0 0 vn := by rw [cH_0 (by omega)]; exact h0
    have g0' : hp (cH h a 6 sl (xup X 5 (aI 0 3 (fset f (p : Nat) ((kP c ^ p : Nat) : Int))))) a = cyF c a tf tt mf mt 0 0 0 vn := by rw [cH_0 (by omega), xup_n (by omega)]; exact h0
    have g5 : hp (cH h a 6 sl X) (a + 5) = aI 0 3 f := by rw [cH_in (by omega)]; exact h5
    have e13 : ∀ X, hp (cH h a 6 sl X) 13 = rdO j := fun X => by rw [cH_lo (by omega)]; exact x13
    have e17 : ∀ X, hp (cH h a 6 sl X) 17 = aI 0 3 (A 17) := fun X => by rw [cH_lo (by omega)]; exact x17
    have e19 : ∀ X, hp (cH h a 6 sl X) 19 = aI 0 3 (A 19) := fun X => by rw [cH_lo (by omega)]; exact x19
    have o1 : ((encP (kP c) p (kFst c).2.1 : Nat) : Int) + ((kFst c).2.1 p : Int) * ((kP c ^ p : Nat) : Int) = ((encP (kP c) (p + 1) (kFst c).2.1 : Nat) : Int) := by
      show _ = ((encP (kP c) p (kFst c).2.1 + (kFst c).2.1 p * kP c ^ p : Nat) : Int)
      rw [Int.natCast_add, Int.natCast_mul]
    have o2 : ior ((encP 4 p (kFst c).2.2 : Nat) : Int) (((kFst c).2.2 p : Int) * 2 ^ sh (2 * (p : Int))) = ((encP 4 (p + 1) (kFst c).2.2 : Nat) : Int) := or_enc (by omega) (fun i hi => (hS.1 i (by omega)).2) s2
    have o3 : ((kP c ^ p : Nat) : Int) * (kP c : Int) = ((kP c ^ (p + 1) : Nat) : Int) := by rw [Nat.pow_succ, Int.natCast_mul]
    have ep : (p : Int) + 1 = ((p + 1 : Nat) : Int) := by omega
    have hu : ∀ c', hup (cH h a 6 sl X) (a + 5) c' = cH h a 6 sl (xup X 5 c') := fun c' => cH_u (by omega)
    unfold cyF at g0 g0'
    rw [e_17_152]
    simp (disch := omega) only [e_17_154, e_17_155, e_17_158, e_17_161, e_17_162, e_17_165, e_17_167, e_17_168, e_17_169, e_17_170, e_17_171, e_17_174, e_17_176, e_17_177, e_17_178, e_17_179, e_17_180, e_17_181, e_17_183, e_17_184, e_17_187, e_17_189, e_17_190, e_17_191, e_17_193, e_17_194, e_17_195, e_17_196, e_17_198, e_17_199, e_17_200, e_17_203, e_17_204, e_17_205, e_17_208, g0, g0', g5, hu, e13, e17, e19, y1, y2, o1, o2, o3, ep, t10, true_and, rdO_c, rdO_g0, rdO_k0, rdO_g1, rdO_k1, rdO_g2, rdO_k2, rdO_g3, rdO_k3, rdO_g4, rdO_k4, rdO_g5, rdO_k5, rdO_g6, rdO_k6, rdO_g7, rdO_k7, rdO_g8, rdO_k8, rdO_g9, rdO_k9, rdO_g10, rdO_k10, rdO_g11, rdO_k11, rdO_g12, rdO_k12, rdO_g13, rdO_k13, rdO_g14, rdO_k14, rdO_g15, rdO_k15, rdO_g16, rdO_k16, rdO_g17, rdO_k17, rdO_s2, rdO_s3, rdO_s4, rdO_s10, rdO_s11, rdO_s12, rdO_s13, rdO_s14, rdO_s15, rdO_s16, rdO_s17, sh_0, sh_1, sh_2, sh_3, sh_4, sh_5, sh_8, sh_15, sh_16, sh_24, Int.reducePow, Int.cast_ofNat_Int, w_of, wl_of, ltT, ltF, leT, leF, eqT, eqF, okF_0, okF_s, gF_0, gF_s, consC_o, sF_0, sF_s, clsO_o, inA_i, ldA_i, stA_i, inJ_l, ldJ_l, stJ_l, inR_r, ldR_r, stR_r, tgR_r, lenA_i, lenA_l, lenA_r, lenA_ex, nl_i, nl_o, nl_l, nl_n, wd_n, wd_i, wd_l, wd_o, fit_i, fit_l, fit_o, K_v, K_n, true_and, and_true, Nat.reduceAdd, Nat.reduceLeDiff, Nat.reduceEqDiff, Nat.reduceMul, Nat.reduceLT, reduceIte, true_or, or_true, cmp_lt, cmp_gt, cmp_eq, wb_0, b_01, cmp_lt', cmp_gt', cmp_eq', b_0, b_1, wb_1, Int.reduceSub, Int.reduceToNat, List.getD_cons_succ, List.getD_cons_zero, Int.reduceLE, Int.reduceLT, Int.reduceEq, Int.reduceNeg, Int.reduceAdd, Int.reduceMul, and_self, em_b, ne_eq, not_false_eq_true, not_true_eq_false]
    try rfl
end ci
