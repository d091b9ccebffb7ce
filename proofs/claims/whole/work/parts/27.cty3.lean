def fedS (s : ST) (p : Nat) : ST := (s.1, s.2.1, fup s.2.2 p 3)
def weakS (s : ST) (p : Nat) : ST := if s.2.2 p = 0 then s else (s.1, s.2.1, fup s.2.2 p (s.2.2 p - 1))
theorem encC_up {c : KC} {s : ST} {p v : Nat} (hp : p < kN c) : encC c (s.1, s.2.1, fup s.2.2 p v) + s.2.2 p * 4 ^ p = encC c s + v * 4 ^ p := by
  have := encP_up (B := 4) (f := s.2.2) (i := p) (v := v) hp
  unfold encC
  dsimp only
  omega
theorem fup_ok {c : KC} {s : ST} {p v : Nat} (hs : okS c s) (hp : p < kN c) (hv : v < 4) : okS c (s.1, s.2.1, fup s.2.2 p v) := by
  obtain ⟨h1, h2, h3, h4⟩ := hs
  refine ⟨fun i hi => ⟨(h1 i hi).1, ?_⟩, fun i hi => ⟨(h2 i hi).1, ?_⟩, h3, h4⟩
  · show fup s.2.2 p v i < 4
    by_cases q : i = p
    · rw [q, fup_self]; exact hv
    · rw [fup_ne q]; exact (h1 i hi).2
  · show fup s.2.2 p v i = 0
    rw [fup_ne (by omega)]; exact (h2 i hi).2
theorem fedS_ok {c : KC} {s : ST} {p : Nat} (hs : okS c s) (hp : p < kN c) : okS c (fedS s p) := fup_ok hs hp (by omega)
theorem weakS_ok {c : KC} {s : ST} {p : Nat} (hs : okS c s) (hp : p < kN c) : okS c (weakS s p) := by
  unfold weakS
  split
  · exact hs
  · exact fup_ok hs hp (by have := (hs.1 p hp).2; omega)
theorem or_fed : ∀ r : Fin 64, ∀ p : Fin 3, (r : Nat) < 4 ^ ((p : Nat) + 1) → ((r : Nat) ||| 3 * 4 ^ (p : Nat)) = (r : Nat) - (r : Nat) / 4 ^ (p : Nat) % 4 * 4 ^ (p : Nat) + 3 * 4 ^ (p : Nat) := by decide +kernel
theorem or_fed2 {x p : Nat} (hp : p < 3) : (x ||| 3 * 4 ^ p) = x - x / 4 ^ p % 4 * 4 ^ p + 3 * 4 ^ p := by
  have h64 : 4 ^ (p + 1) ≤ 64 := by
    have : 4 ^ (p + 1) ≤ 4 ^ 3 := Nat.pow_le_pow_right (by decide) (by omega)
    exact this
  have hpos : 0 < 4 ^ (p + 1) := Nat.pow_pos (by decide)
  have hr : x % 4 ^ (p + 1) < 4 ^ (p + 1) := Nat.mod_lt _ hpos
  have hb := or_fed ⟨x % 4 ^ (p + 1), by omega⟩ ⟨p, hp⟩ hr
  dsimp only at hb
  have hx : x = 2 ^ (2 * (p + 1)) * (x / 4 ^ (p + 1)) + x % 4 ^ (p + 1) := by rw [four_pow]; exact (Nat.div_add_mod x _).symm
  have hdig : x % 4 ^ (p + 1) / 4 ^ p % 4 = x / 4 ^ p % 4 := by
    rw [Nat.pow_succ, Nat.mod_mul_right_div_self, Nat.mod_mod]
  have hlt : (x % 4 ^ (p + 1) ||| 3 * 4 ^ p) < 2 ^ (2 * (p + 1)) := by
    refine Nat.or_lt_two_pow (by rw [four_pow]; exact hr) ?_
    rw [four_pow, Nat.pow_succ]
    have : 0 < 4 ^ p := Nat.pow_pos (by decide)
    omega
  have e1 : (x ||| 3 * 4 ^ p) = 2 ^ (2 * (p + 1)) * (x / 4 ^ (p + 1)) + (x % 4 ^ (p + 1) ||| 3 * 4 ^ p) := by
    conv => lhs; rw [hx]
    rw [Nat.two_pow_add_eq_or_of_lt (by rw [four_pow]; exact hr), Nat.or_assoc, ← Nat.two_pow_add_eq_or_of_lt hlt]
  rw [e1, hb, hdig]
  have h7 : x % 4 ^ (p + 1) / 4 ^ p % 4 * 4 ^ p ≤ x % 4 ^ (p + 1) := by
    have := Nat.div_mul_le_self (x % 4 ^ (p + 1)) (4 ^ p)
    have h8 : x % 4 ^ (p + 1) / 4 ^ p % 4 * 4 ^ p ≤ x % 4 ^ (p + 1) / 4 ^ p * 4 ^ p := Nat.mul_le_mul_right _ (Nat.mod_le _ _)
    omega
  rw [hdig] at h7
  omega
theorem c_fed {d a p : Nat} {h : PH} {Q : PQ} {c : KC} {s : ST} (hK : okK c) (hs : okS c s) (hp : p < kN c) :
    WP d 29 0 [some (vr a), some (vi (encC c s)), some (vi p)] [] h Q = Q (some (vi (encC c (fedS s p)))) h := by
  obtain ⟨b1, b2, b3, b4, b5, b6⟩ := okS_bounds hs hK.2.2 hK.2.1 hK.1
  have hN := hK.2.2
  have hu := encC_up (s := s) (v := 3) hp
  have h4 : 4 ^ p ≤ 4 ^ 2 := Nat.pow_le_pow_right (by decide) (by omega)
  simp only [e_29_0, e_29_1, e_29_2, e_29_3, e_29_4, e_29_5, e_29_6, e_29_7, okF_0, okF_s, gF_0, gF_s, consC_o, sF_0, sF_s, clsO_o, inA_i, ldA_i, stA_i, inJ_l, ldJ_l, stJ_l, inR_r, ldR_r, stR_r, tgR_r, lenA_i, lenA_l, lenA_r, lenA_ex, nl_i, nl_o, nl_l, nl_n, wd_n, wd_i, wd_l, wd_o, fit_i, fit_l, fit_o, K_v, K_n, true_and, and_true, Nat.reduceAdd, Nat.reduceLeDiff, Nat.reduceEqDiff, Nat.reduceMul, Nat.reduceLT, reduceIte, true_or, or_true, cmp_lt, cmp_gt, cmp_eq, wb_0, b_01, cmp_lt', cmp_gt', cmp_eq', b_0, b_1, wb_1, Int.reduceSub, Int.reduceToNat, List.getD_cons_succ, List.getD_cons_zero, Int.reduceLE, Int.reduceLT, Int.reduceEq, Int.reduceNeg, Int.reduceAdd, Int.reduceMul, and_self]
  rw [cast2, sh_nat (by omega), castP, four_pow]
  have : (3 : Int) * ((4 ^ p : Nat) : Int) = ((3 * 4 ^ p : Nat) : Int) := by rw [Int.natCast_mul]; rfl
  rw [this, ior_nat (by omega) (by omega), or_fed2 (by omega), encC_str hs hp]
  have h7 : s.2.2 p * 4 ^ p ≤ encC c s := by
    rw [← encC_str hs hp]
    have := Nat.div_mul_le_self (encC c s) (4 ^ p)
    have h8 : encC c s / 4 ^ p % 4 * 4 ^ p ≤ encC c s / 4 ^ p * 4 ^ p := Nat.mul_le_mul_right _ (Nat.mod_le _ _)
    omega
  have : encC c s - s.2.2 p * 4 ^ p + 3 * 4 ^ p = encC c (fedS s p) := by unfold fedS; omega
  rw [this]
theorem c_weakened {d a p : Nat} {h : PH} {Q : PQ} {c : KC} {s : ST} (hK : okK c) (hC : CtyAt h a c) (hs : okS c s) (hp : p < kN c) :
    WP (d + 1) 30 0 [some (vr a), some (vi (encC c s)), some (vi p)] [] h Q = Q (some (vi (encC c (weakS s p)))) h := by
  obtain ⟨tf, tt, mf, mt, n, fh, fw, fa, fc, fg, fp, hA, -⟩ := hC
  obtain ⟨b1, b2, b3, b4, b5, b6⟩ := okS_bounds hs hK.2.2 hK.2.1 hK.1
  have hN := hK.2.2
  have hl := (hs.1 p hp).2
  simp only [e_30_0, e_30_1, e_30_2, e_30_3, e_30_6, e_30_9, e_30_10, e_30_13, e_30_14, e_30_15, e_30_16, e_30_17, e_30_18, e_30_19, e_30_20, hA, c_strengthOf hK hs hp, okF_0, okF_s, gF_0, gF_s, consC_o, sF_0, sF_s, clsO_o, inA_i, ldA_i, stA_i, inJ_l, ldJ_l, stJ_l, inR_r, ldR_r, stR_r, tgR_r, lenA_i, lenA_l, lenA_r, lenA_ex, nl_i, nl_o, nl_l, nl_n, wd_n, wd_i, wd_l, wd_o, fit_i, fit_l, fit_o, K_v, K_n, true_and, and_true, Nat.reduceAdd, Nat.reduceLeDiff, Nat.reduceEqDiff, Nat.reduceMul, Nat.reduceLT, reduceIte, true_or, or_true, cmp_lt, cmp_gt, cmp_eq, wb_0, b_01, cmp_lt', cmp_gt', cmp_eq', b_0, b_1, wb_1, Int.reduceSub, Int.reduceToNat, List.getD_cons_succ, List.getD_cons_zero, Int.reduceLE, Int.reduceLT, Int.reduceEq, Int.reduceNeg, Int.reduceAdd, Int.reduceMul, and_self]
  rw [w_nat (by omega)]
  unfold weakS
  by_cases q : s.2.2 p = 0
  · rw [if_pos (by omega), if_pos q]
  · rw [if_neg (by omega), if_neg q]
    have hu := encC_up (s := s) (v := s.2.2 p - 1) hp
    rw [cast2, sh_nat (by omega), castP, four_pow]
    have e : s.2.2 p * 4 ^ p = (s.2.2 p - 1) * 4 ^ p + 4 ^ p := by
      have : s.2.2 p = (s.2.2 p - 1) + 1 := by omega
      conv => lhs; rw [this, Nat.add_mul, Nat.one_mul]
    have : (encC c s : Int) - 1 * ((4 ^ p : Nat) : Int) = (encC c (s.1, s.2.1, fup s.2.2 p (s.2.2 p - 1)) : Int) := by omega
    rw [this]
