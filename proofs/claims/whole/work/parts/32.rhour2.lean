/-! THE REFERENCE: bits of a stand, an hour -/
theorem jand_1n {a : Nat} (ha : a < 9223372036854775808) : jand (a : Int) 1 = ((a % 2 : Nat) : Int) := by
  unfold jand
  show ((Int64.ofInt (a : Int)).toBitVec &&& (Int64.ofInt (1 : Int)).toBitVec).toInt = _
  have e1 : (Int64.ofInt (a : Int)).toBitVec = BitVec.ofNat 64 a := by
    show BitVec.ofInt 64 (a : Int) = _
    rw [BitVec.ofInt_natCast]
  have e2 : (Int64.ofInt (1 : Int)).toBitVec = BitVec.ofNat 64 1 := by decide
  rw [e1, e2]
  have h2 : (BitVec.ofNat 64 a &&& BitVec.ofNat 64 1).toNat = a % 2 := by
    rw [BitVec.toNat_and, BitVec.toNat_ofNat, BitVec.toNat_ofNat, Nat.mod_eq_of_lt (by omega), Nat.mod_eq_of_lt (by omega)]
    exact Nat.and_one_is_mod a
  rw [BitVec.toInt_eq_toNat_cond, h2, if_pos (by omega)]
theorem shj_nat {n : Nat} (h : n < 64) : shj (n : Int) = n := by unfold shj; omega
theorem r_isIn {d x k : Nat} {h : PH} {Q : PQ} (hx : x < 2147483648) (hk : k < 32) :
    WP d 177 0 [some (vl x), none, some (vi k)] [] h Q = Q (some (vi (if x / 2 ^ k % 2 = 1 then 1 else 0))) h := by
  simp only [e_177_0, e_177_1, e_177_2, e_177_3, e_177_4, e_177_5, e_177_6, e_177_7, e_177_10, e_177_11, e_177_14, e_177_15, okF_0, okF_s, gF_0, gF_s, consC_o, sF_0, sF_s, clsO_o, inA_i, ldA_i, stA_i, inJ_l, ldJ_l, stJ_l, inR_r, ldR_r, stR_r, tgR_r, lenA_i, lenA_l, lenA_r, lenA_ex, nl_i, nl_o, nl_l, nl_n, wd_n, wd_i, wd_l, wd_o, fit_i, fit_l, fit_o, K_v, K_n, true_and, and_true, Nat.reduceAdd, Nat.reduceLeDiff, Nat.reduceEqDiff, Nat.reduceMul, Nat.reduceLT, reduceIte, true_or, or_true, cmp_lt, cmp_gt, cmp_eq, wb_0, b_01, cmp_lt', cmp_gt', cmp_eq', b_0, b_1, wb_1, Int.reduceSub, Int.reduceToNat, List.getD_cons_succ, List.getD_cons_zero, Int.reduceLE, Int.reduceLT, Int.reduceEq, Int.reduceNeg, Int.reduceAdd, Int.reduceMul, and_self]
  have hd : x / 2 ^ k ≤ x := Nat.div_le_self _ _
  have e : wl (x : Int) / 2 ^ shj (k : Int) = ((x / 2 ^ k : Nat) : Int) := by
    rw [wl_of (by omega) (by omega), shj_nat (by omega), Int.natCast_ediv, castP]
  rw [e, jand_1n (by omega), wl_of (by omega) (by omega), wl_of (by omega) (by omega)]
  by_cases c : x / 2 ^ k % 2 = 1
  · rw [if_pos (by omega), if_pos c]
  · rw [if_neg (by omega), if_neg c]
theorem clr_bits (k n x : Nat) (hx : x < 2 ^ 31) : x &&& ((2 ^ n - 1) * 2 ^ k ^^^ (2 ^ 32 - 1)) = 2 ^ (k + n) * (x / 2 ^ (k + n)) + x % 2 ^ k := by
  apply Nat.eq_of_testBit_eq
  intro j
  have hlt : x % 2 ^ k < 2 ^ (k + n) := Nat.lt_of_lt_of_le (Nat.mod_lt _ (Nat.pow_pos (by decide))) (Nat.pow_le_pow_right (by decide) (by omega))
  rw [Nat.testBit_two_pow_mul_add _ hlt, Nat.testBit_and, Nat.testBit_xor, Nat.testBit_mul_two_pow, Nat.testBit_two_pow_sub_one, Nat.testBit_two_pow_sub_one, Nat.testBit_mod_two_pow, Nat.testBit_div_two_pow]
  by_cases h31 : j < 31
  · by_cases a : j < k
    · have a1 : j < k + n := by omega
      have a2 : ¬ k ≤ j := by omega
      simp [a, a1, a2]; intro; omega
    · by_cases b : j < k + n
      · have a2 : k ≤ j := by omega
        have a3 : j - k < n := by omega
        have a4 : j < 32 := by omega
        simp [a, b, a2, a3, a4]
      · have a2 : k ≤ j := by omega
        have a3 : ¬ j - k < n := by omega
        have a4 : j < 32 := by omega
        have a5 : j - (k + n) + (k + n) = j := by omega
        simp [b, a2, a3, a4, a5]
  · have hz : x.testBit j = false := Nat.testBit_lt_two_pow (Nat.lt_of_lt_of_le hx (Nat.pow_le_pow_right (by decide) (by omega)))
    by_cases b : j < k + n
    · simp [hz, b]
    · have a5 : j - (k + n) + (k + n) = j := by omega
      simp [hz, b, a5]
theorem set_bits {k n x v : Nat} (hx : x < 2 ^ 31) (hv : v < 2 ^ n) (hk : k + n < 31) : ior (iand (x : Int) (ixor (((2 ^ n - 1 : Nat) : Int) * ((2 ^ k : Nat) : Int)) (-1))) ((v : Int) * ((2 ^ k : Nat) : Int)) = ((x - x / 2 ^ k % 2 ^ n * 2 ^ k + v * 2 ^ k : Nat) : Int) := by
  have hpk : 0 < 2 ^ k := Nat.pow_pos (by decide)
  have hpn : 0 < 2 ^ n := Nat.pow_pos (by decide)
  have hkn : 2 ^ (k + n) = 2 ^ k * 2 ^ n := Nat.pow_add _ _ _
  have hk31 : 2 ^ (k + n) < 2 ^ 31 := Nat.pow_lt_pow_of_lt (by decide) hk
  have hm : (2 ^ n - 1) * 2 ^ k < 2 ^ 31 := by
    have : (2 ^ n - 1) * 2 ^ k ≤ 2 ^ n * 2 ^ k := Nat.mul_le_mul_right _ (by omega)
    rw [Nat.mul_comm (2 ^ n)] at this
    omega
  have hvk : v * 2 ^ k < 2 ^ (k + n) := by
    rw [hkn, Nat.mul_comm]; exact (Nat.mul_lt_mul_left hpk).mpr hv
  have e1 : ((2 ^ n - 1 : Nat) : Int) * ((2 ^ k : Nat) : Int) = (((2 ^ n - 1) * 2 ^ k : Nat) : Int) := (Int.natCast_mul _ _).symm
  have e2 : (v : Int) * ((2 ^ k : Nat) : Int) = ((v * 2 ^ k : Nat) : Int) := (Int.natCast_mul _ _).symm
  rw [e1, e2]
  have e3 : iand (x : Int) (ixor (((2 ^ n - 1) * 2 ^ k : Nat) : Int) (-1)) = ((2 ^ (k + n) * (x / 2 ^ (k + n)) + x % 2 ^ k : Nat) : Int) := by
    have hb : (Int32.ofInt (ixor (((2 ^ n - 1) * 2 ^ k : Nat) : Int) (-1))).toBitVec = BitVec.ofNat 32 ((2 ^ n - 1) * 2 ^ k) ^^^ BitVec.allOnes 32 := by
      unfold ixor
      rw [Int32.ofInt_toInt]
      show (Int32.ofInt (((2 ^ n - 1) * 2 ^ k : Nat) : Int)).toBitVec ^^^ (Int32.ofInt (-1)).toBitVec = _
      rw [i32_nat hm]
      congr 1
    unfold iand
    show ((Int32.ofInt (x : Int)).toBitVec &&& (Int32.ofInt (ixor (((2 ^ n - 1) * 2 ^ k : Nat) : Int) (-1))).toBitVec).toInt = _
    rw [hb, i32_nat hx]
    have h2 : (BitVec.ofNat 32 x &&& (BitVec.ofNat 32 ((2 ^ n - 1) * 2 ^ k) ^^^ BitVec.allOnes 32)).toNat = 2 ^ (k + n) * (x / 2 ^ (k + n)) + x % 2 ^ k := by
      rw [BitVec.toNat_and, BitVec.toNat_xor, BitVec.toNat_allOnes, BitVec.toNat_ofNat, BitVec.toNat_ofNat, Nat.mod_eq_of_lt (a := x) (by omega), Nat.mod_eq_of_lt (a := (2 ^ n - 1) * 2 ^ k) (by omega)]
      exact clr_bits k n x hx
    have h3 : 2 ^ (k + n) * (x / 2 ^ (k + n)) + x % 2 ^ k ≤ x := by
      have := Nat.div_add_mod x (2 ^ (k + n))
      have h4 : x % 2 ^ (k + n) % 2 ^ k = x % 2 ^ k := Nat.mod_mod_of_dvd x ⟨2 ^ n, hkn⟩
      have h5 := Nat.mod_le (x % 2 ^ (k + n)) (2 ^ k)
      omega
    rw [bv_int (by rw [h2]; omega), h2]
  rw [e3]
  have hlo : x % 2 ^ k < 2 ^ k := Nat.mod_lt _ hpk
  have hsum : v * 2 ^ k + x % 2 ^ k < 2 ^ (k + n) := by
    have : v * 2 ^ k + 2 ^ k ≤ 2 ^ (k + n) := by
      rw [hkn, Nat.mul_comm (2 ^ k)]
      have := Nat.mul_le_mul_right (2 ^ k) (show v + 1 ≤ 2 ^ n by omega)
      rw [Nat.add_mul, Nat.one_mul] at this
      exact this
    omega
  have hxd : x = 2 ^ (k + n) * (x / 2 ^ (k + n)) + (x / 2 ^ k % 2 ^ n * 2 ^ k + x % 2 ^ k) := by
    have h1 := Nat.div_add_mod x (2 ^ (k + n))
    have h2 := Nat.div_add_mod (x % 2 ^ (k + n)) (2 ^ k)
    have h3 : x % 2 ^ (k + n) / 2 ^ k = x / 2 ^ k % 2 ^ n := by rw [hkn, Nat.mod_mul_right_div_self]
    have h4 : x % 2 ^ (k + n) % 2 ^ k = x % 2 ^ k := Nat.mod_mod_of_dvd x ⟨2 ^ n, hkn⟩
    rw [h3, h4] at h2
    rw [Nat.mul_comm (x / 2 ^ k % 2 ^ n)]
    omega
  have hle : 2 ^ (k + n) * (x / 2 ^ (k + n)) + (v * 2 ^ k + x % 2 ^ k) < 2 ^ 31 := by
    have h1 : 2 ^ (k + n) * (x / 2 ^ (k + n)) + 2 ^ (k + n) ≤ 2 ^ 31 := by
      have hd : 2 ^ 31 = 2 ^ (k + n) * 2 ^ (31 - (k + n)) := by rw [← Nat.pow_add]; congr 1; omega
      have hlt : x / 2 ^ (k + n) < 2 ^ (31 - (k + n)) := by
        apply Nat.div_lt_of_lt_mul
        rw [← hd]; exact hx
      have := Nat.mul_le_mul_left (2 ^ (k + n)) (show x / 2 ^ (k + n) + 1 ≤ 2 ^ (31 - (k + n)) by omega)
      rw [Nat.mul_add, Nat.mul_one, ← hd] at this
      exact this
    omega
  rw [ior_nat (by omega) (by omega)]
  congr 1
  rw [Nat.two_pow_add_eq_or_of_lt (show x % 2 ^ k < 2 ^ (k + n) by omega), Nat.or_assoc, Nat.or_comm (x % 2 ^ k), Nat.mul_comm v, ← Nat.two_pow_add_eq_or_of_lt hlo, ← Nat.two_pow_add_eq_or_of_lt (by rw [Nat.mul_comm]; exact hsum)]
  rw [Nat.mul_comm (2 ^ k) v]
  generalize x / 2 ^ k % 2 ^ n * 2 ^ k = y at *
  omega
abbrev okR2 (s : ST) : Prop := (∀ i, s.2.1 i < 8 ∧ s.2.2 i < 4) ∧ s.1 ≤ 2
theorem encR_upP {s : ST} {p v : Nat} (hp : p < 3) : encR (s.1, fup s.2.1 p v, s.2.2) + s.2.1 p * 32 ^ p = encR s + v * 32 ^ p := by
  have h := encP_up (B := 32) (f := fun i => s.2.1 i + 8 * s.2.2 i) (i := p) (v := v + 8 * s.2.2 p) hp
  have hc : encP 32 3 (fup (fun i => s.2.1 i + 8 * s.2.2 i) p (v + 8 * s.2.2 p)) = encP 32 3 (fun i => fup s.2.1 p v i + 8 * s.2.2 i) := encP_congr (fun i _ => by
    by_cases q : i = p
    · subst q; rw [fup_self, fup_self]
    · rw [fup_ne q, fup_ne q])
  rw [hc] at h
  unfold encR
  dsimp only at h ⊢
  rw [Nat.add_mul, Nat.add_mul] at h
  omega
theorem encR_upS {s : ST} {p v : Nat} (hp : p < 3) : encR (s.1, s.2.1, fup s.2.2 p v) + s.2.2 p * (8 * 32 ^ p) = encR s + v * (8 * 32 ^ p) := by
  have h := encP_up (B := 32) (f := fun i => s.2.1 i + 8 * s.2.2 i) (i := p) (v := s.2.1 p + 8 * v) hp
  have hc : encP 32 3 (fup (fun i => s.2.1 i + 8 * s.2.2 i) p (s.2.1 p + 8 * v)) = encP 32 3 (fun i => s.2.1 i + 8 * fup s.2.2 p v i) := encP_congr (fun i _ => by
    by_cases q : i = p
    · subst q; rw [fup_self, fup_self]
    · rw [fup_ne q, fup_ne q])
  rw [hc] at h
  unfold encR
  dsimp only at h ⊢
  rw [Nat.add_mul, Nat.add_mul] at h
  rw [show s.2.2 p * (8 * 32 ^ p) = 8 * s.2.2 p * 32 ^ p by rw [← Nat.mul_assoc, Nat.mul_comm (s.2.2 p)], show v * (8 * 32 ^ p) = 8 * v * 32 ^ p by rw [← Nat.mul_assoc, Nat.mul_comm v]]
  omega
theorem r_withPlace {d p v : Nat} {h : PH} {Q : PQ} {s : ST} (hs : okR2 s) (hp : p < 3) (hv : v < 8) :
    WP d 203 0 [some (vi (encR s)), some (vi p), some (vi v)] [] h Q = Q (some (vi (encR (s.1, fup s.2.1 p v, s.2.2)))) h := by
  have hl := (encR_lt hs).2
  have hd := encR_dig hs hp
  have hb := hs.1 p
  have hu := encR_upP (s := s) (v := v) hp
  have h32 : 32 ^ p ≤ 32 ^ 2 := Nat.pow_le_pow_right (by decide) (by omega)
  simp only [e_203_0, e_203_1, e_203_3, e_203_4, e_203_5, e_203_6, e_203_7, e_203_8, e_203_9, e_203_10, e_203_11, e_203_12, e_203_13, e_203_14, e_203_15, e_203_16, okF_0, okF_s, gF_0, gF_s, consC_o, sF_0, sF_s, clsO_o, inA_i, ldA_i, stA_i, inJ_l, ldJ_l, stJ_l, inR_r, ldR_r, stR_r, tgR_r, lenA_i, lenA_l, lenA_r, lenA_ex, nl_i, nl_o, nl_l, nl_n, wd_n, wd_i, wd_l, wd_o, fit_i, fit_l, fit_o, K_v, K_n, true_and, and_true, Nat.reduceAdd, Nat.reduceLeDiff, Nat.reduceEqDiff, Nat.reduceMul, Nat.reduceLT, reduceIte, true_or, or_true, cmp_lt, cmp_gt, cmp_eq, wb_0, b_01, cmp_lt', cmp_gt', cmp_eq', b_0, b_1, wb_1, Int.reduceSub, Int.reduceToNat, List.getD_cons_succ, List.getD_cons_zero, Int.reduceLE, Int.reduceLT, Int.reduceEq, Int.reduceNeg, Int.reduceAdd, Int.reduceMul, and_self]
  rw [cast5, sh_nat (by omega), castP]
  have sb := set_bits (k := 5 * p) (n := 3) (x := encR s) (v := v) (by omega) (by omega) (by omega)
  have e7 : ((2 ^ 3 - 1 : Nat) : Int) = 7 := rfl
  rw [e7] at sb
  rw [sb, pow32]
  have e : encR s / 32 ^ p % 2 ^ 3 = s.2.1 p := by
    rw [show 2 ^ 3 = 8 by rfl]; omega
  rw [e]
  have h7 : s.2.1 p * 32 ^ p ≤ encR s := by
    rw [← e]
    have := Nat.div_mul_le_self (encR s) (32 ^ p)
    have h8 : encR s / 32 ^ p % 2 ^ 3 * 32 ^ p ≤ encR s / 32 ^ p * 32 ^ p := Nat.mul_le_mul_right _ (Nat.mod_le _ _)
    omega
  have : encR s - s.2.1 p * 32 ^ p + v * 32 ^ p = encR (s.1, fup s.2.1 p v, s.2.2) := by omega
  rw [this]
theorem r_withStrength {d p v : Nat} {h : PH} {Q : PQ} {s : ST} (hs : okR2 s) (hp : p < 3) (hv : v < 4) :
    WP d 202 0 [some (vi (encR s)), some (vi p), some (vi v)] [] h Q = Q (some (vi (encR (s.1, s.2.1, fup s.2.2 p v)))) h := by
  have hl := (encR_lt hs).2
  have hd := encR_dig hs hp
  have hb := hs.1 p
  have hu := encR_upS (s := s) (v := v) hp
  have h32 : 32 ^ p ≤ 32 ^ 2 := Nat.pow_le_pow_right (by decide) (by omega)
  simp only [e_202_0, e_202_1, e_202_2, e_202_3, e_202_4, e_202_5, e_202_6, e_202_7, e_202_8, e_202_9, e_202_10, e_202_11, e_202_12, e_202_13, e_202_14, e_202_15, e_202_16, e_202_17, e_202_18, e_202_19, okF_0, okF_s, gF_0, gF_s, consC_o, sF_0, sF_s, clsO_o, inA_i, ldA_i, stA_i, inJ_l, ldJ_l, stJ_l, inR_r, ldR_r, stR_r, tgR_r, lenA_i, lenA_l, lenA_r, lenA_ex, nl_i, nl_o, nl_l, nl_n, wd_n, wd_i, wd_l, wd_o, fit_i, fit_l, fit_o, K_v, K_n, true_and, and_true, Nat.reduceAdd, Nat.reduceLeDiff, Nat.reduceEqDiff, Nat.reduceMul, Nat.reduceLT, reduceIte, true_or, or_true, cmp_lt, cmp_gt, cmp_eq, wb_0, b_01, cmp_lt', cmp_gt', cmp_eq', b_0, b_1, wb_1, Int.reduceSub, Int.reduceToNat, List.getD_cons_succ, List.getD_cons_zero, Int.reduceLE, Int.reduceLT, Int.reduceEq, Int.reduceNeg, Int.reduceAdd, Int.reduceMul, and_self]
  have e0 : (5 : Int) * (p : Int) + 3 = ((5 * p + 3 : Nat) : Int) := by omega
  rw [e0, sh_nat (by omega), castP]
  have sb := set_bits (k := 5 * p + 3) (n := 2) (x := encR s) (v := v) (by omega) (by omega) (by omega)
  have e7 : ((2 ^ 2 - 1 : Nat) : Int) = 3 := rfl
  rw [e7] at sb
  have e8 : 2 ^ (5 * p + 3) = 8 * 32 ^ p := by rw [Nat.pow_add, pow32, Nat.mul_comm]
  rw [sb, e8]
  have e : encR s / (8 * 32 ^ p) % 2 ^ 2 = s.2.2 p := by
    rw [show 2 ^ 2 = 4 by rfl, Nat.mul_comm 8, ← Nat.div_div_eq_div_mul]; omega
  rw [e]
  have h7 : s.2.2 p * (8 * 32 ^ p) ≤ encR s := by
    rw [← e]
    have := Nat.div_mul_le_self (encR s) (8 * 32 ^ p)
    have h8 : encR s / (8 * 32 ^ p) % 2 ^ 2 * (8 * 32 ^ p) ≤ encR s / (8 * 32 ^ p) * (8 * 32 ^ p) := Nat.mul_le_mul_right _ (Nat.mod_le _ _)
    omega
  have : encR s - s.2.2 p * (8 * 32 ^ p) + v * (8 * 32 ^ p) = encR (s.1, s.2.1, fup s.2.2 p v) := by omega
  rw [this]
