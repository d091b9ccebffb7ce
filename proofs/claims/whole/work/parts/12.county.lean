/-! THE CLASS'S County: its cells, its reading methods -/
def okK (c : KC) : Prop := 1 ≤ kP c ∧ kP c ≤ 5 ∧ kN c ≤ 3
def lawAt (n : Nat) (fc : Int → Int) (fr tt : Int) (l : Option (List Int)) : Prop := match l with
  | none => fr = -1
  | some o => ∃ f : Nat, fr = f ∧ tt = ((f + o.length : Nat) : Int) ∧ f + o.length ≤ n ∧ ∀ i, i < o.length → fc ((f + i : Nat) : Int) = o.getD i 0
def kPw (c : KC) : Nat := kP c ^ kN c
def CtyAt (h : PH) (a : Nat) (c : KC) : Prop := ∃ (tf tt mf mt : Int) (n : Nat) (fh fw fa fc fg fp : Int → Int),
  hp h a = oC 2 [vi (kP c), vi (kN c), vi (kLines c), vi (kSky c), vr (a + 1), vr (a + 2), vr (a + 3), vr (a + 4), vi tf, vi tt, vi mf, vi mt, vi ((2 * kN c : Nat) : Int), vi (kPw c), vr (a + 6), vr (a + 5), vi ((max 1 (kN c * kPw c * 4 ^ kN c) : Nat) : Int), vi (encC c (kFst c))] ∧
  hp h (a + 1) = aI 0 5 fh ∧ hp h (a + 2) = aI 0 5 fw ∧ hp h (a + 3) = aI 0 3 fa ∧ hp h (a + 4) = aI 0 n fc ∧ hp h (a + 5) = aI 0 3 fg ∧ hp h (a + 6) = aI 0 (kPw c) fp ∧
  (∀ k : Nat, k < 5 → fh k = kHgt c k) ∧ (∀ k : Nat, k < 5 → fw k = kWay c k) ∧ (∀ k : Nat, k < kN c → fa k = kAge c k) ∧ (∀ k : Nat, k < kN c → fg k = ((kP c ^ k : Nat) : Int)) ∧ (∀ f : Nat → Nat, (∀ i, i < kN c → f i < kP c) → fp (encP (kP c) (kN c) f) = encP 8 (kN c) f) ∧ lawAt n fc tf tt (kTir c) ∧ lawAt n fc mf mt (kMay c) ∧ n ≤ 900
theorem shr_nat {a k : Nat} (ha : a < 2147483648) (hk : k < 32) : w (a : Int) / 2 ^ sh (k : Int) = ((a / 2 ^ k : Nat) : Int) := by
  rw [w_nat ha, sh_nat hk, Int.natCast_ediv]
  congr 1
theorem four_pow (n : Nat) : 2 ^ (2 * n) = 4 ^ n := by rw [Nat.pow_mul]
theorem encC_div {c : KC} {s : ST} (h : okS c s) : encC c s / 4 ^ kN c = s.1 * kPw c + encP (kP c) (kN c) s.2.1 := by
  have h2 := encP_lt (B := 4) (n := kN c) (f := s.2.2) (fun i hi => (h.1 i hi).2)
  unfold encC
  rw [Nat.mul_comm, Nat.mul_add_div (Nat.pow_pos (by decide)), Nat.div_eq_of_lt h2]
  rfl
theorem encC_mod {c : KC} {s : ST} (h : okS c s) : encC c s % 4 ^ kN c = encP 4 (kN c) s.2.2 := by
  have h2 := encP_lt (B := 4) (n := kN c) (f := s.2.2) (fun i hi => (h.1 i hi).2)
  unfold encC
  rw [Nat.mul_comm, Nat.mul_add_mod, Nat.mod_eq_of_lt h2]
theorem c_bearerOf {d a : Nat} {h : PH} {Q : PQ} {c : KC} {s : ST} (hK : okK c) (hC : CtyAt h a c) (hs : okS c s) :
    WP d 19 0 [some (vr a), some (vi (encC c s)), none] [] h Q = Q (some (vi s.1)) h := by
  obtain ⟨tf, tt, mf, mt, n, fh, fw, fa, fc, fg, fp, hA, -⟩ := hC
  obtain ⟨b1, b2, b3, b4, b5, b6⟩ := okS_bounds hs hK.2.2 hK.2.1 hK.1
  have hN := hK.2.2
  have hd := encC_div hs
  have hpw : kPw c ≤ 125 := b3
  have hpl : encP (kP c) (kN c) s.2.1 < kPw c := b1
  simp only [e_19_0, e_19_1, e_19_2, e_19_5, e_19_6, e_19_7, e_19_8, e_19_9, e_19_12, e_19_15, e_19_16, e_19_19, e_19_20, e_19_21, e_19_22, e_19_25, e_19_26, e_19_29, e_19_30, e_19_33, e_19_34, hA, okF_0, okF_s, gF_0, gF_s, consC_o, sF_0, sF_s, clsO_o, inA_i, ldA_i, stA_i, inJ_l, ldJ_l, stJ_l, inR_r, ldR_r, stR_r, tgR_r, lenA_i, lenA_l, lenA_r, lenA_ex, nl_i, nl_o, nl_l, nl_n, wd_n, wd_i, wd_l, wd_o, fit_i, fit_l, fit_o, K_v, K_n, true_and, and_true, Nat.reduceAdd, Nat.reduceLeDiff, Nat.reduceEqDiff, Nat.reduceMul, Nat.reduceLT, reduceIte, true_or, or_true, cmp_lt, cmp_gt, cmp_eq, wb_0, b_01]
  simp (disch := omega) only [shr_nat, four_pow, hd]
  have e1 : s.1 * kPw c ≤ 2 * 125 := Nat.mul_le_mul b5 hpw
  rw [w_nat (by omega), w_nat (by omega), w_of (by omega) (by omega)]
  rcases (by omega : s.1 = 0 ∨ s.1 = 1 ∨ s.1 = 2) with q | q | q
  · rw [q, if_pos (by omega)]; rfl
  · rw [q, if_neg (by omega), if_pos (by omega)]; rfl
  · rw [q, if_neg (by omega), if_neg (by omega)]; rfl
theorem CtyAt_frame {h h' : PH} {a : Nat} {c : KC} (hf : ∀ k, a ≤ k → k ≤ a + 6 → hp h' k = hp h k) (hC : CtyAt h a c) : CtyAt h' a c := by
  obtain ⟨tf, tt, mf, mt, n, fh, fw, fa, fc, fg, fp, h0, h1, h2, h3, h4, h5, h6, h7⟩ := hC
  refine ⟨tf, tt, mf, mt, n, fh, fw, fa, fc, fg, fp, ?_, ?_, ?_, ?_, ?_, ?_, ?_, h7⟩
  · rw [hf a (by omega) (by omega)]; exact h0
  · rw [hf (a + 1) (by omega) (by omega)]; exact h1
  · rw [hf (a + 2) (by omega) (by omega)]; exact h2
  · rw [hf (a + 3) (by omega) (by omega)]; exact h3
  · rw [hf (a + 4) (by omega) (by omega)]; exact h4
  · rw [hf (a + 5) (by omega) (by omega)]; exact h5
  · rw [hf (a + 6) (by omega) (by omega)]; exact h6
theorem cast2 (p : Nat) : (2 : Int) * (p : Int) = ((2 * p : Nat) : Int) := by omega
theorem cast3 (p : Nat) : (3 : Int) * (p : Int) = ((3 * p : Nat) : Int) := by omega
theorem cast5 (p : Nat) : (5 : Int) * (p : Int) = ((5 * p : Nat) : Int) := by omega
theorem castP (k : Nat) : (2 : Int) ^ k = ((2 ^ k : Nat) : Int) := by rw [Int.natCast_pow]; rfl
theorem castM4 (a : Nat) : (a : Int) % 4 = ((a % 4 : Nat) : Int) := by omega
theorem castM8 (a : Nat) : (a : Int) % 8 = ((a % 8 : Nat) : Int) := by omega
theorem castM2 (a : Nat) : (a : Int) % 2 = ((a % 2 : Nat) : Int) := by omega
theorem encC_str {c : KC} {s : ST} (h : okS c s) {p : Nat} (hp : p < kN c) : encC c s / 4 ^ p % 4 = s.2.2 p := by
  rw [← encP_digit (fun j hj => (h.1 j hj).2) hp, ← encC_mod h]
  have e : 4 ^ kN c = 4 ^ p * 4 * 4 ^ (kN c - p - 1) := by
    rw [← Nat.pow_succ, ← Nat.pow_add]; congr 1; omega
  rw [e, Nat.mul_assoc, Nat.mod_mul_right_div_self, Nat.mod_mul_right_mod]
theorem c_placingOf {d a : Nat} {h : PH} {Q : PQ} {c : KC} {s : ST} (hK : okK c) (hC : CtyAt h a c) (hs : okS c s) :
    WP (d + 1) 20 0 [some (vr a), some (vi (encC c s))] [] h Q = Q (some (vi (encP (kP c) (kN c) s.2.1))) h := by
  have hC' := hC
  obtain ⟨tf, tt, mf, mt, n, fh, fw, fa, fc, fg, fp, hA, -⟩ := hC
  obtain ⟨b1, b2, b3, b4, b5, b6⟩ := okS_bounds hs hK.2.2 hK.2.1 hK.1
  have hN := hK.2.2
  have hd := encC_div hs
  simp only [e_20_0, e_20_1, e_20_2, e_20_5, e_20_6, e_20_7, e_20_8, e_20_11, e_20_12, e_20_15, e_20_16, e_20_17, hA, c_bearerOf hK hC' hs, okF_0, okF_s, gF_0, gF_s, consC_o, sF_0, sF_s, clsO_o, inA_i, ldA_i, stA_i, inJ_l, ldJ_l, stJ_l, inR_r, ldR_r, stR_r, tgR_r, lenA_i, lenA_l, lenA_r, lenA_ex, nl_i, nl_o, nl_l, nl_n, wd_n, wd_i, wd_l, wd_o, fit_i, fit_l, fit_o, K_v, K_n, true_and, and_true, Nat.reduceAdd, Nat.reduceLeDiff, Nat.reduceEqDiff, Nat.reduceMul, Nat.reduceLT, reduceIte, true_or, or_true, cmp_lt, cmp_gt, cmp_eq, wb_0, b_01]
  simp (disch := omega) only [shr_nat, four_pow, hd]
  have e : ((s.1 * kPw c + encP (kP c) (kN c) s.2.1 : Nat) : Int) - (s.1 : Int) * (kPw c : Int) = (encP (kP c) (kN c) s.2.1 : Int) := by
    rw [Int.natCast_add, Int.natCast_mul]; omega
  rw [e]
theorem pow8 (p : Nat) : 2 ^ (3 * p) = 8 ^ p := by rw [Nat.pow_mul]
theorem encP8_lt {c : KC} {f : Nat → Nat} (hK : okK c) (hf : ∀ i, i < kN c → f i < kP c) : encP 8 (kN c) f < 512 ∧ ∀ i, i < kN c → f i < 8 := by
  have h8 : ∀ i, i < kN c → f i < 8 := fun i hi => by have := hf i hi; have := hK.2.1; omega
  have h1 := encP_lt (B := 8) h8
  have h2 : 8 ^ kN c ≤ 8 ^ 3 := Nat.pow_le_pow_right (by decide) hK.2.2
  exact ⟨by omega, h8⟩
theorem c_placeOf {d a p : Nat} {h : PH} {Q : PQ} {c : KC} {s : ST} (hK : okK c) (hC : CtyAt h a c) (hs : okS c s) (hp : p < kN c) :
    WP (d + 2) 21 0 [some (vr a), some (vi (encC c s)), some (vi p)] [] h Q = Q (some (vi (s.2.1 p))) h := by
  have hC' := hC
  obtain ⟨tf, tt, mf, mt, n, fh, fw, fa, fc, fg, fp, hA, -, -, -, -, -, hA6, -, -, -, -, hpl, -⟩ := hC
  obtain ⟨b1, b2, b3, b4, b5, b6⟩ := okS_bounds hs hK.2.2 hK.2.1 hK.1
  have hN := hK.2.2
  have hpw : kPw c ≤ 125 := b3
  have hb1 : encP (kP c) (kN c) s.2.1 < kPw c := b1
  obtain ⟨e8, d8⟩ := encP8_lt hK (fun i hi => (hs.1 i hi).1)
  simp only [e_21_0, e_21_1, e_21_4, e_21_5, e_21_6, e_21_9, e_21_10, e_21_11, e_21_12, e_21_13, e_21_14, e_21_16, e_21_17, hA, hA6, c_placingOf hK hC' hs, okF_0, okF_s, gF_0, gF_s, consC_o, sF_0, sF_s, clsO_o, inA_i, ldA_i, stA_i, inJ_l, ldJ_l, stJ_l, inR_r, ldR_r, stR_r, tgR_r, lenA_i, lenA_l, lenA_r, lenA_ex, nl_i, nl_o, nl_l, nl_n, wd_n, wd_i, wd_l, wd_o, fit_i, fit_l, fit_o, K_v, K_n, true_and, and_true, Nat.reduceAdd, Nat.reduceLeDiff, Nat.reduceEqDiff, Nat.reduceMul, Nat.reduceLT, reduceIte, true_or, or_true, cmp_lt, cmp_gt, cmp_eq, wb_0, b_01]
  rw [w_nat (by omega), hpl s.2.1 (fun i hi => (hs.1 i hi).1)]
  simp (disch := omega) only [cast3, shr_nat, pow8, iand_7, castM8]
  rw [encP_digit d8 hp]
  simp only [and_iff_right (show 0 ≤ (encP (kP c) (kN c) s.2.1 : Int) ∧ (encP (kP c) (kN c) s.2.1 : Int) < (kPw c : Int) by omega)]
theorem c_strengthOf {d a p : Nat} {h : PH} {Q : PQ} {c : KC} {s : ST} (hK : okK c) (hs : okS c s) (hp : p < kN c) :
    WP d 22 0 [some (vr a), some (vi (encC c s)), some (vi p)] [] h Q = Q (some (vi (s.2.2 p))) h := by
  obtain ⟨b1, b2, b3, b4, b5, b6⟩ := okS_bounds hs hK.2.2 hK.2.1 hK.1
  have hN := hK.2.2
  simp only [e_22_0, e_22_1, e_22_2, e_22_3, e_22_4, e_22_5, e_22_6, e_22_7, okF_0, okF_s, gF_0, gF_s, consC_o, sF_0, sF_s, clsO_o, inA_i, ldA_i, stA_i, inJ_l, ldJ_l, stJ_l, inR_r, ldR_r, stR_r, tgR_r, lenA_i, lenA_l, lenA_r, lenA_ex, nl_i, nl_o, nl_l, nl_n, wd_n, wd_i, wd_l, wd_o, fit_i, fit_l, fit_o, K_v, K_n, true_and, and_true, Nat.reduceAdd, Nat.reduceLeDiff, Nat.reduceEqDiff, Nat.reduceMul, Nat.reduceLT, reduceIte, true_or, or_true, cmp_lt, cmp_gt, cmp_eq, wb_0, b_01]
  simp (disch := omega) only [cast2, shr_nat, four_pow, iand_3, castM4, encC_str hs hp]
theorem bear_lt {c : KC} {s : ST} (hs : okS c s) (h0 : kN c ≠ 0) : s.1 < kN c := hs.2.2.2 (by omega)
def downB (c : KC) (s : ST) : Bool := decide (kN c = 0) || decide (s.2.2 s.1 = 0)
theorem c_isDown {d a : Nat} {h : PH} {Q : PQ} {c : KC} {s : ST} (hK : okK c) (hC : CtyAt h a c) (hs : okS c s) :
    WP (d + 1) 25 0 [some (vr a), some (vi (encC c s))] [] h Q = Q (some (vi (if downB c s then 1 else 0))) h := by
  have hC' := hC
  obtain ⟨tf, tt, mf, mt, n, fh, fw, fa, fc, fg, fp, hA, -⟩ := hC
  obtain ⟨b1, b2, b3, b4, b5, b6⟩ := okS_bounds hs hK.2.2 hK.2.1 hK.1
  have hN := hK.2.2
  simp only [e_25_0, e_25_1, e_25_4, e_25_7, e_25_8, e_25_9, e_25_10, e_25_11, e_25_14, e_25_15, e_25_16, e_25_17, e_25_18, e_25_21, e_25_22, e_25_25, e_25_26, hA, c_bearerOf hK hC' hs, okF_0, okF_s, gF_0, gF_s, consC_o, sF_0, sF_s, clsO_o, inA_i, ldA_i, stA_i, inJ_l, ldJ_l, stJ_l, inR_r, ldR_r, stR_r, tgR_r, lenA_i, lenA_l, lenA_r, lenA_ex, nl_i, nl_o, nl_l, nl_n, wd_n, wd_i, wd_l, wd_o, fit_i, fit_l, fit_o, K_v, K_n, true_and, and_true, Nat.reduceAdd, Nat.reduceLeDiff, Nat.reduceEqDiff, Nat.reduceMul, Nat.reduceLT, reduceIte, true_or, or_true, cmp_lt, cmp_gt, cmp_eq, wb_0, b_01]
  rw [w_nat (by omega)]
  unfold downB
  by_cases h0 : kN c = 0
  · simp [h0]
  · have hb := bear_lt hs h0
    simp (disch := omega) only [cast2, shr_nat, four_pow, iand_3, castM4, encC_str hs hb]
    have hlt := (hs.1 _ hb).2
    rw [w_nat (by omega)]
    by_cases h1 : s.2.2 s.1 = 0
    · simp [h0, h1]
    · have h2 : ¬ ((s.2.2 s.1 : Int) = 0) := by omega
      have h3 : ¬ ((kN c : Int) = 0) := by omega
      simp [h0, h1, h2, h3]
