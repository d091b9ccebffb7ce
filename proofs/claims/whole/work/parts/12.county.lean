/-! THE CLASS'S County: its cells, its reading methods -/
def okK (c : KC) : Prop := 1 ≤ kP c ∧ kP c ≤ 5 ∧ kN c ≤ 3
def lawAt (n : Nat) (fc : Int → Int) (fr tt : Int) (l : Option (List Int)) : Prop := match l with
  | none => fr = -1
  | some o => ∃ f : Nat, fr = f ∧ tt = ((f + o.length : Nat) : Int) ∧ f + o.length ≤ n ∧ ∀ i, i < o.length → fc ((f + i : Nat) : Int) = o.getD i 0
def kPw (c : KC) : Nat := kP c ^ kN c
def CtyAt (h : PH) (a : Nat) (c : KC) : Prop := ∃ (tf tt mf mt : Int) (n : Nat) (fh fw fa fc fg fp : Int → Int),
  hp h a = oC 2 [vi (kP c), vi (kN c), vi (kLines c), vi (kSky c), vr (a + 1), vr (a + 2), vr (a + 3), vr (a + 4), vi tf, vi tt, vi mf, vi mt, vi ((2 * kN c : Nat) : Int), vi (kPw c), vr (a + 6), vr (a + 5), vi ((max 1 (kN c * kPw c * 4 ^ kN c) : Nat) : Int), vi (encC c (kFst c))] ∧
  hp h (a + 1) = aI 0 5 fh ∧ hp h (a + 2) = aI 0 5 fw ∧ hp h (a + 3) = aI 0 3 fa ∧ hp h (a + 4) = aI 0 n fc ∧ hp h (a + 5) = aI 0 3 fg ∧ hp h (a + 6) = aI 0 (kPw c) fp ∧
  (∀ k : Nat, k < 5 → fh k = kHgt c k) ∧ (∀ k : Nat, k < 5 → fw k = kWay c k) ∧ (∀ k : Nat, k < kN c → fa k = kAge c k) ∧ (∀ k : Nat, k < kN c → fg k = ((kP c ^ k : Nat) : Int)) ∧ (∀ f : Nat → Nat, (∀ i, i < kN c → f i < kP c) → fp (encP (kP c) (kN c) f) = encP 8 (kN c) f) ∧ lawAt n fc tf tt (kTir c) ∧ lawAt n fc mf mt (kMay c)
theorem shr_nat {a k : Nat} (ha : a < 2147483648) (hk : k < 32) : w (a : Int) / 2 ^ sh (k : Int) = ((a / 2 ^ k : Nat) : Int) := by
  rw [w_nat ha, sh_nat hk, Int.natCast_ediv]
  congr 1
theorem four_pow (n : Nat) : 2 ^ (2 * n) = 4 ^ n := by rw [Nat.pow_mul]
theorem encC_div {c : KC} {s : ST} (h : okS c s) : encC c s / 4 ^ kN c = s.1 * kPw c + encP (kP c) (kN c) s.2.1 := by
  have h2 := encP_lt (B := 4) (n := kN c) (f := s.2.2) (fun i hi => (h.1 i hi).2)
  unfold encC
  rw [Nat.mul_comm, Nat.mul_add_div (Nat.pow_pos (by decide)), Nat.div_eq_of_lt h2]
  rfl
theorem encC_mod {c : KC} {s : ST} (h : okS c s) : encC c s % 4 ^ kN c = encP 4 (kN c) s.2.2 := by
  have h2 := encP_lt (B := 4) (n := kN c) (f := s.2.2) (fun i hi => (h.1 i hi).2)
  unfold encC
  rw [Nat.mul_comm, Nat.mul_add_mod, Nat.mod_eq_of_lt h2]
theorem c_bearerOf {d a : Nat} {h : PH} {Q : PQ} {c : KC} {s : ST} (hK : okK c) (hC : CtyAt h a c) (hs : okS c s) :
    WP d 19 0 [some (vr a), some (vi (encC c s)), none] [] h Q = Q (some (vi s.1)) h := by
  obtain ⟨tf, tt, mf, mt, n, fh, fw, fa, fc, fg, fp, hA, -⟩ := hC
  obtain ⟨b1, b2, b3, b4, b5, b6⟩ := okS_bounds hs hK.2.2 hK.2.1 hK.1
  have hN := hK.2.2
  have hd := encC_div hs
  have hpw : kPw c ≤ 125 := b3
  have hpl : encP (kP c) (kN c) s.2.1 < kPw c := b1
  simp only [e_19_0, e_19_1, e_19_2, e_19_5, e_19_6, e_19_7, e_19_8, e_19_9, e_19_12, e_19_15, e_19_16, e_19_19, e_19_20, e_19_21, e_19_22, e_19_25, e_19_26, e_19_29, e_19_30, e_19_33, e_19_34, hA, okF_0, okF_s, gF_0, gF_s, consC_o, sF_0, sF_s, clsO_o, inA_i, ldA_i, stA_i, inJ_l, ldJ_l, stJ_l, inR_r, ldR_r, stR_r, tgR_r, lenA_i, lenA_l, lenA_r, lenA_ex, nl_i, nl_o, nl_l, nl_n, wd_n, wd_i, wd_l, wd_o, fit_i, fit_l, fit_o, K_v, K_n, true_and, and_true, Nat.reduceAdd, Nat.reduceLeDiff, Nat.reduceEqDiff, Nat.reduceMul, Nat.reduceLT, reduceIte]
  simp (disch := omega) only [shr_nat, four_pow, hd]
  have e1 : s.1 * kPw c ≤ 2 * 125 := Nat.mul_le_mul b5 hpw
  rw [w_nat (by omega), w_nat (by omega), w_of (by omega) (by omega)]
  rcases (by omega : s.1 = 0 ∨ s.1 = 1 ∨ s.1 = 2) with q | q | q
  · rw [q, if_pos (by omega)]; rfl
  · rw [q, if_neg (by omega), if_pos (by omega)]; rfl
  · rw [q, if_neg (by omega), if_neg (by omega)]; rfl
