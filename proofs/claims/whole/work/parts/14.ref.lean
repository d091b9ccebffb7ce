/-! THE REFERENCE: its small methods -/
theorem pow32 (p : Nat) : 2 ^ (5 * p) = 32 ^ p := by rw [Nat.pow_mul]
theorem okS_R {c : KC} {s : ST} (hK : okK c) (h : okS c s) : (∀ i, s.2.1 i < 8 ∧ s.2.2 i < 4) ∧ s.1 ≤ 2 := by
  refine ⟨fun i => ?_, ?_⟩
  · by_cases hi : i < kN c
    · have := h.1 i hi; have := hK.2.1; omega
    · have := h.2.1 i (by omega); omega
  · have := hK.2.2
    rcases Nat.eq_zero_or_pos (kN c) with q | q
    · rw [h.2.2.1 q]; omega
    · have := h.2.2.2 q; omega
theorem encR_lt {s : ST} (h : (∀ i, s.2.1 i < 8 ∧ s.2.2 i < 4) ∧ s.1 ≤ 2) : encP 32 3 (fun i => s.2.1 i + 8 * s.2.2 i) < 32768 ∧ encR s < 98304 := by
  have h1 := encP_lt (B := 32) (n := 3) (f := fun i => s.2.1 i + 8 * s.2.2 i) (fun i _ => by have := h.1 i; omega)
  unfold encR
  refine ⟨h1, ?_⟩
  have h1 : encP 32 3 (fun i => s.2.1 i + 8 * s.2.2 i) < 32768 := h1
  omega
theorem encR_dig {s : ST} (h : (∀ i, s.2.1 i < 8 ∧ s.2.2 i < 4) ∧ s.1 ≤ 2) {p : Nat} (hp : p < 3) : encR s / 32 ^ p % 32 = s.2.1 p + 8 * s.2.2 p := by
  rw [← encP_digit (B := 32) (n := 3) (f := fun i => s.2.1 i + 8 * s.2.2 i) (fun i _ => by have := h.1 i; omega) hp]
  have hl := (encR_lt h).1
  unfold encR
  generalize encP 32 3 (fun i => s.2.1 i + 8 * s.2.2 i) = z at *
  match p, hp with
  | 0, _ => simp only [Nat.pow_zero]; omega
  | 1, _ => simp only [Nat.pow_one]; omega
  | 2, _ => simp only [show 32 ^ 2 = 1024 from rfl]; omega
theorem r_placeIn {d p : Nat} {h : PH} {Q : PQ} {s : ST} (hs : (∀ i, s.2.1 i < 8 ∧ s.2.2 i < 4) ∧ s.1 ≤ 2) (hp : p < 3) :
    WP d 199 0 [some (vi (encR s)), some (vi p)] [] h Q = Q (some (vi (s.2.1 p))) h := by
  have hl := (encR_lt hs).2
  have hd := encR_dig hs hp
  have hb := hs.1 p
  simp only [e_199_0, e_199_1, e_199_2, e_199_3, e_199_4, e_199_5, e_199_7, e_199_8, okF_0, okF_s, gF_0, gF_s, consC_o, sF_0, sF_s, clsO_o, inA_i, ldA_i, stA_i, inJ_l, ldJ_l, stJ_l, inR_r, ldR_r, stR_r, tgR_r, lenA_i, lenA_l, lenA_r, lenA_ex, nl_i, nl_o, nl_l, nl_n, wd_n, wd_i, wd_l, wd_o, fit_i, fit_l, fit_o, K_v, K_n, true_and, and_true, Nat.reduceAdd, Nat.reduceLeDiff, Nat.reduceEqDiff, Nat.reduceMul, Nat.reduceLT, reduceIte, true_or, or_true, cmp_lt, cmp_gt, cmp_eq, wb_0, b_01]
  simp (disch := omega) only [cast5, shr_nat, pow32, iand_7, castM8]
  have : encR s / 32 ^ p % 8 = s.2.1 p := by omega
  rw [this]
theorem r_strengthIn {d p : Nat} {h : PH} {Q : PQ} {s : ST} (hs : (∀ i, s.2.1 i < 8 ∧ s.2.2 i < 4) ∧ s.1 ≤ 2) (hp : p < 3) :
    WP d 200 0 [some (vi (encR s)), some (vi p)] [] h Q = Q (some (vi (s.2.2 p))) h := by
  have hl := (encR_lt hs).2
  have hd := encR_dig hs hp
  have hb := hs.1 p
  simp only [e_200_0, e_200_1, e_200_2, e_200_3, e_200_4, e_200_5, e_200_6, e_200_7, e_200_8, e_200_9, okF_0, okF_s, gF_0, gF_s, consC_o, sF_0, sF_s, clsO_o, inA_i, ldA_i, stA_i, inJ_l, ldJ_l, stJ_l, inR_r, ldR_r, stR_r, tgR_r, lenA_i, lenA_l, lenA_r, lenA_ex, nl_i, nl_o, nl_l, nl_n, wd_n, wd_i, wd_l, wd_o, fit_i, fit_l, fit_o, K_v, K_n, true_and, and_true, Nat.reduceAdd, Nat.reduceLeDiff, Nat.reduceEqDiff, Nat.reduceMul, Nat.reduceLT, reduceIte, true_or, or_true, cmp_lt, cmp_gt, cmp_eq, wb_0, b_01]
  have e : (5 : Int) * (p : Int) + 3 = ((5 * p + 3 : Nat) : Int) := by omega
  rw [e]
  simp (disch := omega) only [shr_nat, iand_3, castM4]
  have e2 : encR s / 2 ^ (5 * p + 3) = encR s / 32 ^ p / 8 := by rw [Nat.pow_add, ← Nat.div_div_eq_div_mul, pow32]
  rw [e2]
  have : encR s / 32 ^ p / 8 % 4 = s.2.2 p := by omega
  rw [this]
theorem r_bearerIn {d : Nat} {h : PH} {Q : PQ} {s : ST} (hs : (∀ i, s.2.1 i < 8 ∧ s.2.2 i < 4) ∧ s.1 ≤ 2) :
    WP d 201 0 [some (vi (encR s))] [] h Q = Q (some (vi s.1)) h := by
  have hl := encR_lt hs
  simp only [e_201_0, e_201_1, e_201_3, e_201_4, okF_0, okF_s, gF_0, gF_s, consC_o, sF_0, sF_s, clsO_o, inA_i, ldA_i, stA_i, inJ_l, ldJ_l, stJ_l, inR_r, ldR_r, stR_r, tgR_r, lenA_i, lenA_l, lenA_r, lenA_ex, nl_i, nl_o, nl_l, nl_n, wd_n, wd_i, wd_l, wd_o, fit_i, fit_l, fit_o, K_v, K_n, true_and, and_true, Nat.reduceAdd, Nat.reduceLeDiff, Nat.reduceEqDiff, Nat.reduceMul, Nat.reduceLT, reduceIte, true_or, or_true, cmp_lt, cmp_gt, cmp_eq, wb_0, b_01]
  have e := shr_nat (a := encR s) (k := 15) (by omega) (by omega)
  have e2 : encR s / 2 ^ 15 = s.1 := by
    unfold encR
    have := hl.1
    omega
  rw [e2] at e
  have e3 : w (encR s : Int) / 2 ^ sh 15 = (s.1 : Int) := e
  rw [e3]
theorem r_within {d : Nat} {h : PH} {Q : PQ} {v lo hi : Int} (h1 : -9223372036854775808 ≤ v) (h2 : v < 9223372036854775808) (h3 : -9223372036854775808 ≤ lo) (h4 : lo < 9223372036854775808) (h5 : -9223372036854775808 ≤ hi) (h6 : hi < 9223372036854775808) :
    WP d 164 0 [some (vl v), none, some (vl lo), none, some (vl hi), none] [] h Q = Q (some (vi (if lo ≤ v ∧ v ≤ hi then 1 else 0))) h := by
  simp only [e_164_0, e_164_1, e_164_2, e_164_3, e_164_6, e_164_7, e_164_9, e_164_10, e_164_13, e_164_14, e_164_17, e_164_18, okF_0, okF_s, gF_0, gF_s, consC_o, sF_0, sF_s, clsO_o, inA_i, ldA_i, stA_i, inJ_l, ldJ_l, stJ_l, inR_r, ldR_r, stR_r, tgR_r, lenA_i, lenA_l, lenA_r, lenA_ex, nl_i, nl_o, nl_l, nl_n, wd_n, wd_i, wd_l, wd_o, fit_i, fit_l, fit_o, K_v, K_n, true_and, and_true, Nat.reduceAdd, Nat.reduceLeDiff, Nat.reduceEqDiff, Nat.reduceMul, Nat.reduceLT, reduceIte, true_or, or_true, cmp_lt, cmp_gt, cmp_eq, wb_0, b_01]
  rw [wl_of h1 h2, wl_of h3 h4, wl_of h5 h6]
  by_cases a1 : v < lo
  · rw [if_pos a1, if_neg (by omega)]
  · rw [if_neg a1]
    by_cases a2 : hi < v
    · rw [if_pos a2, if_neg (by omega)]
    · rw [if_neg a2, if_pos (by omega)]
/-- the reference's county and how all are, in its long row -/
def lawR (fc : Int → Int) (told fr n : Int) (l : Option (List Int)) (tr : Int → Int) : Prop := match l with
  | none => told = 0
  | some o => told = 1 ∧ n = (o.length : Int) ∧ ∃ f : Nat, fr = (f : Int) ∧ f + o.length ≤ 900 ∧ ∀ i, i < o.length → fc ((123 + f + i : Nat) : Int) = tr (o.getD i 0)
