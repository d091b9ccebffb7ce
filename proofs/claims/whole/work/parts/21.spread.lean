/-! THE CLASS'S spread -/
theorem c_stand {d a b pl st : Nat} {h : PH} {Q : PQ} {c : KC} (hK : okK c) (hC : CtyAt h a c) (hb : b ≤ 2) (hpl : pl < kPw c) (hst : st < 4 ^ kN c) :
    WP d 18 0 [some (vr a), some (vi b), some (vi pl), some (vi st)] [] h Q = Q (some (vi (((b * kPw c + pl) * 4 ^ kN c + st : Nat) : Int))) h := by
  obtain ⟨tf, tt, mf, mt, n, fh, fw, fa, fc, fg, fp, hA, -⟩ := hC
  have hN := hK.2.2
  have h3 : kPw c ≤ 125 := Nat.le_trans (Nat.pow_le_pow_left hK.2.1 _) (Nat.pow_le_pow_right (by decide) hN)
  have h4 : 4 ^ kN c ≤ 64 := Nat.pow_le_pow_right (by decide) hN
  simp only [e_18_0, e_18_1, e_18_2, e_18_5, e_18_6, e_18_7, e_18_8, e_18_9, e_18_12, e_18_13, e_18_14, e_18_15, hA, okF_0, okF_s, gF_0, gF_s, consC_o, sF_0, sF_s, clsO_o, inA_i, ldA_i, stA_i, inJ_l, ldJ_l, stJ_l, inR_r, ldR_r, stR_r, tgR_r, lenA_i, lenA_l, lenA_r, lenA_ex, nl_i, nl_o, nl_l, nl_n, wd_n, wd_i, wd_l, wd_o, fit_i, fit_l, fit_o, K_v, K_n, true_and, and_true, Nat.reduceAdd, Nat.reduceLeDiff, Nat.reduceEqDiff, Nat.reduceMul, Nat.reduceLT, reduceIte, true_or, or_true, cmp_lt, cmp_gt, cmp_eq, wb_0, b_01, cmp_lt', cmp_gt', cmp_eq', b_0, b_1, wb_1, Int.reduceSub, Int.reduceToNat, List.getD_cons_succ, List.getD_cons_zero, Int.reduceLE, Int.reduceLT, Int.reduceEq, Int.reduceNeg, Int.reduceAdd, Int.reduceMul, and_self]
  have e1 : (b : Int) * (kPw c : Int) + (pl : Int) = ((b * kPw c + pl : Nat) : Int) := by rw [Int.natCast_add, Int.natCast_mul]
  have hle : b * kPw c + pl + 1 ≤ 375 := by
    have : b * kPw c ≤ 2 * 125 := Nat.mul_le_mul hb h3
    omega
  have hm : (b * kPw c + pl + 1) * 4 ^ kN c ≤ 375 * 64 := Nat.mul_le_mul hle h4
  rw [Nat.add_mul, Nat.one_mul] at hm
  rw [sh_nat (by omega), e1, castP, ← Int.natCast_mul, ior_add (by rw [four_pow]; omega) (by rw [four_pow]; omega), four_pow]
theorem with_bits : ∀ x : Fin 64, ∀ p : Fin 3, ∀ v : Fin 4, ior (iand ((x : Nat) : Int) (ixor (3 * 2 ^ sh (2 * ((p : Nat) : Int))) (-1))) (((v : Nat) : Int) * 2 ^ sh (2 * ((p : Nat) : Int))) = (((x : Nat) - (x : Nat) / 4 ^ (p : Nat) % 4 * 4 ^ (p : Nat) + (v : Nat) * 4 ^ (p : Nat) : Nat) : Int) := by decide +kernel
theorem j_with {d a p v n : Nat} {h : PH} {Q : PQ} {f : Nat → Nat} (hn : n ≤ 3) (hf : ∀ i, i < n → f i < 4) (hp : p < n) (hv : v < 4) :
    WP d 42 0 [some (vr a), some (vi (encP 4 n f)), some (vi p), some (vi v)] [] h Q = Q (some (vi (encP 4 n (fup f p v)))) h := by
  have hlt := encP_lt (B := 4) hf
  have h4 : 4 ^ n ≤ 64 := Nat.pow_le_pow_right (by decide) hn
  have hd := encP_digit (B := 4) hf hp
  have hu := encP_up (B := 4) (f := f) (i := p) (v := v) hp
  have wb := with_bits ⟨encP 4 n f, by omega⟩ ⟨p, by omega⟩ ⟨v, hv⟩
  dsimp only at wb
  rw [hd] at wb
  simp only [e_42_0, e_42_1, e_42_2, e_42_3, e_42_4, e_42_5, e_42_6, e_42_7, e_42_8, e_42_9, e_42_10, e_42_11, e_42_12, e_42_13, e_42_14, e_42_15, okF_0, okF_s, gF_0, gF_s, consC_o, sF_0, sF_s, clsO_o, inA_i, ldA_i, stA_i, inJ_l, ldJ_l, stJ_l, inR_r, ldR_r, stR_r, tgR_r, lenA_i, lenA_l, lenA_r, lenA_ex, nl_i, nl_o, nl_l, nl_n, wd_n, wd_i, wd_l, wd_o, fit_i, fit_l, fit_o, K_v, K_n, true_and, and_true, Nat.reduceAdd, Nat.reduceLeDiff, Nat.reduceEqDiff, Nat.reduceMul, Nat.reduceLT, reduceIte, true_or, or_true, cmp_lt, cmp_gt, cmp_eq, wb_0, b_01, cmp_lt', cmp_gt', cmp_eq', b_0, b_1, wb_1, Int.reduceSub, Int.reduceToNat, List.getD_cons_succ, List.getD_cons_zero, Int.reduceLE, Int.reduceLT, Int.reduceEq, Int.reduceNeg, Int.reduceAdd, Int.reduceMul, and_self]
  rw [wb]
  have : encP 4 n f - f p * 4 ^ p + v * 4 ^ p = encP 4 n (fup f p v) := by
    have h6 : f p * 4 ^ p ≤ encP 4 n f := by
      rw [← hd]
      have := Nat.div_mul_le_self (encP 4 n f) (4 ^ p)
      have h7 : encP 4 n f / 4 ^ p % 4 * 4 ^ p ≤ encP 4 n f / 4 ^ p * 4 ^ p := Nat.mul_le_mul_right _ (Nat.mod_le _ _)
      omega
    omega
  rw [this]
theorem j_add {d ca n : Nat} {h : PH} {Q : PQ} {i : Nat → Int} {A : Nat → Int → Int} {deed stand : Int} (hn : n < 16) :
    WP d 41 0 [some (vr 27), some (vi deed), some (vi stand)] [] (hoH h ca (iup i 9 n) A) Q = Q none (hoH h ca (iup i 9 ((n + 1 : Nat) : Int)) (aup (aup A 32 (fset (A 32) n deed)) 33 (fset (A 33) n stand))) := by
  simp (disch := omega) only [e_41_0, e_41_1, e_41_4, e_41_6, e_41_9, e_41_10, e_41_13, e_41_14, e_41_17, e_41_18, e_41_19, e_41_20, e_41_23, e_41_24, e_41_27, e_41_28, e_41_29, e_41_30i, e_41_30a, e_41_31, e_41_34, e_41_35, e_41_36, e_41_39, iup_iup, hoO_c, hoO_g0, hoO_k0, hoO_g1, hoO_k1, hoO_g2, hoO_k2, hoO_g3, hoO_k3, hoO_g4, hoO_k4, hoO_g5, hoO_k5, hoO_g6, hoO_k6, hoO_g7, hoO_k7, hoO_g8, hoO_k8, hoO_g9, hoO_k9, hoO_s0, hoO_s1, hoO_s2, hoO_s9, ho_1, ho_2, ho_g27, ho_g28, ho_g29, ho_g30, ho_g31, ho_g32, ho_g33, ho_out, ho_u27, ho_u28, ho_u29, ho_u30, ho_u31, ho_u32, ho_u33, ho_uo, iup_s, iup_n, aup_s, aup_n, ne_eq, not_false_eq_true, sh_0, sh_1, sh_2, sh_3, sh_4, sh_5, sh_8, sh_15, sh_16, sh_24, Int.reducePow, Int.cast_ofNat_Int, w_of, wl_of, ltT, ltF, leT, leF, eqT, eqF, okF_0, okF_s, gF_0, gF_s, consC_o, sF_0, sF_s, clsO_o, inA_i, ldA_i, stA_i, inJ_l, ldJ_l, stJ_l, inR_r, ldR_r, stR_r, tgR_r, lenA_i, lenA_l, lenA_r, lenA_ex, nl_i, nl_o, nl_l, nl_n, wd_n, wd_i, wd_l, wd_o, fit_i, fit_l, fit_o, K_v, K_n, true_and, and_true, Nat.reduceAdd, Nat.reduceLeDiff, Nat.reduceEqDiff, Nat.reduceMul, Nat.reduceLT, reduceIte, true_or, or_true, cmp_lt, cmp_gt, cmp_eq, wb_0, b_01, cmp_lt', cmp_gt', cmp_eq', b_0, b_1, wb_1, Int.reduceSub, Int.reduceToNat, List.getD_cons_succ, List.getD_cons_zero, Int.reduceLE, Int.reduceLT, Int.reduceEq, Int.reduceNeg, Int.reduceAdd, Int.reduceMul, and_self]
  rfl
def lsOK (c : KC) (L : List (Nat × ST)) (B : Nat → Int → Int) : Prop := ∀ (j : Nat) (x : Nat × ST), L[j]? = some x → B 32 j = x.1 ∧ B 33 j = encC c x.2
theorem lsOK_nil {c : KC} {B : Nat → Int → Int} : lsOK c [] B := fun j x h => by simp at h
theorem lsOK_x {c : KC} {L : List (Nat × ST)} {A B : Nat → Int → Int} (h : lsOK c L A) (h2 : B 32 = A 32) (h3 : B 33 = A 33) : lsOK c L B := fun j x hx => by rw [h2, h3]; exact h j x hx
theorem lsOK_add {c : KC} {L : List (Nat × ST)} {A : Nat → Int → Int} {dd : Nat} {t : ST} (h : lsOK c L A) : lsOK c (L ++ [(dd, t)]) (aup (aup A 32 (fset (A 32) (L.length : Nat) dd)) 33 (fset (A 33) (L.length : Nat) (encC c t))) := by
  intro j x hx
  rw [aup_s, aup_n (by omega), aup_s]
  by_cases q : j < L.length
  · rw [List.getElem?_append_left q] at hx
    rw [fs_ne (by omega), fs_ne (by omega)]
    exact h j x hx
  · rw [List.getElem?_append_right (by omega)] at hx
    by_cases q2 : j = L.length
    · subst q2
      rw [Nat.sub_self] at hx
      simp only [List.getElem?_cons_zero, Option.some.injEq] at hx
      subst hx
      rw [fs_same, fs_same]
      exact ⟨rfl, rfl⟩
    · obtain ⟨k, hk⟩ : ∃ k, j - L.length = k + 1 := ⟨j - L.length - 1, by omega⟩
      rw [hk] at hx
      simp at hx
