/-! THE REFERENCE: the stand now, laying all stands -/
def frA (ks : List Nat) (A B : Nat → Int → Int) : Prop := ∀ k, ¬ k ∈ ks → B k = A k
def frI (ks : List Nat) (i j : Nat → Int) : Prop := ∀ k, ¬ k ∈ ks → j k = i k
theorem frA_r {ks : List Nat} {A : Nat → Int → Int} : frA ks A A := fun _ _ => rfl
theorem frA_t {ks : List Nat} {A B C : Nat → Int → Int} (h1 : frA ks A B) (h2 : frA ks B C) : frA ks A C := fun k hk => by rw [h2 k hk, h1 k hk]
theorem frA_w {ks ls : List Nat} {A B : Nat → Int → Int} (h1 : frA ks A B) (h2 : ∀ k, k ∈ ks → k ∈ ls) : frA ls A B := fun k hk => h1 k (fun z => hk (h2 k z))
theorem frA_u {ks : List Nat} {A : Nat → Int → Int} {k : Nat} {f : Int → Int} (h : k ∈ ks) : frA ks A (aup A k f) := fun j hj => aup_n (fun e => hj (e ▸ h))
theorem frA_s {ks : List Nat} {A B : Nat → Int → Int} (h : sameR A B) (h1 : 76 ∈ ks) (h2 : 77 ∈ ks) : frA ks A B := fun k hk => h k (fun e => hk (e ▸ h1)) (fun e => hk (e ▸ h2))
theorem frI_r {ks : List Nat} {i : Nat → Int} : frI ks i i := fun _ _ => rfl
theorem frI_t {ks : List Nat} {i j l : Nat → Int} (h1 : frI ks i j) (h2 : frI ks j l) : frI ks i l := fun k hk => by rw [h2 k hk, h1 k hk]
theorem frI_w {ks ls : List Nat} {A B : Nat → Int} (h1 : frI ks A B) (h2 : ∀ k, k ∈ ks → k ∈ ls) : frI ls A B := fun k hk => h1 k (fun z => hk (h2 k z))
theorem frI_u {ks : List Nat} {i : Nat → Int} {k : Nat} {v : Int} (h : k ∈ ks) : frI ks i (iup i k v) := fun j hj => iup_n (fun e => hj (e ▸ h))
theorem encP_zero {B : Nat} {f : Nat → Nat} {n : Nat} : ∀ {r : Nat}, (∀ i, n ≤ i → f i = 0) → encP B (n + r) f = encP B n f
  | 0, _ => rfl
  | r + 1, h => by
    show encP B (n + r) f + f (n + r) * B ^ (n + r) = _
    rw [h (n + r) (by omega), encP_zero h]; omega
theorem or_digit {b e v p : Nat} (hp : p ≤ 2) (he : e < 32 ^ p) (hv : v < 32) : (b * 32768 + e) ||| (v * 32 ^ p) = b * 32768 + (e + v * 32 ^ p) := by
  have h1 : 2 ^ (5 * p) = 32 ^ p := pow32 p
  have hle : 2 ^ (5 * p) * v + e < 2 ^ (5 * p + 5) := by
    rw [Nat.pow_add, h1]
    have : 32 ^ p * (v + 1) ≤ 32 ^ p * 32 := Nat.mul_le_mul_left _ hv
    rw [Nat.mul_add, Nat.mul_one] at this
    omega
  have e1 : b * 32768 = 2 ^ (5 * p + 5) * (b * 2 ^ (10 - 5 * p)) := by
    rw [Nat.mul_comm (2 ^ (5 * p + 5)), Nat.mul_assoc, ← Nat.pow_add, show 10 - 5 * p + (5 * p + 5) = 15 by omega]
  have e2 : v * 32 ^ p = 2 ^ (5 * p) * v := by rw [h1, Nat.mul_comm]
  have he' : e < 2 ^ (5 * p) := by rw [h1]; exact he
  rw [e1, e2, Nat.two_pow_add_eq_or_of_lt (by omega), Nat.or_assoc, Nat.or_comm e, ← Nat.two_pow_add_eq_or_of_lt he', ← Nat.two_pow_add_eq_or_of_lt hle]
  omega
theorem or_plst {a v p : Nat} (ha : a < 8) : (a * 32 ^ p) ||| (v * (8 * 32 ^ p)) = (a + 8 * v) * 32 ^ p := by
  have h1 : 2 ^ (5 * p) = 32 ^ p := pow32 p
  have e1 : v * (8 * 32 ^ p) = 2 ^ (5 * p + 3) * v := by rw [Nat.pow_add, h1]; rw [Nat.mul_comm]; congr 1; omega
  have hl : a * 32 ^ p < 2 ^ (5 * p + 3) := by
    rw [Nat.pow_add, h1, Nat.mul_comm]
    exact Nat.mul_lt_mul_of_pos_left ha (Nat.pow_pos (by decide))
  rw [Nat.or_comm, e1, ← Nat.two_pow_add_eq_or_of_lt hl, ← e1, Nat.add_mul]
  rw [show 8 * v * 32 ^ p = v * (8 * 32 ^ p) by rw [← Nat.mul_assoc, Nat.mul_comm v 8]]
  omega
theorem r_standNow {d : Nat} {h : PH} {i : Nat → Int} {A : Nat → Int → Int} {c : KC} {s : ST} {sky hrs : Nat} {Q : PQ} (hK : okK c) (hR : ctyR (A 72) c) (hS : stdR (A 72) s sky hrs) (hs : okS c s) :
    WP d 204 0 [some (vr 71), none, none] [] (mdH h i A) Q = Q (some (vi (encR s))) (mdH h i A) := by
  obtain ⟨-, -, hn, -⟩ := hR
  obtain ⟨hp, h28, -⟩ := hS
  have hN := hK.2.2
  have r1 := okS_R hK hs
  have lp : ∀ r p : Nat, p + r = kN c → WP d 204 13 [some (vr 71), some (vi ((s.1 * 32768 + encP 32 p (fun i => s.2.1 i + 8 * s.2.2 i) : Nat) : Int)), some (vi p)] [] (mdH h i A) Q = Q (some (vi (encR s))) (mdH h i A) := by
    intro r
    induction r with
    | zero =>
      intro p hpn
      have hpn' : p = kN c := by omega
      have e : s.1 * 32768 + encP 32 p (fun i => s.2.1 i + 8 * s.2.2 i) = encR s := by
        unfold encR
        rw [hpn']
        have := encP_zero (B := 32) (f := fun i => s.2.1 i + 8 * s.2.2 i) (n := kN c) (r := 3 - kN c) (fun i hi => by have := hs.2.1 i hi; omega)
        rw [show kN c + (3 - kN c) = 3 by omega] at this
        rw [this]
      rw [e]
      rw [e_204_13]
      simp (disch := omega) only [e_204_14, e_204_15, e_204_18, e_204_19, e_204_20, e_204_61, e_204_62, hn, hpn', mdO_c, mdO_g0, mdO_k0, mdO_g1, mdO_k1, mdO_g2, mdO_k2, mdO_g3, mdO_k3, mdO_g4, mdO_k4, mdO_g5, mdO_k5, mdO_g6, mdO_k6, mdO_g7, mdO_k7, mdO_g8, mdO_k8, mdO_g9, mdO_k9, mdO_g10, mdO_k10, mdO_g11, mdO_k11, mdO_g12, mdO_k12, mdO_g13, mdO_k13, mdO_g14, mdO_k14, mdO_g15, mdO_k15, mdO_g16, mdO_k16, mdO_g17, mdO_k17, mdO_g18, mdO_k18, mdO_g19, mdO_k19, mdO_g20, mdO_k20, mdO_g21, mdO_k21, mdO_g22, mdO_k22, mdO_g23, mdO_k23, mdO_g24, mdO_k24, mdO_g25, mdO_k25, mdO_g26, mdO_k26, mdO_g27, mdO_k27, mdO_g28, mdO_k28, mdO_g29, mdO_k29, mdO_g30, mdO_k30, mdO_g31, mdO_k31, mdO_g32, mdO_k32, mdO_g33, mdO_k33, mdO_g34, mdO_k34, mdO_g35, mdO_k35, mdO_s0, mdO_s5, mdO_s6, mdO_s7, mdO_s8, mdO_s9, mdO_s10, mdO_s11, mdO_s12, mdO_s13, mdO_s14, mdO_s15, mdO_s19, mdO_s20, mdO_s25, mdO_s26, mdO_s31, mdO_s32, md_1, md_2, md_g71, md_g72, md_g73, md_g74, md_g75, md_g76, md_g77, md_g78, md_g79, md_g80, md_g81, md_g82, md_g83, md_g84, md_g85, md_g86, md_g87, md_g88, md_g89, md_out, md_u71, md_u72, md_u73, md_u74, md_u75, md_u76, md_u77, md_u78, md_u79, md_u80, md_u81, md_u82, md_u83, md_u84, md_u85, md_u86, md_u87, md_u88, md_u89, md_uo, iup_s, iup_n, aup_s, aup_n, ne_eq, not_false_eq_true, sh_0, sh_1, sh_2, sh_3, sh_4, sh_5, sh_8, sh_15, sh_16, sh_24, Int.reducePow, Int.cast_ofNat_Int, w_of, wl_of, ltT, ltF, leT, leF, eqT, eqF, okF_0, okF_s, gF_0, gF_s, consC_o, sF_0, sF_s, clsO_o, inA_i, ldA_i, stA_i, inJ_l, ldJ_l, stJ_l, inR_r, ldR_r, stR_r, tgR_r, lenA_i, lenA_l, lenA_r, lenA_ex, nl_i, nl_o, nl_l, nl_n, wd_n, wd_i, wd_l, wd_o, fit_i, fit_l, fit_o, K_v, K_n, true_and, and_true, Nat.reduceAdd, Nat.reduceLeDiff, Nat.reduceEqDiff, Nat.reduceMul, Nat.reduceLT, reduceIte, true_or, or_true, cmp_lt, cmp_gt, cmp_eq, wb_0, b_01, cmp_lt', cmp_gt', cmp_eq', b_0, b_1, wb_1, Int.reduceSub, Int.reduceToNat, List.getD_cons_succ, List.getD_cons_zero, Int.reduceLE, Int.reduceLT, Int.reduceEq, Int.reduceNeg, Int.reduceAdd, Int.reduceMul, and_self, em_b, ne_eq, not_false_eq_true, not_true_eq_false]
    | succ r ih =>
      intro p hpn
      rw [← ih (p + 1) (by omega)]
      obtain ⟨g1, g2⟩ := hp p (by omega)
      have hb := r1.1 p
      have hl := encP_lt (B := 32) (n := p) (f := fun i => s.2.1 i + 8 * s.2.2 i) (fun i _ => by have := r1.1 i; omega)
      have hl2 := encP_lt (B := 32) (n := p + 1) (f := fun i => s.2.1 i + 8 * s.2.2 i) (fun i _ => by have := r1.1 i; omega)
      have h32 : 32 ^ (p + 1) ≤ 32 ^ 3 := Nat.pow_le_pow_right (by decide) (by omega)
      have hpp : 32 ^ p ≤ 32 ^ 2 := Nat.pow_le_pow_right (by decide) (by omega)
      have hb1 := r1.2
      have e1 : ((s.2.1 p : Nat) : Int) * 2 ^ sh (5 * (p : Int)) = ((s.2.1 p * 32 ^ p : Nat) : Int) := by
        rw [cast5, sh_nat (by omega), castP, pow32, Int.natCast_mul]
      have e2 : ((s.2.2 p : Nat) : Int) * 2 ^ sh (5 * (p : Int) + 3) = ((s.2.2 p * (8 * 32 ^ p) : Nat) : Int) := by
        have : (5 : Int) * (p : Int) + 3 = ((5 * p + 3 : Nat) : Int) := by omega
        rw [this, sh_nat (by omega), castP, Nat.pow_add, pow32, Nat.mul_comm (32 ^ p), ← Int.natCast_mul]
      have m1 : s.2.1 p * 32 ^ p ≤ 8 * 32 ^ p := Nat.mul_le_mul_right _ (by omega)
      have m2 : s.2.2 p * (8 * 32 ^ p) ≤ 4 * (8 * 32 ^ p) := Nat.mul_le_mul_right _ (by omega)
      have e3 : ior ((s.2.1 p * 32 ^ p : Nat) : Int) ((s.2.2 p * (8 * 32 ^ p) : Nat) : Int) = (((s.2.1 p + 8 * s.2.2 p) * 32 ^ p : Nat) : Int) := by
        rw [ior_nat (by omega) (by omega), or_plst hb.1]
      have m3 : (s.2.1 p + 8 * s.2.2 p) * 32 ^ p ≤ 32 * 32 ^ p := Nat.mul_le_mul_right _ (by omega)
      have e4 : ior ((s.1 * 32768 + encP 32 p (fun i => s.2.1 i + 8 * s.2.2 i) : Nat) : Int) (((s.2.1 p + 8 * s.2.2 p) * 32 ^ p : Nat) : Int) = ((s.1 * 32768 + encP 32 (p + 1) (fun i => s.2.1 i + 8 * s.2.2 i) : Nat) : Int) := by
        rw [ior_nat (by omega) (by omega), or_digit (by omega) hl (by omega)]
        try rfl
      rw [e_204_13]
      simp (disch := omega) only [e_204_14, e_204_15, e_204_18, e_204_19, e_204_20, e_204_23, e_204_24, e_204_25, e_204_28, e_204_30, e_204_31, e_204_32, e_204_33, e_204_34, e_204_35, e_204_36, e_204_37, e_204_38, e_204_41, e_204_43, e_204_44, e_204_45, e_204_46, e_204_47, e_204_48, e_204_49, e_204_50, e_204_51, e_204_52, e_204_53, e_204_54, e_204_55, e_204_58, hn, g1, g2, e1, e2, e3, e4, mdO_c, mdO_g0, mdO_k0, mdO_g1, mdO_k1, mdO_g2, mdO_k2, mdO_g3, mdO_k3, mdO_g4, mdO_k4, mdO_g5, mdO_k5, mdO_g6, mdO_k6, mdO_g7, mdO_k7, mdO_g8, mdO_k8, mdO_g9, mdO_k9, mdO_g10, mdO_k10, mdO_g11, mdO_k11, mdO_g12, mdO_k12, mdO_g13, mdO_k13, mdO_g14, mdO_k14, mdO_g15, mdO_k15, mdO_g16, mdO_k16, mdO_g17, mdO_k17, mdO_g18, mdO_k18, mdO_g19, mdO_k19, mdO_g20, mdO_k20, mdO_g21, mdO_k21, mdO_g22, mdO_k22, mdO_g23, mdO_k23, mdO_g24, mdO_k24, mdO_g25, mdO_k25, mdO_g26, mdO_k26, mdO_g27, mdO_k27, mdO_g28, mdO_k28, mdO_g29, mdO_k29, mdO_g30, mdO_k30, mdO_g31, mdO_k31, mdO_g32, mdO_k32, mdO_g33, mdO_k33, mdO_g34, mdO_k34, mdO_g35, mdO_k35, mdO_s0, mdO_s5, mdO_s6, mdO_s7, mdO_s8, mdO_s9, mdO_s10, mdO_s11, mdO_s12, mdO_s13, mdO_s14, mdO_s15, mdO_s19, mdO_s20, mdO_s25, mdO_s26, mdO_s31, mdO_s32, md_1, md_2, md_g71, md_g72, md_g73, md_g74, md_g75, md_g76, md_g77, md_g78, md_g79, md_g80, md_g81, md_g82, md_g83, md_g84, md_g85, md_g86, md_g87, md_g88, md_g89, md_out, md_u71, md_u72, md_u73, md_u74, md_u75, md_u76, md_u77, md_u78, md_u79, md_u80, md_u81, md_u82, md_u83, md_u84, md_u85, md_u86, md_u87, md_u88, md_u89, md_uo, iup_s, iup_n, aup_s, aup_n, ne_eq, not_false_eq_true, sh_0, sh_1, sh_2, sh_3, sh_4, sh_5, sh_8, sh_15, sh_16, sh_24, Int.reducePow, Int.cast_ofNat_Int, w_of, wl_of, ltT, ltF, leT, leF, eqT, eqF, okF_0, okF_s, gF_0, gF_s, consC_o, sF_0, sF_s, clsO_o, inA_i, ldA_i, stA_i, inJ_l, ldJ_l, stJ_l, inR_r, ldR_r, stR_r, tgR_r, lenA_i, lenA_l, lenA_r, lenA_ex, nl_i, nl_o, nl_l, nl_n, wd_n, wd_i, wd_l, wd_o, fit_i, fit_l, fit_o, K_v, K_n, true_and, and_true, Nat.reduceAdd, Nat.reduceLeDiff, Nat.reduceEqDiff, Nat.reduceMul, Nat.reduceLT, reduceIte, true_or, or_true, cmp_lt, cmp_gt, cmp_eq, wb_0, b_01, cmp_lt', cmp_gt', cmp_eq', b_0, b_1, wb_1, Int.reduceSub, Int.reduceToNat, List.getD_cons_succ, List.getD_cons_zero, Int.reduceLE, Int.reduceLT, Int.reduceEq, Int.reduceNeg, Int.reduceAdd, Int.reduceMul, and_self, em_b, ne_eq, not_false_eq_true, not_true_eq_false]
      try rfl
  have lp0 := lp (kN c) 0 (by omega)
  rw [← lp0]
  have e5 : (s.1 : Int) * 32768 = ((s.1 * 32768 + encP 32 0 (fun i => s.2.1 i + 8 * s.2.2 i) : Nat) : Int) := by
    show _ = ((s.1 * 32768 + 0 : Nat) : Int); omega
  simp (disch := omega) only [e_204_0, e_204_1, e_204_4, e_204_6, e_204_7, e_204_9, e_204_10, e_204_11, e_204_12, h28, e5, mdO_c, mdO_g0, mdO_k0, mdO_g1, mdO_k1, mdO_g2, mdO_k2, mdO_g3, mdO_k3, mdO_g4, mdO_k4, mdO_g5, mdO_k5, mdO_g6, mdO_k6, mdO_g7, mdO_k7, mdO_g8, mdO_k8, mdO_g9, mdO_k9, mdO_g10, mdO_k10, mdO_g11, mdO_k11, mdO_g12, mdO_k12, mdO_g13, mdO_k13, mdO_g14, mdO_k14, mdO_g15, mdO_k15, mdO_g16, mdO_k16, mdO_g17, mdO_k17, mdO_g18, mdO_k18, mdO_g19, mdO_k19, mdO_g20, mdO_k20, mdO_g21, mdO_k21, mdO_g22, mdO_k22, mdO_g23, mdO_k23, mdO_g24, mdO_k24, mdO_g25, mdO_k25, mdO_g26, mdO_k26, mdO_g27, mdO_k27, mdO_g28, mdO_k28, mdO_g29, mdO_k29, mdO_g30, mdO_k30, mdO_g31, mdO_k31, mdO_g32, mdO_k32, mdO_g33, mdO_k33, mdO_g34, mdO_k34, mdO_g35, mdO_k35, mdO_s0, mdO_s5, mdO_s6, mdO_s7, mdO_s8, mdO_s9, mdO_s10, mdO_s11, mdO_s12, mdO_s13, mdO_s14, mdO_s15, mdO_s19, mdO_s20, mdO_s25, mdO_s26, mdO_s31, mdO_s32, md_1, md_2, md_g71, md_g72, md_g73, md_g74, md_g75, md_g76, md_g77, md_g78, md_g79, md_g80, md_g81, md_g82, md_g83, md_g84, md_g85, md_g86, md_g87, md_g88, md_g89, md_out, md_u71, md_u72, md_u73, md_u74, md_u75, md_u76, md_u77, md_u78, md_u79, md_u80, md_u81, md_u82, md_u83, md_u84, md_u85, md_u86, md_u87, md_u88, md_u89, md_uo, iup_s, iup_n, aup_s, aup_n, ne_eq, not_false_eq_true, sh_0, sh_1, sh_2, sh_3, sh_4, sh_5, sh_8, sh_15, sh_16, sh_24, Int.reducePow, Int.cast_ofNat_Int, w_of, wl_of, ltT, ltF, leT, leF, eqT, eqF, okF_0, okF_s, gF_0, gF_s, consC_o, sF_0, sF_s, clsO_o, inA_i, ldA_i, stA_i, inJ_l, ldJ_l, stJ_l, inR_r, ldR_r, stR_r, tgR_r, lenA_i, lenA_l, lenA_r, lenA_ex, nl_i, nl_o, nl_l, nl_n, wd_n, wd_i, wd_l, wd_o, fit_i, fit_l, fit_o, K_v, K_n, true_and, and_true, Nat.reduceAdd, Nat.reduceLeDiff, Nat.reduceEqDiff, Nat.reduceMul, Nat.reduceLT, reduceIte, true_or, or_true, cmp_lt, cmp_gt, cmp_eq, wb_0, b_01, cmp_lt', cmp_gt', cmp_eq', b_0, b_1, wb_1, Int.reduceSub, Int.reduceToNat, List.getD_cons_succ, List.getD_cons_zero, Int.reduceLE, Int.reduceLT, Int.reduceEq, Int.reduceNeg, Int.reduceAdd, Int.reduceMul, and_self, em_b, ne_eq, not_false_eq_true, not_true_eq_false]
  try rfl
theorem r_downNow {d : Nat} {h : PH} {i : Nat → Int} {A : Nat → Int → Int} {c : KC} {s : ST} {sky hrs : Nat} {Q : PQ} (hK : okK c) (hR : ctyR (A 72) c) (hS : stdR (A 72) s sky hrs) (hs : okS c s) :
    WP (d + 2) 244 0 [some (vr 71)] [] (mdH h i A) Q = Q (some (vi (if downB c s then 1 else 0))) (mdH h i A) := by
  have q1 := fun (d : Nat) (Q : PQ) => r_standNow (d := d) (h := h) (i := i) (Q := Q) hK hR hS hs
  have q2 := fun (d : Nat) (Q : PQ) => r_isDown (d := d) (h := h) (i := i) (Q := Q) hK hR hs
  simp (disch := omega) only [e_244_0, e_244_1, e_244_2, e_244_5, e_244_8, q1, q2, mdO_c, mdO_g0, mdO_k0, mdO_g1, mdO_k1, mdO_g2, mdO_k2, mdO_g3, mdO_k3, mdO_g4, mdO_k4, mdO_g5, mdO_k5, mdO_g6, mdO_k6, mdO_g7, mdO_k7, mdO_g8, mdO_k8, mdO_g9, mdO_k9, mdO_g10, mdO_k10, mdO_g11, mdO_k11, mdO_g12, mdO_k12, mdO_g13, mdO_k13, mdO_g14, mdO_k14, mdO_g15, mdO_k15, mdO_g16, mdO_k16, mdO_g17, mdO_k17, mdO_g18, mdO_k18, mdO_g19, mdO_k19, mdO_g20, mdO_k20, mdO_g21, mdO_k21, mdO_g22, mdO_k22, mdO_g23, mdO_k23, mdO_g24, mdO_k24, mdO_g25, mdO_k25, mdO_g26, mdO_k26, mdO_g27, mdO_k27, mdO_g28, mdO_k28, mdO_g29, mdO_k29, mdO_g30, mdO_k30, mdO_g31, mdO_k31, mdO_g32, mdO_k32, mdO_g33, mdO_k33, mdO_g34, mdO_k34, mdO_g35, mdO_k35, mdO_s0, mdO_s5, mdO_s6, mdO_s7, mdO_s8, mdO_s9, mdO_s10, mdO_s11, mdO_s12, mdO_s13, mdO_s14, mdO_s15, mdO_s19, mdO_s20, mdO_s25, mdO_s26, mdO_s31, mdO_s32, md_1, md_2, md_g71, md_g72, md_g73, md_g74, md_g75, md_g76, md_g77, md_g78, md_g79, md_g80, md_g81, md_g82, md_g83, md_g84, md_g85, md_g86, md_g87, md_g88, md_g89, md_out, md_u71, md_u72, md_u73, md_u74, md_u75, md_u76, md_u77, md_u78, md_u79, md_u80, md_u81, md_u82, md_u83, md_u84, md_u85, md_u86, md_u87, md_u88, md_u89, md_uo, iup_s, iup_n, aup_s, aup_n, ne_eq, not_false_eq_true, sh_0, sh_1, sh_2, sh_3, sh_4, sh_5, sh_8, sh_15, sh_16, sh_24, Int.reducePow, Int.cast_ofNat_Int, w_of, wl_of, ltT, ltF, leT, leF, eqT, eqF, okF_0, okF_s, gF_0, gF_s, consC_o, sF_0, sF_s, clsO_o, inA_i, ldA_i, stA_i, inJ_l, ldJ_l, stJ_l, inR_r, ldR_r, stR_r, tgR_r, lenA_i, lenA_l, lenA_r, lenA_ex, nl_i, nl_o, nl_l, nl_n, wd_n, wd_i, wd_l, wd_o, fit_i, fit_l, fit_o, K_v, K_n, true_and, and_true, Nat.reduceAdd, Nat.reduceLeDiff, Nat.reduceEqDiff, Nat.reduceMul, Nat.reduceLT, reduceIte, true_or, or_true, cmp_lt, cmp_gt, cmp_eq, wb_0, b_01, cmp_lt', cmp_gt', cmp_eq', b_0, b_1, wb_1, Int.reduceSub, Int.reduceToNat, List.getD_cons_succ, List.getD_cons_zero, Int.reduceLE, Int.reduceLT, Int.reduceEq, Int.reduceNeg, Int.reduceAdd, Int.reduceMul, and_self, em_b, ne_eq, not_false_eq_true, not_true_eq_false]
/-- the reference's list of stands -/
def stkR (c : KC) (L : List ST) (i : Nat → Int) (A : Nat → Int → Int) : Prop := i 25 = (L.length : Int) ∧ (∀ x, x ∈ L → okS c x) ∧ (∀ (j : Nat) x, L[j]? = some x → A 79 j = encR x ∧ A 82 (encR x) = j) ∧ (∀ x, okS c x → ¬ x ∈ L → A 82 (encR x) = -1)
theorem stk_nodup {c : KC} {L : List ST} {F : ST → Int} (hK : okK c) (hok : ∀ x, x ∈ L → okS c x) (hF : ∀ (j : Nat) x, L[j]? = some x → F x = (j : Int)) : (L.map (encC c)).Nodup := by
  rw [List.nodup_iff_pairwise_ne, List.pairwise_iff_getElem]
  intro i j hi hj hij e
  simp only [List.length_map] at hi hj
  simp only [List.getElem_map] at e
  have := encC_inj hK (hok _ (List.getElem_mem hi)) (hok _ (List.getElem_mem hj)) e
  have a := hF i _ (List.getElem?_eq_getElem hi)
  have b := hF j _ (List.getElem?_eq_getElem hj)
  rw [this] at a
  omega
theorem map_lt {c : KC} {L : List ST} (hK : okK c) (hok : ∀ x, x ∈ L → okS c x) : ∀ y, y ∈ L.map (encC c) → y < szC c := by
  intro y hy
  obtain ⟨x, h1, h2⟩ := List.mem_map.mp hy
  rw [← h2]; exact encC_lt hK (hok x h1)
theorem nodup_snoc {c : KC} {L : List ST} {s : ST} (hK : okK c) (hok : ∀ x, x ∈ L → okS c x) (hs : okS c s) (hn : ¬ s ∈ L) (h : (L.map (encC c)).Nodup) : ((L ++ [s]).map (encC c)).Nodup := by
  rw [List.map_append]
  refine List.nodup_append.mpr ⟨h, by simp, ?_⟩
  intro a ha b hb e
  simp only [List.map_cons, List.map_nil, List.mem_singleton] at hb
  obtain ⟨x, h1, h2⟩ := List.mem_map.mp ha
  have := encC_inj hK (hok x h1) hs (by rw [h2, e, hb])
  exact hn (this ▸ h1)
theorem snoc_len {c : KC} {L : List ST} {s : ST} (hK : okK c) (hok : ∀ x, x ∈ L → okS c x) (hs : okS c s) (hn : ¬ s ∈ L) (h : (L.map (encC c)).Nodup) : L.length < szC c := by
  have h1 := nodup_snoc hK hok hs hn h
  have h2 := nodup_le h1 (map_lt (L := L ++ [s]) hK (fun x hx => by
    rcases List.mem_append.mp hx with q | q
    · exact hok x q
    · rw [List.mem_singleton.mp q]; exact hs))
  rw [List.length_map, List.length_append] at h2
  simp only [List.length_cons, List.length_nil] at h2
  omega
theorem stkR_nd {c : KC} {L : List ST} {i : Nat → Int} {A : Nat → Int → Int} (hK : okK c) (h : stkR c L i A) : (L.map (encC c)).Nodup := stk_nodup (F := fun x => A 82 (encR x)) hK h.2.1 (fun j x hx => (h.2.2.1 j x hx).2)
theorem stkR_len {c : KC} {L : List ST} {i : Nat → Int} {A : Nat → Int → Int} (hK : okK c) (h : stkR c L i A) : L.length ≤ 24000 := by
  have := nodup_le (stkR_nd hK h) (map_lt hK h.2.1)
  rw [List.length_map] at this
  have := szC_le hK
  omega
theorem r_adds {h : PH} {i : Nat → Int} {A : Nat → Int → Int} {c : KC} {L : List ST} {s : ST} (hK : okK c) (hL : stkR c L i A) (hs : okS c s) :
    ∃ (E : List ST) (j : Nat) (i' : Nat → Int) (B : Nat → Int → Int), (E = [] ∨ E = [s]) ∧ (L ++ E)[j]? = some s ∧ stkR c (L ++ E) i' B ∧ frI [25] i i' ∧ frA [79, 82] A B ∧ ∀ d Q, WP d 240 0 [some (vr 71), some (vi (encR s))] [] (mdH h i A) Q = Q (some (vi j)) (mdH h i' B) := by
  have hlt := (encR_lt (okS_R hK hs)).2
  have hlen := stkR_len hK hL
  obtain ⟨l1, l2, l3, l4⟩ := hL
  by_cases hm : s ∈ L
  · obtain ⟨j, hj⟩ := List.getElem?_of_mem hm
    have hjl := (List.getElem?_eq_some_iff.mp hj).1
    refine ⟨[], j, i, A, Or.inl rfl, by rw [List.append_nil]; exact hj, by rw [List.append_nil]; exact ⟨l1, l2, l3, l4⟩, frI_r, frA_r, fun d Q => ?_⟩
    have e := (l3 j s hj).2
    simp (disch := omega) only [e_240_0, e_240_1, e_240_4, e_240_5, e_240_6, e_240_7, e_240_10, e_240_11, e_240_14, e_240_15, e_240_16, e_240_19, e_240_20, e_240_21, e_240_24, e_240_25, e_240_28, e_240_29, e_240_30, e_240_31i, e_240_31a, e_240_32, e_240_35, e_240_36, e_240_37, e_240_40, e_240_41, e_240_44, e_240_45, e_240_46, e, mdO_c, mdO_g0, mdO_k0, mdO_g1, mdO_k1, mdO_g2, mdO_k2, mdO_g3, mdO_k3, mdO_g4, mdO_k4, mdO_g5, mdO_k5, mdO_g6, mdO_k6, mdO_g7, mdO_k7, mdO_g8, mdO_k8, mdO_g9, mdO_k9, mdO_g10, mdO_k10, mdO_g11, mdO_k11, mdO_g12, mdO_k12, mdO_g13, mdO_k13, mdO_g14, mdO_k14, mdO_g15, mdO_k15, mdO_g16, mdO_k16, mdO_g17, mdO_k17, mdO_g18, mdO_k18, mdO_g19, mdO_k19, mdO_g20, mdO_k20, mdO_g21, mdO_k21, mdO_g22, mdO_k22, mdO_g23, mdO_k23, mdO_g24, mdO_k24, mdO_g25, mdO_k25, mdO_g26, mdO_k26, mdO_g27, mdO_k27, mdO_g28, mdO_k28, mdO_g29, mdO_k29, mdO_g30, mdO_k30, mdO_g31, mdO_k31, mdO_g32, mdO_k32, mdO_g33, mdO_k33, mdO_g34, mdO_k34, mdO_g35, mdO_k35, mdO_s0, mdO_s5, mdO_s6, mdO_s7, mdO_s8, mdO_s9, mdO_s10, mdO_s11, mdO_s12, mdO_s13, mdO_s14, mdO_s15, mdO_s19, mdO_s20, mdO_s25, mdO_s26, mdO_s31, mdO_s32, md_1, md_2, md_g71, md_g72, md_g73, md_g74, md_g75, md_g76, md_g77, md_g78, md_g79, md_g80, md_g81, md_g82, md_g83, md_g84, md_g85, md_g86, md_g87, md_g88, md_g89, md_out, md_u71, md_u72, md_u73, md_u74, md_u75, md_u76, md_u77, md_u78, md_u79, md_u80, md_u81, md_u82, md_u83, md_u84, md_u85, md_u86, md_u87, md_u88, md_u89, md_uo, iup_s, iup_n, aup_s, aup_n, ne_eq, not_false_eq_true, sh_0, sh_1, sh_2, sh_3, sh_4, sh_5, sh_8, sh_15, sh_16, sh_24, Int.reducePow, Int.cast_ofNat_Int, w_of, wl_of, ltT, ltF, leT, leF, eqT, eqF, okF_0, okF_s, gF_0, gF_s, consC_o, sF_0, sF_s, clsO_o, inA_i, ldA_i, stA_i, inJ_l, ldJ_l, stJ_l, inR_r, ldR_r, stR_r, tgR_r, lenA_i, lenA_l, lenA_r, lenA_ex, nl_i, nl_o, nl_l, nl_n, wd_n, wd_i, wd_l, wd_o, fit_i, fit_l, fit_o, K_v, K_n, true_and, and_true, Nat.reduceAdd, Nat.reduceLeDiff, Nat.reduceEqDiff, Nat.reduceMul, Nat.reduceLT, reduceIte, true_or, or_true, cmp_lt, cmp_gt, cmp_eq, wb_0, b_01, cmp_lt', cmp_gt', cmp_eq', b_0, b_1, wb_1, Int.reduceSub, Int.reduceToNat, List.getD_cons_succ, List.getD_cons_zero, Int.reduceLE, Int.reduceLT, Int.reduceEq, Int.reduceNeg, Int.reduceAdd, Int.reduceMul, and_self, em_b, ne_eq, not_false_eq_true, not_true_eq_false]
  · have hl := snoc_len hK l2 hs hm (stk_nodup (F := fun x => A 82 (encR x)) hK l2 (fun j x hx => (l3 j x hx).2))
    have h24 := szC_le hK
    have e := l4 s hs hm
    refine ⟨[s], L.length, iup i 25 ((L.length + 1 : Nat) : Int), aup (aup A 82 (fset (A 82) (encR s : Nat) L.length)) 79 (fset (A 79) (L.length : Nat) (encR s)), Or.inr rfl, by simp, ?_, frI_u (by decide), ?_, fun d Q => ?_⟩
    · refine ⟨by rw [iup_s]; simp, ?_, ?_, ?_⟩
      · intro x hx
        rcases List.mem_append.mp hx with q | q
        · exact l2 x q
        · rw [List.mem_singleton.mp q]; exact hs
      · intro j x hx
        rw [aup_s, aup_n (by omega), aup_s]
        by_cases q : j < L.length
        · rw [List.getElem?_append_left q] at hx
          have hxm := List.mem_of_getElem? hx
          have ne : encR x ≠ encR s := fun z => hm (encR_inj hK (l2 x hxm) hs z ▸ hxm)
          rw [fs_ne (by omega), fs_ne (by omega)]
          exact l3 j x hx
        · rw [List.getElem?_append_right (by omega)] at hx
          have hj : j = L.length := by
            by_cases z : j - L.length = 0
            · omega
            · rw [List.getElem?_eq_none (by simp; omega)] at hx; cases hx
          rw [hj, Nat.sub_self] at hx
          cases hx
          rw [hj, fs_same, fs_same]
          exact ⟨rfl, rfl⟩
      · intro x hx hn
        have n1 : ¬ x ∈ L := fun z => hn (List.mem_append_left _ z)
        have n2 : x ≠ s := fun z => hn (by rw [z]; simp)
        have ne : encR x ≠ encR s := fun z => n2 (encR_inj hK hx hs z)
        rw [aup_n (by omega), aup_s, fs_ne (by omega)]
        exact l4 x hx n1
    · exact frA_t (frA_u (by decide)) (frA_u (by decide))
    · have e2 : (L.length : Int) + 1 = ((L.length + 1 : Nat) : Int) := by omega
      simp (disch := omega) only [e_240_0, e_240_1, e_240_4, e_240_5, e_240_6, e_240_7, e_240_10, e_240_11, e_240_14, e_240_15, e_240_16, e_240_19, e_240_20, e_240_21, e_240_24, e_240_25, e_240_28, e_240_29, e_240_30, e_240_31i, e_240_31a, e_240_32, e_240_35, e_240_36, e_240_37, e_240_40, e_240_41, e_240_44, e_240_45, e_240_46, e, l1, fs_same, e2, mdO_c, mdO_g0, mdO_k0, mdO_g1, mdO_k1, mdO_g2, mdO_k2, mdO_g3, mdO_k3, mdO_g4, mdO_k4, mdO_g5, mdO_k5, mdO_g6, mdO_k6, mdO_g7, mdO_k7, mdO_g8, mdO_k8, mdO_g9, mdO_k9, mdO_g10, mdO_k10, mdO_g11, mdO_k11, mdO_g12, mdO_k12, mdO_g13, mdO_k13, mdO_g14, mdO_k14, mdO_g15, mdO_k15, mdO_g16, mdO_k16, mdO_g17, mdO_k17, mdO_g18, mdO_k18, mdO_g19, mdO_k19, mdO_g20, mdO_k20, mdO_g21, mdO_k21, mdO_g22, mdO_k22, mdO_g23, mdO_k23, mdO_g24, mdO_k24, mdO_g25, mdO_k25, mdO_g26, mdO_k26, mdO_g27, mdO_k27, mdO_g28, mdO_k28, mdO_g29, mdO_k29, mdO_g30, mdO_k30, mdO_g31, mdO_k31, mdO_g32, mdO_k32, mdO_g33, mdO_k33, mdO_g34, mdO_k34, mdO_g35, mdO_k35, mdO_s0, mdO_s5, mdO_s6, mdO_s7, mdO_s8, mdO_s9, mdO_s10, mdO_s11, mdO_s12, mdO_s13, mdO_s14, mdO_s15, mdO_s19, mdO_s20, mdO_s25, mdO_s26, mdO_s31, mdO_s32, md_1, md_2, md_g71, md_g72, md_g73, md_g74, md_g75, md_g76, md_g77, md_g78, md_g79, md_g80, md_g81, md_g82, md_g83, md_g84, md_g85, md_g86, md_g87, md_g88, md_g89, md_out, md_u71, md_u72, md_u73, md_u74, md_u75, md_u76, md_u77, md_u78, md_u79, md_u80, md_u81, md_u82, md_u83, md_u84, md_u85, md_u86, md_u87, md_u88, md_u89, md_uo, iup_s, iup_n, aup_s, aup_n, ne_eq, not_false_eq_true, sh_0, sh_1, sh_2, sh_3, sh_4, sh_5, sh_8, sh_15, sh_16, sh_24, Int.reducePow, Int.cast_ofNat_Int, w_of, wl_of, ltT, ltF, leT, leF, eqT, eqF, okF_0, okF_s, gF_0, gF_s, consC_o, sF_0, sF_s, clsO_o, inA_i, ldA_i, stA_i, inJ_l, ldJ_l, stJ_l, inR_r, ldR_r, stR_r, tgR_r, lenA_i, lenA_l, lenA_r, lenA_ex, nl_i, nl_o, nl_l, nl_n, wd_n, wd_i, wd_l, wd_o, fit_i, fit_l, fit_o, K_v, K_n, true_and, and_true, Nat.reduceAdd, Nat.reduceLeDiff, Nat.reduceEqDiff, Nat.reduceMul, Nat.reduceLT, reduceIte, true_or, or_true, cmp_lt, cmp_gt, cmp_eq, wb_0, b_01, cmp_lt', cmp_gt', cmp_eq', b_0, b_1, wb_1, Int.reduceSub, Int.reduceToNat, List.getD_cons_succ, List.getD_cons_zero, Int.reduceLE, Int.reduceLT, Int.reduceEq, Int.reduceNeg, Int.reduceAdd, Int.reduceMul, and_self, em_b, ne_eq, not_false_eq_true, not_true_eq_false]
