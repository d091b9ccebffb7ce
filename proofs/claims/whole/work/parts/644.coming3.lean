/-! THE CLASS: Coming, rows back and masks -/
theorem o_at {c : KC} {sky : Nat} {s0 : ST} {QL : List QE} {sr srI j : Nat} {i : Nat → Int} {fq fg : Int → Int} {u : QE} {R : List Nat} (hK : okK c) (hb : bfsI c sky s0 QL sr 0) (hQ : comQ c QL i fq fg srI) (hu : QL[j]? = some u) (hR : rpQ QL j R) : (R = [] ∧ fg (encC c u.1) = -1) ∨ ∃ (d : Nat) (r : List Nat) (a : Nat) (v : QE) (V : Nat), R = d :: r ∧ QL[a]? = some v ∧ a < j ∧ rpQ QL a r ∧ fg (encC c u.1) = (V : Int) ∧ 0 < V ∧ V < 10000000 ∧ (((V : Int) - 1) / 256 = (encC c v.1 : Int)) ∧ (((V : Int) - 1) % 256 = (d : Int)) := by
  match R, hR with
  | [], h =>
    left
    have h' : j = 0 := h
    subst h'
    have := hQ.2.2.2.1 0 s0 0 0 _ hb.1 hb.1
    rw [if_pos rfl] at this
    rw [hb.1] at hu
    cases hu
    exact ⟨rfl, this⟩
  | d :: r, ⟨t, a, h1, h2, h3⟩ =>
    right
    rw [hu] at h1
    cases h1
    obtain ⟨v, pa, g1, g2, g3, g4, g5⟩ := hb.2.2.2.1 j t a d h2 hu
    have := hQ.2.2.2.1 j t a d v hu g1
    rw [if_neg (by omega)] at this
    have hd := nx_deed (List.mem_of_getElem? g2)
    have hv := encC_lt hK (hb.2.1 v (List.mem_of_getElem? g1))
    have h24 := szC_le hK
    dsimp only at hd
    exact ⟨d, r, a, v, encC c v.1 * 256 + d + 1, rfl, g1, g4, h3, this, by omega, by omega, by omega, by omega⟩
theorem C_lenLp {ow : Nat → Nat} {h : PH} {ca : Nat} {c : KC} {sky sr n : Nat} {s0 : ST} {QL : List QE} {x : Int} (hK : okK c) (hV : ComV ow h ca c sky s0 QL sr n) :
    ∀ (R : List Nat) (j m : Nat) (u : QE), rpQ QL j R → QL[j]? = some u → m + R.length < QL.length → ∀ d Q, WP d 15 4 [some (vr 38), some (vi x), some (vi m), some (vi (encC c u.1))] [] h Q = Q (some (vi ((m + R.length : Nat) : Int))) h := by
  obtain ⟨i, q, g, fq, fg, v1, v2, v3, v4, v5, v6, v7, v8⟩ := hV
  obtain ⟨c1, c2, c3⟩ := v1
  have q1 := v4.1
  have hlen := bfs_len hK v5
  have h24 := szC_le hK
  intro R
  induction R with
  | nil =>
    intro j m u hR hu hm d Q
    have hul := encC_lt hK (v5.2.1 u (List.mem_of_getElem? hu))
    rcases o_at hK v5 v4 hu hR with ⟨-, hz⟩ | ⟨d', r, a, v, V, z, -⟩
    · rw [show m + ([] : List Nat).length = m from rfl]
      rw [e_15_4]
      simp (disch := omega) only [e_15_5, e_15_8, e_15_9, e_15_10, e_15_13, e_15_14, e_15_15, e_15_18, e_15_21, e_15_22, e_15_25, e_15_26, e_15_27, e_15_28, e_15_29, e_15_31, e_15_32, e_15_33, e_15_36, e_15_39, e_15_40, c1, c3, hz, cmO_c, cmO_g0, cmO_k0, cmO_g1, cmO_k1, cmO_g2, cmO_k2, cmO_g3, cmO_k3, cmO_g4, cmO_k4, cmO_g5, cmO_k5, cmO_g6, cmO_k6, cmO_s0, cmO_s1, cmO_s2, cmO_s3, cmO_s4, cmO_s5, cmO_s6, hoO_c, hoO_g0, hoO_k0, hoO_g1, hoO_k1, hoO_g2, hoO_k2, hoO_g3, hoO_k3, hoO_g4, hoO_k4, hoO_g5, hoO_k5, hoO_g6, hoO_k6, hoO_g7, hoO_k7, hoO_g8, hoO_k8, hoO_g9, hoO_k9, hoO_s0, hoO_s1, hoO_s2, hoO_s9, iup_s, iup_n, hp_up1, hp_upn, ne_eq, not_false_eq_true, sh_0, sh_1, sh_2, sh_3, sh_4, sh_5, sh_8, sh_15, sh_16, sh_24, Int.reducePow, Int.cast_ofNat_Int, w_of, wl_of, ltT, ltF, leT, leF, eqT, eqF, okF_0, okF_s, gF_0, gF_s, consC_o, sF_0, sF_s, clsO_o, inA_i, ldA_i, stA_i, inJ_l, ldJ_l, stJ_l, inR_r, ldR_r, stR_r, tgR_r, lenA_i, lenA_l, lenA_r, lenA_ex, nl_i, nl_o, nl_l, nl_n, wd_n, wd_i, wd_l, wd_o, fit_i, fit_l, fit_o, K_v, K_n, true_and, and_true, Nat.reduceAdd, Nat.reduceLeDiff, Nat.reduceEqDiff, Nat.reduceMul, Nat.reduceLT, reduceIte, true_or, or_true, cmp_lt, cmp_gt, cmp_eq, wb_0, b_01, cmp_lt', cmp_gt', cmp_eq', b_0, b_1, wb_1, Int.reduceSub, Int.reduceToNat, List.getD_cons_succ, List.getD_cons_zero, Int.reduceLE, Int.reduceLT, Int.reduceEq, Int.reduceNeg, Int.reduceAdd, Int.reduceMul, and_self, em_b, ne_eq, not_false_eq_true, not_true_eq_false]
    · cases z
  | cons d' r ih =>
    intro j m u hR hu hm d Q
    have hul := encC_lt hK (v5.2.1 u (List.mem_of_getElem? hu))
    rcases o_at hK v5 v4 hu hR with ⟨z, -⟩ | ⟨d', r', a, v, V, z, z1, z2, z3, z4, z5, z6, z7, z8⟩
    · cases z
    · cases z
      rw [List.length_cons] at hm
      rw [List.length_cons, show m + (r.length + 1) = (m + 1) + r.length by omega, ← ih a (m + 1) v z3 z1 (by omega) d Q]
      have e1 : (m : Int) + 1 = ((m + 1 : Nat) : Int) := by omega
      rw [e_15_4]
      simp (disch := omega) only [e_15_5, e_15_8, e_15_9, e_15_10, e_15_13, e_15_14, e_15_15, e_15_18, e_15_21, e_15_22, e_15_25, e_15_26, e_15_27, e_15_28, e_15_29, e_15_31, e_15_32, e_15_33, e_15_36, c1, c3, q1, z4, z7, e1, sh_8, cmO_c, cmO_g0, cmO_k0, cmO_g1, cmO_k1, cmO_g2, cmO_k2, cmO_g3, cmO_k3, cmO_g4, cmO_k4, cmO_g5, cmO_k5, cmO_g6, cmO_k6, cmO_s0, cmO_s1, cmO_s2, cmO_s3, cmO_s4, cmO_s5, cmO_s6, hoO_c, hoO_g0, hoO_k0, hoO_g1, hoO_k1, hoO_g2, hoO_k2, hoO_g3, hoO_k3, hoO_g4, hoO_k4, hoO_g5, hoO_k5, hoO_g6, hoO_k6, hoO_g7, hoO_k7, hoO_g8, hoO_k8, hoO_g9, hoO_k9, hoO_s0, hoO_s1, hoO_s2, hoO_s9, iup_s, iup_n, hp_up1, hp_upn, ne_eq, not_false_eq_true, sh_0, sh_1, sh_2, sh_3, sh_4, sh_5, sh_8, sh_15, sh_16, sh_24, Int.reducePow, Int.cast_ofNat_Int, w_of, wl_of, ltT, ltF, leT, leF, eqT, eqF, okF_0, okF_s, gF_0, gF_s, consC_o, sF_0, sF_s, clsO_o, inA_i, ldA_i, stA_i, inJ_l, ldJ_l, stJ_l, inR_r, ldR_r, stR_r, tgR_r, lenA_i, lenA_l, lenA_r, lenA_ex, nl_i, nl_o, nl_l, nl_n, wd_n, wd_i, wd_l, wd_o, fit_i, fit_l, fit_o, K_v, K_n, true_and, and_true, Nat.reduceAdd, Nat.reduceLeDiff, Nat.reduceEqDiff, Nat.reduceMul, Nat.reduceLT, reduceIte, true_or, or_true, cmp_lt, cmp_gt, cmp_eq, wb_0, b_01, cmp_lt', cmp_gt', cmp_eq', b_0, b_1, wb_1, Int.reduceSub, Int.reduceToNat, List.getD_cons_succ, List.getD_cons_zero, Int.reduceLE, Int.reduceLT, Int.reduceEq, Int.reduceNeg, Int.reduceAdd, Int.reduceMul, and_self, em_b, ne_eq, not_false_eq_true, not_true_eq_false]
      try rfl
theorem C_length {ow : Nat → Nat} {h : PH} {ca : Nat} {c : KC} {sky sr n j : Nat} {s0 : ST} {QL : List QE} {R : List Nat} {u : QE} (hK : okK c) (hV : ComV ow h ca c sky s0 QL sr n) (hR : rpQ QL j R) (hu : QL[j]? = some u) : R.length < QL.length ∧ ∀ d Q, WP d 15 0 [some (vr 38), some (vi (encC c u.1)), none, none] [] h Q = Q (some (vi (R.length : Int))) h := by
  have hV' := hV
  obtain ⟨i, q, g, fq, fg, v1, v2, v3, v4, v5, v6, v7, v8⟩ := hV
  have hj := (List.getElem?_eq_some_iff.mp hu).1
  obtain ⟨S, s1, s2⟩ := rp_ex v5 j hj
  have e := rp_uniq hR s1
  subst e
  refine ⟨by omega, fun d Q => ?_⟩
  have := C_lenLp (x := (encC c u.1 : Int)) hK hV' R j 0 u hR hu (by omega) d Q
  rw [nc0, Nat.zero_add] at this
  rw [← this]
  simp (disch := omega) only [e_15_0, e_15_1, e_15_2, e_15_3, cmO_c, cmO_g0, cmO_k0, cmO_g1, cmO_k1, cmO_g2, cmO_k2, cmO_g3, cmO_k3, cmO_g4, cmO_k4, cmO_g5, cmO_k5, cmO_g6, cmO_k6, cmO_s0, cmO_s1, cmO_s2, cmO_s3, cmO_s4, cmO_s5, cmO_s6, hoO_c, hoO_g0, hoO_k0, hoO_g1, hoO_k1, hoO_g2, hoO_k2, hoO_g3, hoO_k3, hoO_g4, hoO_k4, hoO_g5, hoO_k5, hoO_g6, hoO_k6, hoO_g7, hoO_k7, hoO_g8, hoO_k8, hoO_g9, hoO_k9, hoO_s0, hoO_s1, hoO_s2, hoO_s9, iup_s, iup_n, hp_up1, hp_upn, ne_eq, not_false_eq_true, sh_0, sh_1, sh_2, sh_3, sh_4, sh_5, sh_8, sh_15, sh_16, sh_24, Int.reducePow, Int.cast_ofNat_Int, w_of, wl_of, ltT, ltF, leT, leF, eqT, eqF, okF_0, okF_s, gF_0, gF_s, consC_o, sF_0, sF_s, clsO_o, inA_i, ldA_i, stA_i, inJ_l, ldJ_l, stJ_l, inR_r, ldR_r, stR_r, tgR_r, lenA_i, lenA_l, lenA_r, lenA_ex, nl_i, nl_o, nl_l, nl_n, wd_n, wd_i, wd_l, wd_o, fit_i, fit_l, fit_o, K_v, K_n, true_and, and_true, Nat.reduceAdd, Nat.reduceLeDiff, Nat.reduceEqDiff, Nat.reduceMul, Nat.reduceLT, reduceIte, true_or, or_true, cmp_lt, cmp_gt, cmp_eq, wb_0, b_01, cmp_lt', cmp_gt', cmp_eq', b_0, b_1, wb_1, Int.reduceSub, Int.reduceToNat, List.getD_cons_succ, List.getD_cons_zero, Int.reduceLE, Int.reduceLT, Int.reduceEq, Int.reduceNeg, Int.reduceAdd, Int.reduceMul, and_self, em_b, ne_eq, not_false_eq_true, not_true_eq_false]
  try rfl
theorem rev_at {pre r : List Nat} {d : Nat} : nthA (pre ++ d :: r).reverse r.length = (d : Int) := by
  unfold nthA
  rw [List.reverse_append, List.reverse_cons, List.append_assoc, List.getElem?_append_right (by rw [List.length_reverse]; exact Nat.le_refl _), List.length_reverse, Nat.sub_self]
  rfl
theorem C_deedAt {ow : Nat → Nat} {h : PH} {ca : Nat} {c : KC} {sky sr n j I : Nat} {s0 : ST} {QL : List QE} {R : List Nat} {u : QE} (hK : okK c) (hI : I < 2147483648) (hV : ComV ow h ca c sky s0 QL sr n) (hR : rpQ QL j R) (hu : QL[j]? = some u) : ∀ d Q, WP (d + 1) 16 0 [some (vr 38), some (vi (encC c u.1)), some (vi I), none, none] [] h Q = Q (some (vi (nthA R.reverse I))) h := by
  obtain ⟨hl, len⟩ := C_length hK hV hR hu
  have len' := fun (d : Nat) (Q : PQ) => len d Q
  have hV' := hV
  obtain ⟨i, q, g, fq, fg, v1, v2, v3, v4, v5, v6, v7, v8⟩ := hV
  obtain ⟨c1, c2, c3⟩ := v1
  have hlen := bfs_len hK v5
  have h24 := szC_le hK
  intro d Q
  by_cases hIR : I < R.length
  · have lp : ∀ (S pre : List Nat) (k : Nat) (v : QE), R = pre ++ S → rpQ QL k S → QL[k]? = some v → I < S.length → WP (d + 1) 16 11 [some (vr 38), some (vi (encC c u.1)), some (vi I), some (vi (encC c v.1)), some (vi ((S.length : Int) - 1))] [] h Q = Q (some (vi (nthA R.reverse I))) h := by
      intro S
      induction S with
      | nil => intro pre k v _ _ _ h4; simp at h4
      | cons d' r ih =>
        intro pre k v h1 h2 h3 h4
        have hul := encC_lt hK (v5.2.1 v (List.mem_of_getElem? h3))
        have hRl : R.length = pre.length + (r.length + 1) := by rw [h1, List.length_append, List.length_cons]
        rcases o_at hK v5 v4 h3 h2 with ⟨z, -⟩ | ⟨d', r', a, v', V, z, z1, z2, z3, z4, z5, z6, z7, z8⟩
        · cases z
        · cases z
          rw [List.length_cons] at h4
          rw [List.length_cons, show ((r.length + 1 : Nat) : Int) - 1 = (r.length : Int) by omega]
          by_cases hIr : I < r.length
          · rw [← ih (pre ++ [d']) a v' (by rw [List.append_assoc]; exact h1) z3 z1 hIr]
            have e1 : (r.length : Int) + -1 = (r.length : Int) - 1 := by omega
            rw [e_16_11]
            simp (disch := omega) only [e_16_13, e_16_14, e_16_17, e_16_18, e_16_21, e_16_22, e_16_23, e_16_24, e_16_25, e_16_27, e_16_28, e_16_29, e_16_32, c1, c3, z4, z7, e1, sh_8, cmO_c, cmO_g0, cmO_k0, cmO_g1, cmO_k1, cmO_g2, cmO_k2, cmO_g3, cmO_k3, cmO_g4, cmO_k4, cmO_g5, cmO_k5, cmO_g6, cmO_k6, cmO_s0, cmO_s1, cmO_s2, cmO_s3, cmO_s4, cmO_s5, cmO_s6, hoO_c, hoO_g0, hoO_k0, hoO_g1, hoO_k1, hoO_g2, hoO_k2, hoO_g3, hoO_k3, hoO_g4, hoO_k4, hoO_g5, hoO_k5, hoO_g6, hoO_k6, hoO_g7, hoO_k7, hoO_g8, hoO_k8, hoO_g9, hoO_k9, hoO_s0, hoO_s1, hoO_s2, hoO_s9, iup_s, iup_n, hp_up1, hp_upn, ne_eq, not_false_eq_true, sh_0, sh_1, sh_2, sh_3, sh_4, sh_5, sh_8, sh_15, sh_16, sh_24, Int.reducePow, Int.cast_ofNat_Int, w_of, wl_of, ltT, ltF, leT, leF, eqT, eqF, okF_0, okF_s, gF_0, gF_s, consC_o, sF_0, sF_s, clsO_o, inA_i, ldA_i, stA_i, inJ_l, ldJ_l, stJ_l, inR_r, ldR_r, stR_r, tgR_r, lenA_i, lenA_l, lenA_r, lenA_ex, nl_i, nl_o, nl_l, nl_n, wd_n, wd_i, wd_l, wd_o, fit_i, fit_l, fit_o, K_v, K_n, true_and, and_true, Nat.reduceAdd, Nat.reduceLeDiff, Nat.reduceEqDiff, Nat.reduceMul, Nat.reduceLT, reduceIte, true_or, or_true, cmp_lt, cmp_gt, cmp_eq, wb_0, b_01, cmp_lt', cmp_gt', cmp_eq', b_0, b_1, wb_1, Int.reduceSub, Int.reduceToNat, List.getD_cons_succ, List.getD_cons_zero, Int.reduceLE, Int.reduceLT, Int.reduceEq, Int.reduceNeg, Int.reduceAdd, Int.reduceMul, and_self, em_b, ne_eq, not_false_eq_true, not_true_eq_false]
            try rfl
          · have e : I = r.length := by omega
            have e2 : nthA R.reverse I = (d' : Int) := by rw [h1, e]; exact rev_at
            rw [e2]
            rw [e_16_11]
            simp (disch := omega) only [e_16_13, e_16_14, e_16_35, e_16_36, e_16_37, e_16_38, e_16_41, e_16_44, e_16_45, e_16_48, e_16_49, e_16_50, e_16_53, e_16_54, e_16_55, e_16_56, e_16_59, e_16_60, e_16_61, e_16_62, e_16_63, e_16_66, e_16_67, c1, c3, z4, z8, len', iand_255, cmO_c, cmO_g0, cmO_k0, cmO_g1, cmO_k1, cmO_g2, cmO_k2, cmO_g3, cmO_k3, cmO_g4, cmO_k4, cmO_g5, cmO_k5, cmO_g6, cmO_k6, cmO_s0, cmO_s1, cmO_s2, cmO_s3, cmO_s4, cmO_s5, cmO_s6, hoO_c, hoO_g0, hoO_k0, hoO_g1, hoO_k1, hoO_g2, hoO_k2, hoO_g3, hoO_k3, hoO_g4, hoO_k4, hoO_g5, hoO_k5, hoO_g6, hoO_k6, hoO_g7, hoO_k7, hoO_g8, hoO_k8, hoO_g9, hoO_k9, hoO_s0, hoO_s1, hoO_s2, hoO_s9, iup_s, iup_n, hp_up1, hp_upn, ne_eq, not_false_eq_true, sh_0, sh_1, sh_2, sh_3, sh_4, sh_5, sh_8, sh_15, sh_16, sh_24, Int.reducePow, Int.cast_ofNat_Int, w_of, wl_of, ltT, ltF, leT, leF, eqT, eqF, okF_0, okF_s, gF_0, gF_s, consC_o, sF_0, sF_s, clsO_o, inA_i, ldA_i, stA_i, inJ_l, ldJ_l, stJ_l, inR_r, ldR_r, stR_r, tgR_r, lenA_i, lenA_l, lenA_r, lenA_ex, nl_i, nl_o, nl_l, nl_n, wd_n, wd_i, wd_l, wd_o, fit_i, fit_l, fit_o, K_v, K_n, true_and, and_true, Nat.reduceAdd, Nat.reduceLeDiff, Nat.reduceEqDiff, Nat.reduceMul, Nat.reduceLT, reduceIte, true_or, or_true, cmp_lt, cmp_gt, cmp_eq, wb_0, b_01, cmp_lt', cmp_gt', cmp_eq', b_0, b_1, wb_1, Int.reduceSub, Int.reduceToNat, List.getD_cons_succ, List.getD_cons_zero, Int.reduceLE, Int.reduceLT, Int.reduceEq, Int.reduceNeg, Int.reduceAdd, Int.reduceMul, and_self, em_b, ne_eq, not_false_eq_true, not_true_eq_false]
            try rfl
    have := lp R [] j u rfl hR hu hIR
    rw [← this]
    simp (disch := omega) only [e_16_0, e_16_1, e_16_2, e_16_3, e_16_4, e_16_7, e_16_8, e_16_9, len', c1, true_and, cmO_c, cmO_g0, cmO_k0, cmO_g1, cmO_k1, cmO_g2, cmO_k2, cmO_g3, cmO_k3, cmO_g4, cmO_k4, cmO_g5, cmO_k5, cmO_g6, cmO_k6, cmO_s0, cmO_s1, cmO_s2, cmO_s3, cmO_s4, cmO_s5, cmO_s6, hoO_c, hoO_g0, hoO_k0, hoO_g1, hoO_k1, hoO_g2, hoO_k2, hoO_g3, hoO_k3, hoO_g4, hoO_k4, hoO_g5, hoO_k5, hoO_g6, hoO_k6, hoO_g7, hoO_k7, hoO_g8, hoO_k8, hoO_g9, hoO_k9, hoO_s0, hoO_s1, hoO_s2, hoO_s9, iup_s, iup_n, hp_up1, hp_upn, ne_eq, not_false_eq_true, sh_0, sh_1, sh_2, sh_3, sh_4, sh_5, sh_8, sh_15, sh_16, sh_24, Int.reducePow, Int.cast_ofNat_Int, w_of, wl_of, ltT, ltF, leT, leF, eqT, eqF, okF_0, okF_s, gF_0, gF_s, consC_o, sF_0, sF_s, clsO_o, inA_i, ldA_i, stA_i, inJ_l, ldJ_l, stJ_l, inR_r, ldR_r, stR_r, tgR_r, lenA_i, lenA_l, lenA_r, lenA_ex, nl_i, nl_o, nl_l, nl_n, wd_n, wd_i, wd_l, wd_o, fit_i, fit_l, fit_o, K_v, K_n, true_and, and_true, Nat.reduceAdd, Nat.reduceLeDiff, Nat.reduceEqDiff, Nat.reduceMul, Nat.reduceLT, reduceIte, true_or, or_true, cmp_lt, cmp_gt, cmp_eq, wb_0, b_01, cmp_lt', cmp_gt', cmp_eq', b_0, b_1, wb_1, Int.reduceSub, Int.reduceToNat, List.getD_cons_succ, List.getD_cons_zero, Int.reduceLE, Int.reduceLT, Int.reduceEq, Int.reduceNeg, Int.reduceAdd, Int.reduceMul, and_self, em_b, ne_eq, not_false_eq_true, not_true_eq_false]
    try rfl
  · have e : nthA R.reverse I = -1 := by
      unfold nthA
      rw [List.getElem?_eq_none (by rw [List.length_reverse]; omega)]
    rw [e]
    simp (disch := omega) only [e_16_0, e_16_1, e_16_2, e_16_3, e_16_4, e_16_7, e_16_8, e_16_9, e_16_11, e_16_13, e_16_14, e_16_35, e_16_36, e_16_37, e_16_38, e_16_41, e_16_44, e_16_45, e_16_48, e_16_49, e_16_50, e_16_53, e_16_54, len', c1, true_and, cmO_c, cmO_g0, cmO_k0, cmO_g1, cmO_k1, cmO_g2, cmO_k2, cmO_g3, cmO_k3, cmO_g4, cmO_k4, cmO_g5, cmO_k5, cmO_g6, cmO_k6, cmO_s0, cmO_s1, cmO_s2, cmO_s3, cmO_s4, cmO_s5, cmO_s6, hoO_c, hoO_g0, hoO_k0, hoO_g1, hoO_k1, hoO_g2, hoO_k2, hoO_g3, hoO_k3, hoO_g4, hoO_k4, hoO_g5, hoO_k5, hoO_g6, hoO_k6, hoO_g7, hoO_k7, hoO_g8, hoO_k8, hoO_g9, hoO_k9, hoO_s0, hoO_s1, hoO_s2, hoO_s9, iup_s, iup_n, hp_up1, hp_upn, ne_eq, not_false_eq_true, sh_0, sh_1, sh_2, sh_3, sh_4, sh_5, sh_8, sh_15, sh_16, sh_24, Int.reducePow, Int.cast_ofNat_Int, w_of, wl_of, ltT, ltF, leT, leF, eqT, eqF, okF_0, okF_s, gF_0, gF_s, consC_o, sF_0, sF_s, clsO_o, inA_i, ldA_i, stA_i, inJ_l, ldJ_l, stJ_l, inR_r, ldR_r, stR_r, tgR_r, lenA_i, lenA_l, lenA_r, lenA_ex, nl_i, nl_o, nl_l, nl_n, wd_n, wd_i, wd_l, wd_o, fit_i, fit_l, fit_o, K_v, K_n, true_and, and_true, Nat.reduceAdd, Nat.reduceLeDiff, Nat.reduceEqDiff, Nat.reduceMul, Nat.reduceLT, reduceIte, true_or, or_true, cmp_lt, cmp_gt, cmp_eq, wb_0, b_01, cmp_lt', cmp_gt', cmp_eq', b_0, b_1, wb_1, Int.reduceSub, Int.reduceToNat, List.getD_cons_succ, List.getD_cons_zero, Int.reduceLE, Int.reduceLT, Int.reduceEq, Int.reduceNeg, Int.reduceAdd, Int.reduceMul, and_self, em_b, ne_eq, not_false_eq_true, not_true_eq_false]
    try rfl
