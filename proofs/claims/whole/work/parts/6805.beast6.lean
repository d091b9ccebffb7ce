/-! THE CLASS: the Beast's answers -/
theorem bf_ge {c : KC} {sky : Nat} {W : Int → Int} {u : Nat} {x : ST} (hu : u < 1000000) (h : bfI c sky W x) : ((u + 1 : Nat) : Int) ≤ W (encC c x) ↔ survB c sky u x := by
  rcases h with ⟨h1, h2⟩ | ⟨v, h1, h2, h3⟩
  · exact ⟨fun _ => h2 u, fun _ => by rw [h1]; omega⟩
  · constructor
    · intro z
      exact survB_le (n := v) (by omega) h2.1
    · intro z
      by_cases q : u ≤ v
      · omega
      · exact absurd (survB_le (by omega) z) h2.2
theorem bf_mx {c : KC} {sky : Nat} {W : Int → Int} {x : ST} (h : bfI c sky W x) : (2147483647 : Int) ≤ W (encC c x) ↔ ∀ n, survB c sky n x := by
  rcases h with ⟨h1, h2⟩ | ⟨v, h1, h2, h3⟩
  · exact ⟨fun _ => h2, fun _ => by rw [h1]; exact Int.le_refl _⟩
  · exact ⟨fun z => by omega, fun z => absurd (z (v + 1)) h2.2⟩
theorem Be_longest {ow : Nat → Nat} {h : PH} {ca : Nat} {c : KC} {sky n : Nat} {s : ST} (hO : okC c) (hs : okS c s) (hB : BeaS ow h ca c sky n s) : ∃ v : Int, farA c sky (kN c) s v ∧ ∀ d Q, WP d 1 0 [some (vr 59), some (vi (encC c s))] [] h Q = Q (some (vi v)) h := by
  have hK := hO.1
  have hsl := encC_lt hK hs
  have h24 := szC_le hK
  obtain ⟨i, wA, W, v1, v2, ⟨w1, w2, w3, w4⟩, v4, v5, ⟨M, m1, m2, m3, m4⟩, v7⟩ := hB
  have hsM : s ∈ M := Classical.byContradiction (fun z => v7 (m4 s hs z))
  rcases m3 s hsM with ⟨h1, h2⟩ | ⟨v, h1, h2, h3⟩
  · refine ⟨-1, Or.inl ⟨rfl, fun k => (sv_survB hK k s hs).mpr (h2 k)⟩, fun d Q => ?_⟩
    simp (disch := omega) only [e_1_0, e_1_1, e_1_4, e_1_5, e_1_6, e_1_8, e_1_11, e_1_12, e_1_15, e_1_16, e_1_19, e_1_20, e_1_21, e_1_22, e_1_23, v1, v2, h1, true_and, beO_c, beO_g0, beO_k0, beO_g1, beO_k1, beO_s1, beO_g2, beO_k2, beO_s2, beO_g3, beO_k3, beO_s3, beO_g4, beO_k4, beO_s4, dkO_c, dkO_g0, dkO_k0, dkO_s0, dkO_g1, dkO_k1, dkO_s1, dkO_g2, dkO_k2, dkO_s2, hoO_c, hoO_g0, hoO_k0, hoO_s0, hoO_g1, hoO_k1, hoO_s1, hoO_g2, hoO_k2, hoO_s2, hoO_g3, hoO_k3, hoO_g4, hoO_k4, hoO_g5, hoO_k5, hoO_g6, hoO_k6, hoO_g7, hoO_k7, hoO_g8, hoO_k8, hoO_g9, hoO_k9, hoO_s9, iup_s, iup_n, hp_up1, hp_upn, ne_eq, not_false_eq_true, sh_0, sh_1, sh_2, sh_3, sh_4, sh_5, sh_8, sh_15, sh_16, sh_24, Int.reducePow, Int.cast_ofNat_Int, w_of, wl_of, ltT, ltF, leT, leF, eqT, eqF, okF_0, okF_s, gF_0, gF_s, consC_o, sF_0, sF_s, clsO_o, inA_i, ldA_i, stA_i, inJ_l, ldJ_l, stJ_l, inR_r, ldR_r, stR_r, tgR_r, lenA_i, lenA_l, lenA_r, lenA_ex, nl_i, nl_o, nl_l, nl_n, wd_n, wd_i, wd_l, wd_o, fit_i, fit_l, fit_o, K_v, K_n, true_and, and_true, Nat.reduceAdd, Nat.reduceLeDiff, Nat.reduceEqDiff, Nat.reduceMul, Nat.reduceLT, reduceIte, true_or, or_true, cmp_lt, cmp_gt, cmp_eq, wb_0, b_01, cmp_lt', cmp_gt', cmp_eq', b_0, b_1, wb_1, Int.reduceSub, Int.reduceToNat, List.getD_cons_succ, List.getD_cons_zero, Int.reduceLE, Int.reduceLT, Int.reduceEq, Int.reduceNeg, Int.reduceAdd, Int.reduceMul, and_self, em_b, ne_eq, not_false_eq_true, not_true_eq_false]
    try rfl
  · refine ⟨v, Or.inr ⟨v, rfl, (sv_survB hK _ s hs).mpr h2.1, fun z => h2.2 ((sv_survB hK _ s hs).mp z)⟩, fun d Q => ?_⟩
    have ev : ((v + 1 : Nat) : Int) - 1 = (v : Int) := by omega
    simp (disch := omega) only [e_1_0, e_1_1, e_1_4, e_1_5, e_1_6, e_1_8, e_1_11, e_1_12, e_1_15, e_1_16, e_1_19, e_1_20, e_1_21, e_1_22, e_1_23, v1, v2, h1, ev, true_and, beO_c, beO_g0, beO_k0, beO_g1, beO_k1, beO_s1, beO_g2, beO_k2, beO_s2, beO_g3, beO_k3, beO_s3, beO_g4, beO_k4, beO_s4, dkO_c, dkO_g0, dkO_k0, dkO_s0, dkO_g1, dkO_k1, dkO_s1, dkO_g2, dkO_k2, dkO_s2, hoO_c, hoO_g0, hoO_k0, hoO_s0, hoO_g1, hoO_k1, hoO_s1, hoO_g2, hoO_k2, hoO_s2, hoO_g3, hoO_k3, hoO_g4, hoO_k4, hoO_g5, hoO_k5, hoO_g6, hoO_k6, hoO_g7, hoO_k7, hoO_g8, hoO_k8, hoO_g9, hoO_k9, hoO_s9, iup_s, iup_n, hp_up1, hp_upn, ne_eq, not_false_eq_true, sh_0, sh_1, sh_2, sh_3, sh_4, sh_5, sh_8, sh_15, sh_16, sh_24, Int.reducePow, Int.cast_ofNat_Int, w_of, wl_of, ltT, ltF, leT, leF, eqT, eqF, okF_0, okF_s, gF_0, gF_s, consC_o, sF_0, sF_s, clsO_o, inA_i, ldA_i, stA_i, inJ_l, ldJ_l, stJ_l, inR_r, ldR_r, stR_r, tgR_r, lenA_i, lenA_l, lenA_r, lenA_ex, nl_i, nl_o, nl_l, nl_n, wd_n, wd_i, wd_l, wd_o, fit_i, fit_l, fit_o, K_v, K_n, true_and, and_true, Nat.reduceAdd, Nat.reduceLeDiff, Nat.reduceEqDiff, Nat.reduceMul, Nat.reduceLT, reduceIte, true_or, or_true, cmp_lt, cmp_gt, cmp_eq, wb_0, b_01, cmp_lt', cmp_gt', cmp_eq', b_0, b_1, wb_1, Int.reduceSub, Int.reduceToNat, List.getD_cons_succ, List.getD_cons_zero, Int.reduceLE, Int.reduceLT, Int.reduceEq, Int.reduceNeg, Int.reduceAdd, Int.reduceMul, and_self, em_b, ne_eq, not_false_eq_true, not_true_eq_false]
    try rfl
theorem hld_good {c : KC} {sky : Nat} {W : Int → Int} {M : List ST} {s : ST} {m : Nat} {u : Int} (hK : okK c) (hs : okS c s) (hM : ∀ x, x ∈ M → okS c x) (hcl : clsB c sky M) (hI : ∀ x, x ∈ M → bfI c sky W x) (hsM : s ∈ M) (hm : m < 19) (hc : canM c sky s m = true) (hu : (W (encC c s) = 2147483647 ∧ u = 2147483647) ∨ ∃ v : Nat, W (encC c s) = ((v + 1 + 1 : Nat) : Int) ∧ u = ((v + 1 : Nat) : Int) ∧ v < 24000) : hldP c W (toM c sky s m) u ↔ goodM c sky (kN c) s m := by
  have hy : (deedM m, toM c sky s m) ∈ nx c sky s := nx_mem.mpr ⟨m, hm, hc, rfl⟩
  have hyo : okS c (toM c sky s m) := nx_ok hs hy
  have hb := bear_up hK hyo
  have fin : ∀ (Z : ST → Prop), (∀ x, x ∈ M → (u ≤ W (encC c x) ↔ Z x)) → (hldP c W (toM c sky s m) u ↔ (2 ≤ bearS c (toM c sky s m) ∧ Z (toM c sky s m) ∧ ∀ p, p < kN c → Z (weakS (toM c sky s m) p))) := fun Z hZ => by
    constructor
    · rintro ⟨h1, h2, h3⟩
      obtain ⟨c1, c2⟩ := hcl s hsM _ hy h1
      exact ⟨h1, (hZ _ c1).mp h2, fun p hp => (hZ _ (c2 p hp)).mp (h3 p hp)⟩
    · rintro ⟨h1, h2, h3⟩
      obtain ⟨c1, c2⟩ := hcl s hsM _ hy h1
      exact ⟨h1, (hZ _ c1).mpr h2, fun p hp => (hZ _ (c2 p hp)).mpr (h3 p hp)⟩
  have hgd : goodM c sky (kN c) s m ↔ (2 ≤ bearS c (toM c sky s m) ∧ ∀ n, survB c sky (n + 1) s → survB c sky n (toM c sky s m) ∧ ∀ p, p < kN c → survB c sky n (weakS (toM c sky s m) p)) := by
    constructor
    · rintro ⟨-, h2, h3⟩
      exact ⟨hb.mp h2, fun n hn => ⟨(sv_survB hK n _ hyo).mp (h3 n ((sv_survB hK _ s hs).mpr hn)).1, fun p hp => (sv_survB hK n _ (weakS_ok hyo hp)).mp ((h3 n ((sv_survB hK _ s hs).mpr hn)).2 p hp)⟩⟩
    · rintro ⟨h2, h3⟩
      exact ⟨hc, hb.mpr h2, fun n hn => ⟨(sv_survB hK n _ hyo).mpr (h3 n ((sv_survB hK _ s hs).mp hn)).1, fun p hp => (sv_survB hK n _ (weakS_ok hyo hp)).mpr ((h3 n ((sv_survB hK _ s hs).mp hn)).2 p hp)⟩⟩
  rw [hgd]
  have hbs := hI s hsM
  rcases hu with ⟨h1, rfl⟩ | ⟨v, h1, rfl, h3⟩
  · rw [fin (fun x => ∀ n, survB c sky n x) (fun x hx => bf_mx (hI x hx))]
    have he : ∀ n, survB c sky n s := (bf_mx hbs).mp (by rw [h1]; exact Int.le_refl _)
    constructor
    · rintro ⟨g1, g2, g3⟩
      exact ⟨g1, fun n _ => ⟨g2 n, fun p hp => g3 p hp n⟩⟩
    · rintro ⟨g1, g2⟩
      exact ⟨g1, fun n => (g2 n (he _)).1, fun p hp n => (g2 n (he _)).2 p hp⟩
  · rw [fin (fun x => survB c sky v x) (fun x hx => bf_ge (by omega) (hI x hx))]
    have hv1 : survB c sky (v + 1) s := (bf_ge (u := v + 1) (by omega) hbs).mp (by rw [h1]; exact Int.le_refl _)
    have hv2 : ¬ survB c sky (v + 1 + 1) s := fun z => by
      have := (bf_ge (u := v + 1 + 1) (by omega) hbs).mpr z
      omega
    constructor
    · rintro ⟨g1, g2, g3⟩
      refine ⟨g1, fun n hn => ?_⟩
      have hnv : n ≤ v := by
        by_cases q : n ≤ v
        · exact q
        · exact absurd (survB_le (by omega) hn) hv2
      exact ⟨survB_le hnv g2, fun p hp => survB_le hnv (g3 p hp)⟩
    · rintro ⟨g1, g2⟩
      exact ⟨g1, (g2 v hv1).1, fun p hp => (g2 v hv1).2 p hp⟩
theorem Be_fLp {ow : Nat → Nat} {h : PH} {ca : Nat} {c : KC} {sky n wA : Nat} {i : Nat → Int} {W : Int → Int} {x : ST} {u x3 : Int} {L : List (Nat × ST)} (hL : nx c sky x = L) (hO : okC c) (hx : okS c x) (hC : KCty ow h ca c) (hS : spr h ca c L) (h59 : hp h 59 = beO i (vr ca) (vr wA)) (hw : hp h wA = aI 0 n W) (hn : szC c ≤ n) (hn1 : n ≤ 24000) (hW : wOK c W) (hu : 0 ≤ u ∧ u ≤ 2147483647) (hx3 : (x3 = 2147483647 ∧ u = 2147483647) ∨ (1 ≤ x3 ∧ x3 < 2147483647 ∧ x3 - 1 = u)) :
    ∀ (r j : Nat), j + r = L.length → (∀ (k : Nat) y, k < j → L[k]? = some y → ¬ hldP c W y.2 u) → ((∀ (k : Nat) y, L[k]? = some y → ¬ hldP c W y.2 u) ∨ ∃ (k : Nat) (y : Nat × ST), L[k]? = some y ∧ hldP c W y.2 u ∧ (∀ (k' : Nat) z, k' < k → L[k']? = some z → ¬ hldP c W z.2 u) ∧ ∀ d Q, WP (d + 3) 2 22 [some (vr 59), some (vr 27), some (vi (encC c x)), some (vi x3), some (vi j)] [] h Q = Q (some (vi y.1)) h) := by
  have hK := hO.1
  have h24 := szC_le hK
  have hlen := nx_len (sky := sky) hO hx
  rw [hL] at hlen
  obtain ⟨ii, f, g', a1, a2, a3, a4, a5⟩ := hS
  intro r
  induction r with
  | zero =>
    intro j hj hno
    exact Or.inl (fun k y hy => hno k y (by have := (List.getElem?_eq_some_iff.mp hy).1; omega) hy)
  | succ r ih =>
    intro j hj hno
    have hy : L[j]? = some L[j] := List.getElem?_eq_getElem (by omega)
    generalize L[j] = y at hy
    obtain ⟨x1, x2⟩ := a5 j y hy
    have hym : y ∈ nx c sky x := by rw [hL]; exact List.mem_of_getElem? hy
    have hyo := nx_ok hx hym
    have hyl := encC_lt hK hyo
    have hh := fun (d : Nat) (Q : PQ) => Be_holds hK hC.1 hyo h59 hw hn hn1 hW hu d Q
    have ej : (j : Int) + 1 = ((j + 1 : Nat) : Int) := by omega
    by_cases hl : hldP c W y.2 u
    · simp only [prB_T hl, if_true] at hh
      refine Or.inr ⟨j, y, hy, hl, hno, fun d Q => ?_⟩
      rcases hx3 with ⟨z1, z2⟩ | ⟨z1, z2, z3⟩
      · subst z1 z2
        rw [e_2_22]
        simp (disch := omega) only [e_2_24, e_2_25, e_2_28, e_2_31, e_2_32, e_2_33, e_2_36, e_2_38, e_2_39, e_2_40, e_2_42, e_2_45, e_2_47, e_2_50, e_2_51, e_2_52, e_2_53, e_2_56, e_2_59, e_2_60, e_2_63, e_2_65, e_2_66, a1, a2, a3, a4, x1, x2, h59, hh, true_and, beO_c, beO_g0, beO_k0, beO_g1, beO_k1, beO_s1, beO_g2, beO_k2, beO_s2, beO_g3, beO_k3, beO_s3, beO_g4, beO_k4, beO_s4, dkO_c, dkO_g0, dkO_k0, dkO_s0, dkO_g1, dkO_k1, dkO_s1, dkO_g2, dkO_k2, dkO_s2, hoO_c, hoO_g0, hoO_k0, hoO_s0, hoO_g1, hoO_k1, hoO_s1, hoO_g2, hoO_k2, hoO_s2, hoO_g3, hoO_k3, hoO_g4, hoO_k4, hoO_g5, hoO_k5, hoO_g6, hoO_k6, hoO_g7, hoO_k7, hoO_g8, hoO_k8, hoO_g9, hoO_k9, hoO_s9, iup_s, iup_n, hp_up1, hp_upn, ne_eq, not_false_eq_true, sh_0, sh_1, sh_2, sh_3, sh_4, sh_5, sh_8, sh_15, sh_16, sh_24, Int.reducePow, Int.cast_ofNat_Int, w_of, wl_of, ltT, ltF, leT, leF, eqT, eqF, okF_0, okF_s, gF_0, gF_s, consC_o, sF_0, sF_s, clsO_o, inA_i, ldA_i, stA_i, inJ_l, ldJ_l, stJ_l, inR_r, ldR_r, stR_r, tgR_r, lenA_i, lenA_l, lenA_r, lenA_ex, nl_i, nl_o, nl_l, nl_n, wd_n, wd_i, wd_l, wd_o, fit_i, fit_l, fit_o, K_v, K_n, true_and, and_true, Nat.reduceAdd, Nat.reduceLeDiff, Nat.reduceEqDiff, Nat.reduceMul, Nat.reduceLT, reduceIte, true_or, or_true, cmp_lt, cmp_gt, cmp_eq, wb_0, b_01, cmp_lt', cmp_gt', cmp_eq', b_0, b_1, wb_1, Int.reduceSub, Int.reduceToNat, List.getD_cons_succ, List.getD_cons_zero, Int.reduceLE, Int.reduceLT, Int.reduceEq, Int.reduceNeg, Int.reduceAdd, Int.reduceMul, and_self, em_b, ne_eq, not_false_eq_true, not_true_eq_false]
        try rfl
      · rw [e_2_22]
        simp (disch := omega) only [e_2_24, e_2_25, e_2_28, e_2_31, e_2_32, e_2_33, e_2_36, e_2_38, e_2_39, e_2_40, e_2_42, e_2_45, e_2_47, e_2_50, e_2_51, e_2_52, e_2_53, e_2_56, e_2_59, e_2_60, e_2_63, e_2_65, e_2_66, a1, a2, a3, a4, x1, x2, h59, hh, z3, true_and, beO_c, beO_g0, beO_k0, beO_g1, beO_k1, beO_s1, beO_g2, beO_k2, beO_s2, beO_g3, beO_k3, beO_s3, beO_g4, beO_k4, beO_s4, dkO_c, dkO_g0, dkO_k0, dkO_s0, dkO_g1, dkO_k1, dkO_s1, dkO_g2, dkO_k2, dkO_s2, hoO_c, hoO_g0, hoO_k0, hoO_s0, hoO_g1, hoO_k1, hoO_s1, hoO_g2, hoO_k2, hoO_s2, hoO_g3, hoO_k3, hoO_g4, hoO_k4, hoO_g5, hoO_k5, hoO_g6, hoO_k6, hoO_g7, hoO_k7, hoO_g8, hoO_k8, hoO_g9, hoO_k9, hoO_s9, iup_s, iup_n, hp_up1, hp_upn, ne_eq, not_false_eq_true, sh_0, sh_1, sh_2, sh_3, sh_4, sh_5, sh_8, sh_15, sh_16, sh_24, Int.reducePow, Int.cast_ofNat_Int, w_of, wl_of, ltT, ltF, leT, leF, eqT, eqF, okF_0, okF_s, gF_0, gF_s, consC_o, sF_0, sF_s, clsO_o, inA_i, ldA_i, stA_i, inJ_l, ldJ_l, stJ_l, inR_r, ldR_r, stR_r, tgR_r, lenA_i, lenA_l, lenA_r, lenA_ex, nl_i, nl_o, nl_l, nl_n, wd_n, wd_i, wd_l, wd_o, fit_i, fit_l, fit_o, K_v, K_n, true_and, and_true, Nat.reduceAdd, Nat.reduceLeDiff, Nat.reduceEqDiff, Nat.reduceMul, Nat.reduceLT, reduceIte, true_or, or_true, cmp_lt, cmp_gt, cmp_eq, wb_0, b_01, cmp_lt', cmp_gt', cmp_eq', b_0, b_1, wb_1, Int.reduceSub, Int.reduceToNat, List.getD_cons_succ, List.getD_cons_zero, Int.reduceLE, Int.reduceLT, Int.reduceEq, Int.reduceNeg, Int.reduceAdd, Int.reduceMul, and_self, em_b, ne_eq, not_false_eq_true, not_true_eq_false]
        try rfl
    · simp only [prB_F hl, if_false, Bool.false_eq_true] at hh
      rcases ih (j + 1) (by omega) (fun k z hk hz => by
        by_cases e : k = j
        · rw [e, hy] at hz
          have ez : y = z := Option.some.inj hz
          rw [← ez]; exact hl
        · exact hno k z (by omega) hz) with w | ⟨k, z, k1, k2, k3, k4⟩
      · exact Or.inl w
      · refine Or.inr ⟨k, z, k1, k2, k3, fun d Q => ?_⟩
        rw [← k4 d Q]
        rcases hx3 with ⟨z1, z2⟩ | ⟨z1, z2, z3⟩
        · subst z1 z2
          rw [e_2_22]
          simp (disch := omega) only [e_2_24, e_2_25, e_2_28, e_2_31, e_2_32, e_2_33, e_2_36, e_2_38, e_2_39, e_2_40, e_2_42, e_2_45, e_2_47, e_2_50, e_2_51, e_2_52, e_2_53, e_2_56, e_2_59, e_2_60, e_2_63, e_2_65, e_2_66, e_2_67, e_2_70, a1, a2, a3, a4, x1, x2, h59, hh, ej, true_and, beO_c, beO_g0, beO_k0, beO_g1, beO_k1, beO_s1, beO_g2, beO_k2, beO_s2, beO_g3, beO_k3, beO_s3, beO_g4, beO_k4, beO_s4, dkO_c, dkO_g0, dkO_k0, dkO_s0, dkO_g1, dkO_k1, dkO_s1, dkO_g2, dkO_k2, dkO_s2, hoO_c, hoO_g0, hoO_k0, hoO_s0, hoO_g1, hoO_k1, hoO_s1, hoO_g2, hoO_k2, hoO_s2, hoO_g3, hoO_k3, hoO_g4, hoO_k4, hoO_g5, hoO_k5, hoO_g6, hoO_k6, hoO_g7, hoO_k7, hoO_g8, hoO_k8, hoO_g9, hoO_k9, hoO_s9, iup_s, iup_n, hp_up1, hp_upn, ne_eq, not_false_eq_true, sh_0, sh_1, sh_2, sh_3, sh_4, sh_5, sh_8, sh_15, sh_16, sh_24, Int.reducePow, Int.cast_ofNat_Int, w_of, wl_of, ltT, ltF, leT, leF, eqT, eqF, okF_0, okF_s, gF_0, gF_s, consC_o, sF_0, sF_s, clsO_o, inA_i, ldA_i, stA_i, inJ_l, ldJ_l, stJ_l, inR_r, ldR_r, stR_r, tgR_r, lenA_i, lenA_l, lenA_r, lenA_ex, nl_i, nl_o, nl_l, nl_n, wd_n, wd_i, wd_l, wd_o, fit_i, fit_l, fit_o, K_v, K_n, true_and, and_true, Nat.reduceAdd, Nat.reduceLeDiff, Nat.reduceEqDiff, Nat.reduceMul, Nat.reduceLT, reduceIte, true_or, or_true, cmp_lt, cmp_gt, cmp_eq, wb_0, b_01, cmp_lt', cmp_gt', cmp_eq', b_0, b_1, wb_1, Int.reduceSub, Int.reduceToNat, List.getD_cons_succ, List.getD_cons_zero, Int.reduceLE, Int.reduceLT, Int.reduceEq, Int.reduceNeg, Int.reduceAdd, Int.reduceMul, and_self, em_b, ne_eq, not_false_eq_true, not_true_eq_false]
          try rfl
        · rw [e_2_22]
          simp (disch := omega) only [e_2_24, e_2_25, e_2_28, e_2_31, e_2_32, e_2_33, e_2_36, e_2_38, e_2_39, e_2_40, e_2_42, e_2_45, e_2_47, e_2_50, e_2_51, e_2_52, e_2_53, e_2_56, e_2_59, e_2_60, e_2_63, e_2_65, e_2_66, e_2_67, e_2_70, a1, a2, a3, a4, x1, x2, h59, hh, z3, ej, true_and, beO_c, beO_g0, beO_k0, beO_g1, beO_k1, beO_s1, beO_g2, beO_k2, beO_s2, beO_g3, beO_k3, beO_s3, beO_g4, beO_k4, beO_s4, dkO_c, dkO_g0, dkO_k0, dkO_s0, dkO_g1, dkO_k1, dkO_s1, dkO_g2, dkO_k2, dkO_s2, hoO_c, hoO_g0, hoO_k0, hoO_s0, hoO_g1, hoO_k1, hoO_s1, hoO_g2, hoO_k2, hoO_s2, hoO_g3, hoO_k3, hoO_g4, hoO_k4, hoO_g5, hoO_k5, hoO_g6, hoO_k6, hoO_g7, hoO_k7, hoO_g8, hoO_k8, hoO_g9, hoO_k9, hoO_s9, iup_s, iup_n, hp_up1, hp_upn, ne_eq, not_false_eq_true, sh_0, sh_1, sh_2, sh_3, sh_4, sh_5, sh_8, sh_15, sh_16, sh_24, Int.reducePow, Int.cast_ofNat_Int, w_of, wl_of, ltT, ltF, leT, leF, eqT, eqF, okF_0, okF_s, gF_0, gF_s, consC_o, sF_0, sF_s, clsO_o, inA_i, ldA_i, stA_i, inJ_l, ldJ_l, stJ_l, inR_r, ldR_r, stR_r, tgR_r, lenA_i, lenA_l, lenA_r, lenA_ex, nl_i, nl_o, nl_l, nl_n, wd_n, wd_i, wd_l, wd_o, fit_i, fit_l, fit_o, K_v, K_n, true_and, and_true, Nat.reduceAdd, Nat.reduceLeDiff, Nat.reduceEqDiff, Nat.reduceMul, Nat.reduceLT, reduceIte, true_or, or_true, cmp_lt, cmp_gt, cmp_eq, wb_0, b_01, cmp_lt', cmp_gt', cmp_eq', b_0, b_1, wb_1, Int.reduceSub, Int.reduceToNat, List.getD_cons_succ, List.getD_cons_zero, Int.reduceLE, Int.reduceLT, Int.reduceEq, Int.reduceNeg, Int.reduceAdd, Int.reduceMul, and_self, em_b, ne_eq, not_false_eq_true, not_true_eq_false]
          try rfl
theorem Be_first {ow : Nat → Nat} {h : PH} {ca : Nat} {c : KC} {sky e n : Nat} {s : ST} (hF : owF ow h) (hH : HoP ow h ca c sky e) (hs : okS c s) (hB : BeaS ow h ca c sky n s) : ∃ (h' : PH) (v : Int), chg ow [1] h h' ∧ HoP ow h' ca c sky e ∧ bestA c sky s v ∧ ∀ d Q, WP (d + 9) 2 0 [some (vr 59), some (vr 27), some (vi (encC c s)), none, none] [] h Q = Q (some (vi v)) h' := by
  obtain ⟨hO⟩ : Nonempty (okC c) := by obtain ⟨_, _, _, _, _, _, _, _, _, _, a9⟩ := hH; exact ⟨a9.2.1⟩
  have hK := hO.1
  have hsl := encC_lt hK hs
  have h24 := szC_le hK
  obtain ⟨i, wA, W, v1, v2, ⟨w1, w2, w3, w4⟩, v4, v5, ⟨M, m1, m2, m3, m4⟩, v7⟩ := hB
  have hsM : s ∈ M := Classical.byContradiction (fun z => v7 (m4 s hs z))
  have hWok : wOK c W := fun z hz => by
    by_cases q : z ∈ M
    · rcases m3 z q with ⟨u1, -⟩ | ⟨v, u1, -, u2⟩ <;> omega
    · rw [m4 z hz q]; omega
  have hsb := hWok s hs
  by_cases h1 : W (encC c s) = 1
  · refine ⟨h, -1, chg_r, hH, Or.inr ⟨fun z => ?_, rfl⟩, fun d Q => ?_⟩
    · have := (bf_ge (u := 1) (by omega) (m3 s hsM)).mpr ((sv_survB hK 1 s hs).mp z)
      omega
    · simp (disch := omega) only [e_2_0, e_2_1, e_2_4, e_2_5, e_2_6, e_2_7, e_2_8, e_2_9, e_2_12, e_2_13, v1, v2, h1, true_and, beO_c, beO_g0, beO_k0, beO_g1, beO_k1, beO_s1, beO_g2, beO_k2, beO_s2, beO_g3, beO_k3, beO_s3, beO_g4, beO_k4, beO_s4, dkO_c, dkO_g0, dkO_k0, dkO_s0, dkO_g1, dkO_k1, dkO_s1, dkO_g2, dkO_k2, dkO_s2, hoO_c, hoO_g0, hoO_k0, hoO_s0, hoO_g1, hoO_k1, hoO_s1, hoO_g2, hoO_k2, hoO_s2, hoO_g3, hoO_k3, hoO_g4, hoO_k4, hoO_g5, hoO_k5, hoO_g6, hoO_k6, hoO_g7, hoO_k7, hoO_g8, hoO_k8, hoO_g9, hoO_k9, hoO_s9, iup_s, iup_n, hp_up1, hp_upn, ne_eq, not_false_eq_true, sh_0, sh_1, sh_2, sh_3, sh_4, sh_5, sh_8, sh_15, sh_16, sh_24, Int.reducePow, Int.cast_ofNat_Int, w_of, wl_of, ltT, ltF, leT, leF, eqT, eqF, okF_0, okF_s, gF_0, gF_s, consC_o, sF_0, sF_s, clsO_o, inA_i, ldA_i, stA_i, inJ_l, ldJ_l, stJ_l, inR_r, ldR_r, stR_r, tgR_r, lenA_i, lenA_l, lenA_r, lenA_ex, nl_i, nl_o, nl_l, nl_n, wd_n, wd_i, wd_l, wd_o, fit_i, fit_l, fit_o, K_v, K_n, true_and, and_true, Nat.reduceAdd, Nat.reduceLeDiff, Nat.reduceEqDiff, Nat.reduceMul, Nat.reduceLT, reduceIte, true_or, or_true, cmp_lt, cmp_gt, cmp_eq, wb_0, b_01, cmp_lt', cmp_gt', cmp_eq', b_0, b_1, wb_1, Int.reduceSub, Int.reduceToNat, List.getD_cons_succ, List.getD_cons_zero, Int.reduceLE, Int.reduceLT, Int.reduceEq, Int.reduceNeg, Int.reduceAdd, Int.reduceMul, and_self, em_b, ne_eq, not_false_eq_true, not_true_eq_false]
      try rfl
  · obtain ⟨iy, h27⟩ : ∃ i, hp h 27 = hoO i (vr ca) := by obtain ⟨i, A, a1, _⟩ := hH; exact ⟨i, a1⟩
    obtain ⟨g, g1, g2, g3, g4⟩ := H_spread hF hH hs
    obtain ⟨hKC⟩ : Nonempty (KCty ow g ca c) := by obtain ⟨_, _, _, _, _, _, _, _, _, _, a9⟩ := g2; exact ⟨a9⟩
    have t59 : ow 59 = 6 := hF.2 59 (by omega)
    have e59 : hp g 59 = beO i (vr ca) (vr wA) := by rw [chg_at g1 t59 (by decide)]; exact v1
    have ew : hp g wA = aI 0 n W := by rw [chg_at g1 w1 (by decide)]; exact v2
    have hu : ∃ u : Int, ((W (encC c s) = 2147483647 ∧ u = 2147483647) ∨ ∃ v : Nat, W (encC c s) = ((v + 1 + 1 : Nat) : Int) ∧ u = ((v + 1 : Nat) : Int) ∧ v < 24000) := by
      rcases m3 s hsM with ⟨z1, -⟩ | ⟨v, z1, -, z2⟩
      · exact ⟨2147483647, Or.inl ⟨z1, rfl⟩⟩
      · refine ⟨v, Or.inr ⟨v - 1, by rw [z1]; congr 1; omega, by congr 1; omega, by omega⟩⟩
    obtain ⟨u, hu⟩ := hu
    have hub : 0 ≤ u ∧ u ≤ 2147483647 := by
      rcases hu with ⟨-, z⟩ | ⟨v, -, z, z2⟩ <;> omega
    have hx3 : (W (encC c s) = 2147483647 ∧ u = 2147483647) ∨ (1 ≤ W (encC c s) ∧ W (encC c s) < 2147483647 ∧ W (encC c s) - 1 = u) := by
      rcases hu with z | ⟨v, z1, z2, z3⟩
      · exact Or.inl z
      · exact Or.inr ⟨by omega, by omega, by omega⟩
    have gd := fun (m : Nat) (hm : m < 19) (hc : canM c sky s m = true) => hld_good (u := u) hK hs m1 m2 m3 hsM hm hc hu
    have hs1 : sv c sky (kN c) 1 s := (sv_survB hK 1 s hs).mpr ((bf_ge (u := 1) (by omega) (m3 s hsM)).mp (by
      rcases hu with ⟨z, -⟩ | ⟨v, z, -⟩ <;> rw [z] <;> omega))
    rcases Be_fLp (x3 := W (encC c s)) rfl hO hs hKC g3 e59 ew v4 w4 hWok hub hx3 (nx c sky s).length 0 (by omega) (fun k y hk => by omega) with z | ⟨k, y, k1, k2, k3, k4⟩
    · obtain ⟨m, h2, h3⟩ := good_ex hs1
      exact absurd ((gd m h2 h3.1).mpr h3) (z _ _ (nx_at h2 h3.1))
    · obtain ⟨m, q1, q2, q3, q4⟩ := nx_idx k1
      subst q3
      refine ⟨g, deedM m, g1, g2, Or.inl ⟨m, ⟨q1, (gd m q1 q2).mp k2, fun m' hm' z => ?_⟩, rfl⟩, fun d Q => ?_⟩
      · have hc' := z.1
        exact k3 _ _ (by rw [q4]; exact nxTo_lt hm' hc') (nx_at (by omega) hc') ((gd m' (by omega) hc').mpr z)
      · have k4' := k4 (d + 6) Q
        rw [nc0] at k4'
        have g4' := fun (Q : PQ) => g4 d Q
        rw [← k4']
        simp (disch := omega) only [e_2_0, e_2_1, e_2_4, e_2_5, e_2_6, e_2_7, e_2_8, e_2_9, e_2_12, e_2_13, e_2_14, e_2_15, e_2_16, e_2_19, e_2_20, v1, v2, h27, g4', true_and, beO_c, beO_g0, beO_k0, beO_g1, beO_k1, beO_s1, beO_g2, beO_k2, beO_s2, beO_g3, beO_k3, beO_s3, beO_g4, beO_k4, beO_s4, dkO_c, dkO_g0, dkO_k0, dkO_s0, dkO_g1, dkO_k1, dkO_s1, dkO_g2, dkO_k2, dkO_s2, hoO_c, hoO_g0, hoO_k0, hoO_s0, hoO_g1, hoO_k1, hoO_s1, hoO_g2, hoO_k2, hoO_s2, hoO_g3, hoO_k3, hoO_g4, hoO_k4, hoO_g5, hoO_k5, hoO_g6, hoO_k6, hoO_g7, hoO_k7, hoO_g8, hoO_k8, hoO_g9, hoO_k9, hoO_s9, iup_s, iup_n, hp_up1, hp_upn, ne_eq, not_false_eq_true, sh_0, sh_1, sh_2, sh_3, sh_4, sh_5, sh_8, sh_15, sh_16, sh_24, Int.reducePow, Int.cast_ofNat_Int, w_of, wl_of, ltT, ltF, leT, leF, eqT, eqF, okF_0, okF_s, gF_0, gF_s, consC_o, sF_0, sF_s, clsO_o, inA_i, ldA_i, stA_i, inJ_l, ldJ_l, stJ_l, inR_r, ldR_r, stR_r, tgR_r, lenA_i, lenA_l, lenA_r, lenA_ex, nl_i, nl_o, nl_l, nl_n, wd_n, wd_i, wd_l, wd_o, fit_i, fit_l, fit_o, K_v, K_n, true_and, and_true, Nat.reduceAdd, Nat.reduceLeDiff, Nat.reduceEqDiff, Nat.reduceMul, Nat.reduceLT, reduceIte, true_or, or_true, cmp_lt, cmp_gt, cmp_eq, wb_0, b_01, cmp_lt', cmp_gt', cmp_eq', b_0, b_1, wb_1, Int.reduceSub, Int.reduceToNat, List.getD_cons_succ, List.getD_cons_zero, Int.reduceLE, Int.reduceLT, Int.reduceEq, Int.reduceNeg, Int.reduceAdd, Int.reduceMul, and_self, em_b, ne_eq, not_false_eq_true, not_true_eq_false]
        try rfl
