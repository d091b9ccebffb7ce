/-! THE CLASS: moments -/
def MoP (ow : Nat → Nat) (h : PH) (a ca : Nat) (c : KC) (z : ZT) : Prop := ∃ i : Nat → Int, hp h a = moO i (vr ca) ∧ i 1 = (encC c z.1 : Int) ∧ i 2 = (z.2.1 : Int) ∧ i 3 = (z.2.2 : Int) ∧ okZ c z ∧ KCty ow h ca c
theorem MoP_e {ow ow' : Nat → Nat} {h h' : PH} {a ca : Nat} {c : KC} {z : ZT} {T : List Nat} (hx : extO ow h ow' h' T) (ha : a < h.1) (h0 : ¬ 0 ∈ T) (ht : ¬ ow a ∈ T) (hM : MoP ow h a ca c z) : MoP ow' h' a ca c z := by
  obtain ⟨i, m1, m2, m3, m4, m5, m6⟩ := hM
  exact ⟨i, by rw [hx.2.2 a ha ht]; exact m1, m2, m3, m4, m5, KCty_e hx h0 m6⟩
theorem Mo_isDown {ow : Nat → Nat} {h : PH} {a ca : Nat} {c : KC} {z : ZT} (hM : MoP ow h a ca c z) : ∀ d Q, WP (d + 2) 59 0 [some (vr a)] [] h Q = Q (some (vi (if downB c z.1 then 1 else 0))) h := by
  obtain ⟨i, m1, m2, m3, m4, m5, m6⟩ := hM
  have dn := fun (d : Nat) (Q : PQ) => c_isDown (d := d) (Q := Q) m6.2.1.1 m6.1 m5.1
  obtain ⟨y4, y5, y6, y7, y8, y9, y10, y11, y14, y15, y17, hA⟩ := KCty_sz m6
  intro d Q
  by_cases hd : downB c z.1 = true
  · simp only [hd, if_true] at dn ⊢
    simp (disch := omega) only [e_59_0, e_59_1, e_59_4, e_59_5, e_59_8, e_59_11, m1, m2, hA, dn, true_and, moO_c, moO_g0, moO_k0, moO_g1, moO_k1, moO_g2, moO_k2, moO_g3, moO_k3, moO_s0, moO_s1, moO_s2, moO_s3, hoO_c, hoO_g0, hoO_k0, hoO_g1, hoO_k1, hoO_g2, hoO_k2, hoO_g3, hoO_k3, hoO_g4, hoO_k4, hoO_g5, hoO_k5, hoO_g6, hoO_k6, hoO_g7, hoO_k7, hoO_g8, hoO_k8, hoO_g9, hoO_k9, hoO_s0, hoO_s1, hoO_s2, hoO_s9, iup_s, iup_n, hp_up1, hp_upn, ne_eq, not_false_eq_true, sh_0, sh_1, sh_2, sh_3, sh_4, sh_5, sh_8, sh_15, sh_16, sh_24, Int.reducePow, Int.cast_ofNat_Int, w_of, wl_of, ltT, ltF, leT, leF, eqT, eqF, okF_0, okF_s, gF_0, gF_s, consC_o, sF_0, sF_s, clsO_o, inA_i, ldA_i, stA_i, inJ_l, ldJ_l, stJ_l, inR_r, ldR_r, stR_r, tgR_r, lenA_i, lenA_l, lenA_r, lenA_ex, nl_i, nl_o, nl_l, nl_n, wd_n, wd_i, wd_l, wd_o, fit_i, fit_l, fit_o, K_v, K_n, true_and, and_true, Nat.reduceAdd, Nat.reduceLeDiff, Nat.reduceEqDiff, Nat.reduceMul, Nat.reduceLT, reduceIte, true_or, or_true, cmp_lt, cmp_gt, cmp_eq, wb_0, b_01, cmp_lt', cmp_gt', cmp_eq', b_0, b_1, wb_1, Int.reduceSub, Int.reduceToNat, List.getD_cons_succ, List.getD_cons_zero, Int.reduceLE, Int.reduceLT, Int.reduceEq, Int.reduceNeg, Int.reduceAdd, Int.reduceMul, and_self, em_b, ne_eq, not_false_eq_true, not_true_eq_false]
    try rfl
  · simp only [hd, if_false, Bool.false_eq_true] at dn ⊢
    simp (disch := omega) only [e_59_0, e_59_1, e_59_4, e_59_5, e_59_8, e_59_11, m1, m2, hA, dn, true_and, moO_c, moO_g0, moO_k0, moO_g1, moO_k1, moO_g2, moO_k2, moO_g3, moO_k3, moO_s0, moO_s1, moO_s2, moO_s3, hoO_c, hoO_g0, hoO_k0, hoO_g1, hoO_k1, hoO_g2, hoO_k2, hoO_g3, hoO_k3, hoO_g4, hoO_k4, hoO_g5, hoO_k5, hoO_g6, hoO_k6, hoO_g7, hoO_k7, hoO_g8, hoO_k8, hoO_g9, hoO_k9, hoO_s0, hoO_s1, hoO_s2, hoO_s9, iup_s, iup_n, hp_up1, hp_upn, ne_eq, not_false_eq_true, sh_0, sh_1, sh_2, sh_3, sh_4, sh_5, sh_8, sh_15, sh_16, sh_24, Int.reducePow, Int.cast_ofNat_Int, w_of, wl_of, ltT, ltF, leT, leF, eqT, eqF, okF_0, okF_s, gF_0, gF_s, consC_o, sF_0, sF_s, clsO_o, inA_i, ldA_i, stA_i, inJ_l, ldJ_l, stJ_l, inR_r, ldR_r, stR_r, tgR_r, lenA_i, lenA_l, lenA_r, lenA_ex, nl_i, nl_o, nl_l, nl_n, wd_n, wd_i, wd_l, wd_o, fit_i, fit_l, fit_o, K_v, K_n, true_and, and_true, Nat.reduceAdd, Nat.reduceLeDiff, Nat.reduceEqDiff, Nat.reduceMul, Nat.reduceLT, reduceIte, true_or, or_true, cmp_lt, cmp_gt, cmp_eq, wb_0, b_01, cmp_lt', cmp_gt', cmp_eq', b_0, b_1, wb_1, Int.reduceSub, Int.reduceToNat, List.getD_cons_succ, List.getD_cons_zero, Int.reduceLE, Int.reduceLT, Int.reduceEq, Int.reduceNeg, Int.reduceAdd, Int.reduceMul, and_self, em_b, ne_eq, not_false_eq_true, not_true_eq_false]
    try rfl
theorem Mo_take {h : PH} {a b : Nat} {i j : Nat → Int} {pa pb : PV} (ha : 10 ≤ a) (h1 : hp h a = moO i pa) (h2 : hp h b = moO j (pb)) (hv : ∃ r, pb = vr r) : ∃ k : Nat → Int, k 1 = j 1 ∧ k 2 = j 2 ∧ k 3 = j 3 ∧ ∀ d Q, WP d 58 0 [some (vr a), some (vr b)] [] h Q = Q none (hup h a (moO k pb)) := by
  obtain ⟨r, rfl⟩ := hv
  by_cases e : a = b
  · subst e
    rw [h1] at h2
    refine ⟨iup (iup (iup i 1 (i 1)) 2 (i 2)) 3 (i 3), ?_, ?_, ?_, fun d Q => ?_⟩
    · have : i 1 = j 1 := by have := congrArg (fun x => gF x 1) h2; exact Sum.inl.inj this
      rw [iup_n (by omega), iup_n (by omega), iup_s]; exact this
    · have : i 2 = j 2 := by have := congrArg (fun x => gF x 2) h2; exact Sum.inl.inj this
      rw [iup_n (by omega), iup_s]; exact this
    · have : i 3 = j 3 := by have := congrArg (fun x => gF x 3) h2; exact Sum.inl.inj this
      rw [iup_s]; exact this
    · have hpa : pa = vr r := by have := congrArg (fun x => gF x 0) h2; exact this
      subst hpa
      simp (disch := omega) only [e_58_0, e_58_1, e_58_2, e_58_5, e_58_8, e_58_9, e_58_10, e_58_13, e_58_16, e_58_17, e_58_18, e_58_21, e_58_24, e_58_25, e_58_26, e_58_29, e_58_32, h1, ha, hup_tt, true_and, moO_c, moO_g0, moO_k0, moO_g1, moO_k1, moO_g2, moO_k2, moO_g3, moO_k3, moO_s0, moO_s1, moO_s2, moO_s3, hoO_c, hoO_g0, hoO_k0, hoO_g1, hoO_k1, hoO_g2, hoO_k2, hoO_g3, hoO_k3, hoO_g4, hoO_k4, hoO_g5, hoO_k5, hoO_g6, hoO_k6, hoO_g7, hoO_k7, hoO_g8, hoO_k8, hoO_g9, hoO_k9, hoO_s0, hoO_s1, hoO_s2, hoO_s9, iup_s, iup_n, hp_up1, hp_upn, ne_eq, not_false_eq_true, sh_0, sh_1, sh_2, sh_3, sh_4, sh_5, sh_8, sh_15, sh_16, sh_24, Int.reducePow, Int.cast_ofNat_Int, w_of, wl_of, ltT, ltF, leT, leF, eqT, eqF, okF_0, okF_s, gF_0, gF_s, consC_o, sF_0, sF_s, clsO_o, inA_i, ldA_i, stA_i, inJ_l, ldJ_l, stJ_l, inR_r, ldR_r, stR_r, tgR_r, lenA_i, lenA_l, lenA_r, lenA_ex, nl_i, nl_o, nl_l, nl_n, wd_n, wd_i, wd_l, wd_o, fit_i, fit_l, fit_o, K_v, K_n, true_and, and_true, Nat.reduceAdd, Nat.reduceLeDiff, Nat.reduceEqDiff, Nat.reduceMul, Nat.reduceLT, reduceIte, true_or, or_true, cmp_lt, cmp_gt, cmp_eq, wb_0, b_01, cmp_lt', cmp_gt', cmp_eq', b_0, b_1, wb_1, Int.reduceSub, Int.reduceToNat, List.getD_cons_succ, List.getD_cons_zero, Int.reduceLE, Int.reduceLT, Int.reduceEq, Int.reduceNeg, Int.reduceAdd, Int.reduceMul, and_self, em_b, ne_eq, not_false_eq_true, not_true_eq_false]
      try rfl
  · refine ⟨iup (iup (iup i 1 (j 1)) 2 (j 2)) 3 (j 3), ?_, ?_, iup_s, fun d Q => ?_⟩
    · rw [iup_n (by omega), iup_n (by omega), iup_s]
    · rw [iup_n (by omega), iup_s]
    · have e' : b ≠ a := fun z => e z.symm
      simp (disch := omega) only [e_58_0, e_58_1, e_58_2, e_58_5, e_58_8, e_58_9, e_58_10, e_58_13, e_58_16, e_58_17, e_58_18, e_58_21, e_58_24, e_58_25, e_58_26, e_58_29, e_58_32, h1, h2, ha, e', hup_tt, true_and, moO_c, moO_g0, moO_k0, moO_g1, moO_k1, moO_g2, moO_k2, moO_g3, moO_k3, moO_s0, moO_s1, moO_s2, moO_s3, hoO_c, hoO_g0, hoO_k0, hoO_g1, hoO_k1, hoO_g2, hoO_k2, hoO_g3, hoO_k3, hoO_g4, hoO_k4, hoO_g5, hoO_k5, hoO_g6, hoO_k6, hoO_g7, hoO_k7, hoO_g8, hoO_k8, hoO_g9, hoO_k9, hoO_s0, hoO_s1, hoO_s2, hoO_s9, iup_s, iup_n, hp_up1, hp_upn, ne_eq, not_false_eq_true, sh_0, sh_1, sh_2, sh_3, sh_4, sh_5, sh_8, sh_15, sh_16, sh_24, Int.reducePow, Int.cast_ofNat_Int, w_of, wl_of, ltT, ltF, leT, leF, eqT, eqF, okF_0, okF_s, gF_0, gF_s, consC_o, sF_0, sF_s, clsO_o, inA_i, ldA_i, stA_i, inJ_l, ldJ_l, stJ_l, inR_r, ldR_r, stR_r, tgR_r, lenA_i, lenA_l, lenA_r, lenA_ex, nl_i, nl_o, nl_l, nl_n, wd_n, wd_i, wd_l, wd_o, fit_i, fit_l, fit_o, K_v, K_n, true_and, and_true, Nat.reduceAdd, Nat.reduceLeDiff, Nat.reduceEqDiff, Nat.reduceMul, Nat.reduceLT, reduceIte, true_or, or_true, cmp_lt, cmp_gt, cmp_eq, wb_0, b_01, cmp_lt', cmp_gt', cmp_eq', b_0, b_1, wb_1, Int.reduceSub, Int.reduceToNat, List.getD_cons_succ, List.getD_cons_zero, Int.reduceLE, Int.reduceLT, Int.reduceEq, Int.reduceNeg, Int.reduceAdd, Int.reduceMul, and_self, em_b, ne_eq, not_false_eq_true, not_true_eq_false]
      try rfl
theorem fedS_z {c : KC} {z : ZT} {p : Nat} (hz : okZ c z) (hp : p < kN c) : okZ c (fedS z.1 p, z.2.1, z.2.2) := ⟨fedS_ok hz.1 hp, hz.2⟩
theorem why_can {c : KC} {sky : Nat} {s : ST} {x : Int} (hK : okK c) (h : whyD c sky s x = 0) : ∃ m, moveD c x = some m ∧ canM c sky s m = true := by
  unfold whyD at h
  cases hm : moveD c x with
  | none => rw [hm] at h; cases h
  | some m =>
    rw [hm] at h
    refine ⟨m, rfl, ?_⟩
    unfold canM
    rw [(moveD_some hK hm).1, show whyM c sky s m = 0 from h]; rfl
theorem Mo_act {kc : Nat → KC} {ow : Nat → Nat} {h : PH} {a ca ca0 : Nat} {c : KC} {z : ZT} {sky0 e : Nat} {x : Int} (hF : owF ow h) (hH : HoP ow h ca0 (kc ca0) sky0 e) (hM : MoP ow h a ca c z) (hkc : kc ca = c) (ha : 10 ≤ a) (ht0 : ow a ≠ 0) (ht1 : ow a ≠ 1) (hx : i64 x) (he : e < 1000000) :
    ∃ (h' : PH) (ca1 sky1 e' : Nat), e' ≤ e + 1 ∧ chg ow [1, ow a] h h' ∧ HoP ow h' ca1 (kc ca1) sky1 e' ∧ MoP ow h' a ca c (if actW c z x = 0 then actN c z x else z) ∧ ∀ d Q, WP (d + 10) 60 0 [some (vr a), some (vr 27), some (vl x), none, none] [] h Q = Q (some (vi (actW c z x))) h' := by
  obtain ⟨i, m1, m2, m3, m4, m5, m6⟩ := hM
  have hO := m6.2.1
  have hK := hO.1
  have hN := hK.2.2
  have h24 := szC_le hK
  have hzl := encC_lt hK m5.1
  obtain ⟨hx1, hx2⟩ := hx
  obtain ⟨y4, y5, y6, y7, y8, y9, y10, y11, y14, y15, y17, hA⟩ := KCty_sz m6
  have upd : ∀ (j : Nat → Int), chg ow [1, ow a] h (hup h a (moO j (vr ca))) ∧ HoP ow (hup h a (moO j (vr ca))) ca0 (kc ca0) sky0 e ∧ KCty ow (hup h a (moO j (vr ca))) ca c := fun j => by
    have hc : chg ow [ow a] h (hup h a (moO j (vr ca))) := chg_up rfl (by simp)
    have n0 : ¬ 0 ∈ [ow a] := fun w => ht0 (List.mem_singleton.mp w).symm
    have n1 : ¬ 1 ∈ [ow a] := fun w => ht1 (List.mem_singleton.mp w).symm
    exact ⟨chg_w hc (by simp), HoP_c hF hc n0 n1 hH, KCty_c hc n0 m6⟩
  unfold actW actN
  by_cases q1 : 20 ≤ x ∧ x ≤ 29
  · rw [if_pos q1, if_pos q1]
    obtain ⟨q1a, q1b⟩ := q1
    by_cases q2 : x - 20 < (kN c : Int)
    · rw [if_pos q2, if_pos rfl]
      obtain ⟨p, hp'⟩ : ∃ p : Nat, x = 20 + (p : Int) := ⟨(x - 20).toNat, by omega⟩
      subst hp'
      have ep : (20 + (p : Int) - 20).toNat = p := by omega
      have ep2 : (20 + (p : Int)) - 20 = (p : Int) := by omega
      rw [ep]
      obtain ⟨u1, u2, u3⟩ := upd (iup i 1 (encC c (fedS z.1 p)))
      have fe := fun (d : Nat) (Q : PQ) => c_fed (d := d) (a := ca) (h := h) (Q := Q) hK m5.1 (show p < kN c by omega)
      refine ⟨_, ca0, sky0, e, by omega, u1, u2, ⟨_, hp_up1, iup_s, by rw [iup_n (by omega)]; exact m3, by rw [iup_n (by omega)]; exact m4, fedS_z m5 (by omega), u3⟩, fun d Q => ?_⟩
      simp (disch := omega) only [e_60_0, e_60_1, e_60_4, e_60_5, e_60_8, e_60_9, e_60_12, e_60_13, e_60_16, e_60_17, e_60_18, e_60_20, e_60_21, e_60_23, e_60_25, e_60_26, e_60_29, e_60_32, e_60_35, e_60_36, e_60_37, e_60_38, e_60_39, e_60_42, e_60_43, e_60_46, e_60_48, e_60_51, e_60_54, e_60_55, m1, m2, hA, ep2, fe, ha, true_and, moO_c, moO_g0, moO_k0, moO_g1, moO_k1, moO_g2, moO_k2, moO_g3, moO_k3, moO_s0, moO_s1, moO_s2, moO_s3, hoO_c, hoO_g0, hoO_k0, hoO_g1, hoO_k1, hoO_g2, hoO_k2, hoO_g3, hoO_k3, hoO_g4, hoO_k4, hoO_g5, hoO_k5, hoO_g6, hoO_k6, hoO_g7, hoO_k7, hoO_g8, hoO_k8, hoO_g9, hoO_k9, hoO_s0, hoO_s1, hoO_s2, hoO_s9, iup_s, iup_n, hp_up1, hp_upn, ne_eq, not_false_eq_true, sh_0, sh_1, sh_2, sh_3, sh_4, sh_5, sh_8, sh_15, sh_16, sh_24, Int.reducePow, Int.cast_ofNat_Int, w_of, wl_of, ltT, ltF, leT, leF, eqT, eqF, okF_0, okF_s, gF_0, gF_s, consC_o, sF_0, sF_s, clsO_o, inA_i, ldA_i, stA_i, inJ_l, ldJ_l, stJ_l, inR_r, ldR_r, stR_r, tgR_r, lenA_i, lenA_l, lenA_r, lenA_ex, nl_i, nl_o, nl_l, nl_n, wd_n, wd_i, wd_l, wd_o, fit_i, fit_l, fit_o, K_v, K_n, true_and, and_true, Nat.reduceAdd, Nat.reduceLeDiff, Nat.reduceEqDiff, Nat.reduceMul, Nat.reduceLT, reduceIte, true_or, or_true, cmp_lt, cmp_gt, cmp_eq, wb_0, b_01, cmp_lt', cmp_gt', cmp_eq', b_0, b_1, wb_1, Int.reduceSub, Int.reduceToNat, List.getD_cons_succ, List.getD_cons_zero, Int.reduceLE, Int.reduceLT, Int.reduceEq, Int.reduceNeg, Int.reduceAdd, Int.reduceMul, and_self, em_b, ne_eq, not_false_eq_true, not_true_eq_false]
      try rfl
    · rw [if_neg q2, if_neg (by omega)]
      refine ⟨h, ca0, sky0, e, by omega, chg_r, hH, ⟨i, m1, m2, m3, m4, m5, m6⟩, fun d Q => ?_⟩
      simp (disch := omega) only [e_60_0, e_60_1, e_60_4, e_60_5, e_60_8, e_60_9, e_60_12, e_60_13, e_60_16, e_60_17, e_60_18, e_60_20, e_60_21, e_60_23, e_60_25, e_60_26, e_60_29, e_60_32, e_60_35, e_60_36, m1, m2, hA, true_and, moO_c, moO_g0, moO_k0, moO_g1, moO_k1, moO_g2, moO_k2, moO_g3, moO_k3, moO_s0, moO_s1, moO_s2, moO_s3, hoO_c, hoO_g0, hoO_k0, hoO_g1, hoO_k1, hoO_g2, hoO_k2, hoO_g3, hoO_k3, hoO_g4, hoO_k4, hoO_g5, hoO_k5, hoO_g6, hoO_k6, hoO_g7, hoO_k7, hoO_g8, hoO_k8, hoO_g9, hoO_k9, hoO_s0, hoO_s1, hoO_s2, hoO_s9, iup_s, iup_n, hp_up1, hp_upn, ne_eq, not_false_eq_true, sh_0, sh_1, sh_2, sh_3, sh_4, sh_5, sh_8, sh_15, sh_16, sh_24, Int.reducePow, Int.cast_ofNat_Int, w_of, wl_of, ltT, ltF, leT, leF, eqT, eqF, okF_0, okF_s, gF_0, gF_s, consC_o, sF_0, sF_s, clsO_o, inA_i, ldA_i, stA_i, inJ_l, ldJ_l, stJ_l, inR_r, ldR_r, stR_r, tgR_r, lenA_i, lenA_l, lenA_r, lenA_ex, nl_i, nl_o, nl_l, nl_n, wd_n, wd_i, wd_l, wd_o, fit_i, fit_l, fit_o, K_v, K_n, true_and, and_true, Nat.reduceAdd, Nat.reduceLeDiff, Nat.reduceEqDiff, Nat.reduceMul, Nat.reduceLT, reduceIte, true_or, or_true, cmp_lt, cmp_gt, cmp_eq, wb_0, b_01, cmp_lt', cmp_gt', cmp_eq', b_0, b_1, wb_1, Int.reduceSub, Int.reduceToNat, List.getD_cons_succ, List.getD_cons_zero, Int.reduceLE, Int.reduceLT, Int.reduceEq, Int.reduceNeg, Int.reduceAdd, Int.reduceMul, and_self, em_b, ne_eq, not_false_eq_true, not_true_eq_false]
      try rfl
  · rw [if_neg q1, if_neg q1]
    have q1' : x < 20 ∨ 29 < x := by omega
    by_cases q2 : 30 ≤ x ∧ x ≤ 39
    · rw [if_pos q2, if_pos q2, if_pos rfl]
      obtain ⟨p, hp'⟩ : ∃ p : Nat, x = 30 + (p : Int) := ⟨(x - 30).toNat, by omega⟩
      subst hp'
      have ep : (30 + (p : Int) - 30).toNat = p := by omega
      have ep2 : (30 + (p : Int)) - 30 = (p : Int) := by omega
      rw [ep]
      obtain ⟨u1, u2, u3⟩ := upd (iup i 2 p)
      refine ⟨_, ca0, sky0, e, by omega, u1, u2, ⟨_, hp_up1, by rw [iup_n (by omega)]; exact m2, iup_s, by rw [iup_n (by omega)]; exact m4, ⟨m5.1, by show p < 10; omega⟩, u3⟩, fun d Q => ?_⟩
      simp (disch := omega) only [e_60_0, e_60_1, e_60_4, e_60_5, e_60_8, e_60_9, e_60_12, e_60_13, e_60_56, e_60_57, e_60_60, e_60_61, e_60_64, e_60_65, e_60_68, e_60_69, e_60_72, e_60_73, e_60_74, e_60_75, e_60_77, e_60_78, e_60_81, e_60_82, m1, m2, ep2, ha, true_and, moO_c, moO_g0, moO_k0, moO_g1, moO_k1, moO_g2, moO_k2, moO_g3, moO_k3, moO_s0, moO_s1, moO_s2, moO_s3, hoO_c, hoO_g0, hoO_k0, hoO_g1, hoO_k1, hoO_g2, hoO_k2, hoO_g3, hoO_k3, hoO_g4, hoO_k4, hoO_g5, hoO_k5, hoO_g6, hoO_k6, hoO_g7, hoO_k7, hoO_g8, hoO_k8, hoO_g9, hoO_k9, hoO_s0, hoO_s1, hoO_s2, hoO_s9, iup_s, iup_n, hp_up1, hp_upn, ne_eq, not_false_eq_true, sh_0, sh_1, sh_2, sh_3, sh_4, sh_5, sh_8, sh_15, sh_16, sh_24, Int.reducePow, Int.cast_ofNat_Int, w_of, wl_of, ltT, ltF, leT, leF, eqT, eqF, okF_0, okF_s, gF_0, gF_s, consC_o, sF_0, sF_s, clsO_o, inA_i, ldA_i, stA_i, inJ_l, ldJ_l, stJ_l, inR_r, ldR_r, stR_r, tgR_r, lenA_i, lenA_l, lenA_r, lenA_ex, nl_i, nl_o, nl_l, nl_n, wd_n, wd_i, wd_l, wd_o, fit_i, fit_l, fit_o, K_v, K_n, true_and, and_true, Nat.reduceAdd, Nat.reduceLeDiff, Nat.reduceEqDiff, Nat.reduceMul, Nat.reduceLT, reduceIte, true_or, or_true, cmp_lt, cmp_gt, cmp_eq, wb_0, b_01, cmp_lt', cmp_gt', cmp_eq', b_0, b_1, wb_1, Int.reduceSub, Int.reduceToNat, List.getD_cons_succ, List.getD_cons_zero, Int.reduceLE, Int.reduceLT, Int.reduceEq, Int.reduceNeg, Int.reduceAdd, Int.reduceMul, and_self, em_b, ne_eq, not_false_eq_true, not_true_eq_false]
      try rfl
    · rw [if_neg q2, if_neg q2]
      have q2' : x < 30 ∨ 39 < x := by omega
      clear q1 q2
      -- to pc 83
      have to83 : ∀ d Q, WP (d + 10) 60 0 [some (vr a), some (vr 27), some (vl x), none, none] [] h Q = WP (d + 10) 60 83 [some (vr a), some (vr 27), some (vl x), none, none] [] h Q := by
        intro d Q
        rcases q1' with g | g
        · simp (disch := omega) only [e_60_0, e_60_1, e_60_4, e_60_5, e_60_56, e_60_57, e_60_60, e_60_61, moO_c, moO_g0, moO_k0, moO_g1, moO_k1, moO_g2, moO_k2, moO_g3, moO_k3, moO_s0, moO_s1, moO_s2, moO_s3, hoO_c, hoO_g0, hoO_k0, hoO_g1, hoO_k1, hoO_g2, hoO_k2, hoO_g3, hoO_k3, hoO_g4, hoO_k4, hoO_g5, hoO_k5, hoO_g6, hoO_k6, hoO_g7, hoO_k7, hoO_g8, hoO_k8, hoO_g9, hoO_k9, hoO_s0, hoO_s1, hoO_s2, hoO_s9, iup_s, iup_n, hp_up1, hp_upn, ne_eq, not_false_eq_true, sh_0, sh_1, sh_2, sh_3, sh_4, sh_5, sh_8, sh_15, sh_16, sh_24, Int.reducePow, Int.cast_ofNat_Int, w_of, wl_of, ltT, ltF, leT, leF, eqT, eqF, okF_0, okF_s, gF_0, gF_s, consC_o, sF_0, sF_s, clsO_o, inA_i, ldA_i, stA_i, inJ_l, ldJ_l, stJ_l, inR_r, ldR_r, stR_r, tgR_r, lenA_i, lenA_l, lenA_r, lenA_ex, nl_i, nl_o, nl_l, nl_n, wd_n, wd_i, wd_l, wd_o, fit_i, fit_l, fit_o, K_v, K_n, true_and, and_true, Nat.reduceAdd, Nat.reduceLeDiff, Nat.reduceEqDiff, Nat.reduceMul, Nat.reduceLT, reduceIte, true_or, or_true, cmp_lt, cmp_gt, cmp_eq, wb_0, b_01, cmp_lt', cmp_gt', cmp_eq', b_0, b_1, wb_1, Int.reduceSub, Int.reduceToNat, List.getD_cons_succ, List.getD_cons_zero, Int.reduceLE, Int.reduceLT, Int.reduceEq, Int.reduceNeg, Int.reduceAdd, Int.reduceMul, and_self, em_b, ne_eq, not_false_eq_true, not_true_eq_false]
          try rfl
        · rcases q2' with g2 | g2
          · omega
          · simp (disch := omega) only [e_60_0, e_60_1, e_60_4, e_60_5, e_60_8, e_60_9, e_60_12, e_60_13, e_60_56, e_60_57, e_60_60, e_60_61, e_60_64, e_60_65, e_60_68, e_60_69, moO_c, moO_g0, moO_k0, moO_g1, moO_k1, moO_g2, moO_k2, moO_g3, moO_k3, moO_s0, moO_s1, moO_s2, moO_s3, hoO_c, hoO_g0, hoO_k0, hoO_g1, hoO_k1, hoO_g2, hoO_k2, hoO_g3, hoO_k3, hoO_g4, hoO_k4, hoO_g5, hoO_k5, hoO_g6, hoO_k6, hoO_g7, hoO_k7, hoO_g8, hoO_k8, hoO_g9, hoO_k9, hoO_s0, hoO_s1, hoO_s2, hoO_s9, iup_s, iup_n, hp_up1, hp_upn, ne_eq, not_false_eq_true, sh_0, sh_1, sh_2, sh_3, sh_4, sh_5, sh_8, sh_15, sh_16, sh_24, Int.reducePow, Int.cast_ofNat_Int, w_of, wl_of, ltT, ltF, leT, leF, eqT, eqF, okF_0, okF_s, gF_0, gF_s, consC_o, sF_0, sF_s, clsO_o, inA_i, ldA_i, stA_i, inJ_l, ldJ_l, stJ_l, inR_r, ldR_r, stR_r, tgR_r, lenA_i, lenA_l, lenA_r, lenA_ex, nl_i, nl_o, nl_l, nl_n, wd_n, wd_i, wd_l, wd_o, fit_i, fit_l, fit_o, K_v, K_n, true_and, and_true, Nat.reduceAdd, Nat.reduceLeDiff, Nat.reduceEqDiff, Nat.reduceMul, Nat.reduceLT, reduceIte, true_or, or_true, cmp_lt, cmp_gt, cmp_eq, wb_0, b_01, cmp_lt', cmp_gt', cmp_eq', b_0, b_1, wb_1, Int.reduceSub, Int.reduceToNat, List.getD_cons_succ, List.getD_cons_zero, Int.reduceLE, Int.reduceLT, Int.reduceEq, Int.reduceNeg, Int.reduceAdd, Int.reduceMul, and_self, em_b, ne_eq, not_false_eq_true, not_true_eq_false]
            try rfl
      obtain ⟨e', h1, b1, b2, b3, b4⟩ := H_use (sky' := z.2.1) hF hH m6 (fun w => by rw [← hkc, w]) m5.2 he
      have hF1 := chg_F b2 hF
      obtain ⟨h2, c1, c2, c3⟩ := H_whyNot (x := x) hF1 b3 m5.1 ⟨hx1, hx2⟩
      have hF2 := chg_F c1 hF1
      have hm2 : hp h2 a = moO i (vr ca) := by rw [chg_at (chg_t b2 c1) rfl (fun w => ht1 (List.mem_singleton.mp w))]; exact m1
      have hm1 : hp h1 a = moO i (vr ca) := by rw [chg_at b2 rfl (fun w => ht1 (List.mem_singleton.mp w))]; exact m1
      obtain ⟨iy, h27⟩ : ∃ i, hp h 27 = hoO i (vr ca0) := by obtain ⟨i, A, a1, _⟩ := hH; exact ⟨i, a1⟩
      obtain ⟨iz, g27⟩ : ∃ i, hp h1 27 = hoO i (vr ca) := by obtain ⟨i, A, a1, _⟩ := b3; exact ⟨i, a1⟩
      obtain ⟨ix, k27⟩ : ∃ i, hp h2 27 = hoO i (vr ca) := by obtain ⟨i, A, a1, _⟩ := c2; exact ⟨i, a1⟩
      have hKC2 : KCty ow h2 ca c := by obtain ⟨_, _, _, _, _, _, _, _, _, _, a9⟩ := c2; exact a9
      have hwl : whyD c z.2.1 z.1 x ≤ 4 := by
        unfold whyD
        split
        · omega
        · unfold whyM
          repeat' split
          all_goals omega
      by_cases hw : whyD c z.2.1 z.1 x = 0
      · obtain ⟨m, hm, hc⟩ := why_can hK hw
        obtain ⟨h3, d1, d2, d3⟩ := H_after (x := x) hF2 c2 m5.1 ⟨hx1, hx2⟩
        have ea : afterO c z.2.1 z.1 x = some (toM c z.2.1 z.1 m) := by unfold afterO; rw [hm]; dsimp only; rw [if_pos hc]
        rw [ea] at d3
        have hF3 := chg_F d1 hF2
        have hm3 : hp h3 a = moO i (vr ca) := by rw [chg_at d1 rfl (fun w => ht1 (List.mem_singleton.mp w))]; exact hm2
        have hch : chg ow [ow a] h3 (hup h3 a (moO (iup (iup i 1 (encC c (toM c z.2.1 z.1 m))) 3 ((z.2.2 : Int) + 1)) (vr ca))) := chg_up rfl (by simp)
        have n0 : ¬ 0 ∈ [ow a] := fun w => ht0 (List.mem_singleton.mp w).symm
        have n1 : ¬ 1 ∈ [ow a] := fun w => ht1 (List.mem_singleton.mp w).symm
        have hH3 : HoP ow (hup h3 a (moO (iup (iup i 1 (encC c (toM c z.2.1 z.1 m))) 3 ((z.2.2 : Int) + 1)) (vr ca))) ca (kc ca) z.2.1 e' := by rw [hkc]; exact HoP_c hF3 hch n0 n1 d2
        have hKC3 : KCty ow h3 ca c := by obtain ⟨_, _, _, _, _, _, _, _, _, _, a9⟩ := d2; exact a9
        have hto : okS c (toM c z.2.1 z.1 m) := toM_ok m5.1 (canM_mv hc)
        rw [hw, if_pos rfl, hm, show ((some m : Option Nat).getD 0) = m from rfl]
        refine ⟨_, ca, z.2.1, e', b1, chg_t (chg_w (chg_t b2 (chg_t c1 d1)) (by simp)) (chg_w hch (by simp)), hH3, ⟨_, hp_up1, by rw [iup_n (by omega), iup_s], by rw [iup_n (by omega), iup_n (by omega)]; exact m3, by rw [iup_s]; show (z.2.2 : Int) + 1 = ((z.2.2 + 1 : Nat) : Int); omega, ⟨hto, m5.2⟩, KCty_c hch n0 hKC3⟩, fun d Q => ?_⟩
        rw [to83 d Q]
        rw [hw] at c3
        have b4' := fun (d : Nat) (Q : PQ) => b4 d Q
        have c3' := fun (Q : PQ) => c3 d Q
        have d3' := fun (Q : PQ) => d3 d Q
        simp only [encO] at d3'
        simp (disch := omega) only [e_60_83, e_60_84, e_60_85, e_60_88, e_60_89, e_60_92, e_60_95, e_60_96, e_60_97, e_60_100, e_60_101, e_60_104, e_60_106, e_60_108, e_60_111, e_60_112, e_60_113, e_60_114, e_60_117, e_60_118, e_60_121, e_60_124, e_60_125i, e_60_125a, e_60_126, e_60_129, e_60_130, e_60_131, e_60_134, e_60_136, m1, m2, m3, m4, h27, g27, k27, hm1, hm2, hm3, b4', c3', d3', ha, hup_tt, true_and, nc0, moO_c, moO_g0, moO_k0, moO_g1, moO_k1, moO_g2, moO_k2, moO_g3, moO_k3, moO_s0, moO_s1, moO_s2, moO_s3, hoO_c, hoO_g0, hoO_k0, hoO_g1, hoO_k1, hoO_g2, hoO_k2, hoO_g3, hoO_k3, hoO_g4, hoO_k4, hoO_g5, hoO_k5, hoO_g6, hoO_k6, hoO_g7, hoO_k7, hoO_g8, hoO_k8, hoO_g9, hoO_k9, hoO_s0, hoO_s1, hoO_s2, hoO_s9, iup_s, iup_n, hp_up1, hp_upn, ne_eq, not_false_eq_true, sh_0, sh_1, sh_2, sh_3, sh_4, sh_5, sh_8, sh_15, sh_16, sh_24, Int.reducePow, Int.cast_ofNat_Int, w_of, wl_of, ltT, ltF, leT, leF, eqT, eqF, okF_0, okF_s, gF_0, gF_s, consC_o, sF_0, sF_s, clsO_o, inA_i, ldA_i, stA_i, inJ_l, ldJ_l, stJ_l, inR_r, ldR_r, stR_r, tgR_r, lenA_i, lenA_l, lenA_r, lenA_ex, nl_i, nl_o, nl_l, nl_n, wd_n, wd_i, wd_l, wd_o, fit_i, fit_l, fit_o, K_v, K_n, true_and, and_true, Nat.reduceAdd, Nat.reduceLeDiff, Nat.reduceEqDiff, Nat.reduceMul, Nat.reduceLT, reduceIte, true_or, or_true, cmp_lt, cmp_gt, cmp_eq, wb_0, b_01, cmp_lt', cmp_gt', cmp_eq', b_0, b_1, wb_1, Int.reduceSub, Int.reduceToNat, List.getD_cons_succ, List.getD_cons_zero, Int.reduceLE, Int.reduceLT, Int.reduceEq, Int.reduceNeg, Int.reduceAdd, Int.reduceMul, and_self, em_b, ne_eq, not_false_eq_true, not_true_eq_false]
        try rfl
      · rw [if_neg hw]
        refine ⟨h2, ca, z.2.1, e', b1, chg_w (chg_t b2 c1) (by simp), by rw [hkc]; exact c2, ⟨i, hm2, m2, m3, m4, m5, hKC2⟩, fun d Q => ?_⟩
        rw [to83 d Q]
        have b4' := fun (d : Nat) (Q : PQ) => b4 d Q
        have c3' := fun (Q : PQ) => c3 d Q
        simp (disch := omega) only [e_60_83, e_60_84, e_60_85, e_60_88, e_60_89, e_60_92, e_60_95, e_60_96, e_60_97, e_60_100, e_60_101, e_60_104, e_60_106, e_60_108, e_60_134, e_60_136, m1, m2, m3, m4, h27, g27, k27, hm1, hm2, b4', c3', true_and, moO_c, moO_g0, moO_k0, moO_g1, moO_k1, moO_g2, moO_k2, moO_g3, moO_k3, moO_s0, moO_s1, moO_s2, moO_s3, hoO_c, hoO_g0, hoO_k0, hoO_g1, hoO_k1, hoO_g2, hoO_k2, hoO_g3, hoO_k3, hoO_g4, hoO_k4, hoO_g5, hoO_k5, hoO_g6, hoO_k6, hoO_g7, hoO_k7, hoO_g8, hoO_k8, hoO_g9, hoO_k9, hoO_s0, hoO_s1, hoO_s2, hoO_s9, iup_s, iup_n, hp_up1, hp_upn, ne_eq, not_false_eq_true, sh_0, sh_1, sh_2, sh_3, sh_4, sh_5, sh_8, sh_15, sh_16, sh_24, Int.reducePow, Int.cast_ofNat_Int, w_of, wl_of, ltT, ltF, leT, leF, eqT, eqF, okF_0, okF_s, gF_0, gF_s, consC_o, sF_0, sF_s, clsO_o, inA_i, ldA_i, stA_i, inJ_l, ldJ_l, stJ_l, inR_r, ldR_r, stR_r, tgR_r, lenA_i, lenA_l, lenA_r, lenA_ex, nl_i, nl_o, nl_l, nl_n, wd_n, wd_i, wd_l, wd_o, fit_i, fit_l, fit_o, K_v, K_n, true_and, and_true, Nat.reduceAdd, Nat.reduceLeDiff, Nat.reduceEqDiff, Nat.reduceMul, Nat.reduceLT, reduceIte, true_or, or_true, cmp_lt, cmp_gt, cmp_eq, wb_0, b_01, cmp_lt', cmp_gt', cmp_eq', b_0, b_1, wb_1, Int.reduceSub, Int.reduceToNat, List.getD_cons_succ, List.getD_cons_zero, Int.reduceLE, Int.reduceLT, Int.reduceEq, Int.reduceNeg, Int.reduceAdd, Int.reduceMul, and_self, em_b, ne_eq, not_false_eq_true, not_true_eq_false]
        try rfl
