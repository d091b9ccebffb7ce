/-! THE CLASS: Coming, its methods -/
theorem C_searchOn {ow : Nat → Nat} {h : PH} {ca : Nat} {c : KC} {sky e sr k : Nat} {s0 : ST} {q g n : Nat} {QL : List QE} {i : Nat → Int} {fq fg : Int → Int} (hF : owF ow h) (hH : HoP ow h ca c sky e) (hn : szC c ≤ n) (hC : comH h i ca q g n fq fg) (hW : comW ow h q g n) (hQ : comQ c QL i fq fg sr) (hb : bfsI c sky s0 QL sr 0) (hk : k < QL.length) (hks : k ≤ sr) (hsl : sr ≤ QL.length) :
    ∃ (h' : PH) (QL' : List QE) (i' : Nat → Int) (fq' fg' : Int → Int) (sr' : Nat), chg ow [1, 3] h h' ∧ HoP ow h' ca c sky e ∧ comH h' i' ca q g n fq' fg' ∧ comQ c QL' i' fq' fg' sr' ∧ bfsI c sky s0 QL' sr' 0 ∧ (∀ (j : Nat) e, QL[j]? = some e → QL'[j]? = some e) ∧ k < sr' ∧ sr ≤ sr' ∧ sr' ≤ QL'.length ∧ i' 1 = i 1 ∧ i' 2 = i 2 ∧ ∀ d Q, WP (d + 9) 11 0 [some (vr 38), some (vr 27), some (vi k), none, none, none] [] h Q = Q none h' := by
  obtain ⟨hO⟩ : Nonempty (okC c) := by obtain ⟨_, _, _, _, _, _, _, _, _, _, a9⟩ := hH; exact ⟨a9.2.1⟩
  have hK := hO.1
  have h24 := szC_le hK
  have hql := bfs_len hK hb
  have q2 := hQ.2.1
  obtain ⟨c1, c2, c3⟩ := hC
  have hW' := hW
  obtain ⟨w1, w2, w3, w4, w5, w6, w7, w8⟩ := hW
  by_cases hlt : k < sr
  · refine ⟨h, QL, i, fq, fg, sr, chg_r, hH, ⟨c1, c2, c3⟩, hQ, hb, fun _ _ z => z, hlt, Nat.le_refl _, hsl, rfl, rfl, fun d Q => ?_⟩
    simp (disch := omega) only [e_11_0, e_11_1, e_11_2, e_11_5, e_11_8, c1, q2, cmO_c, cmO_g0, cmO_k0, cmO_g1, cmO_k1, cmO_g2, cmO_k2, cmO_g3, cmO_k3, cmO_g4, cmO_k4, cmO_g5, cmO_k5, cmO_g6, cmO_k6, cmO_s0, cmO_s1, cmO_s2, cmO_s3, cmO_s4, cmO_s5, cmO_s6, hoO_c, hoO_g0, hoO_k0, hoO_g1, hoO_k1, hoO_g2, hoO_k2, hoO_g3, hoO_k3, hoO_g4, hoO_k4, hoO_g5, hoO_k5, hoO_g6, hoO_k6, hoO_g7, hoO_k7, hoO_g8, hoO_k8, hoO_g9, hoO_k9, hoO_s0, hoO_s1, hoO_s2, hoO_s9, iup_s, iup_n, hp_up1, hp_upn, ne_eq, not_false_eq_true, sh_0, sh_1, sh_2, sh_3, sh_4, sh_5, sh_8, sh_15, sh_16, sh_24, Int.reducePow, Int.cast_ofNat_Int, w_of, wl_of, ltT, ltF, leT, leF, eqT, eqF, okF_0, okF_s, gF_0, gF_s, consC_o, sF_0, sF_s, clsO_o, inA_i, ldA_i, stA_i, inJ_l, ldJ_l, stJ_l, inR_r, ldR_r, stR_r, tgR_r, lenA_i, lenA_l, lenA_r, lenA_ex, nl_i, nl_o, nl_l, nl_n, wd_n, wd_i, wd_l, wd_o, fit_i, fit_l, fit_o, K_v, K_n, true_and, and_true, Nat.reduceAdd, Nat.reduceLeDiff, Nat.reduceEqDiff, Nat.reduceMul, Nat.reduceLT, reduceIte, true_or, or_true, cmp_lt, cmp_gt, cmp_eq, wb_0, b_01, cmp_lt', cmp_gt', cmp_eq', b_0, b_1, wb_1, Int.reduceSub, Int.reduceToNat, List.getD_cons_succ, List.getD_cons_zero, Int.reduceLE, Int.reduceLT, Int.reduceEq, Int.reduceNeg, Int.reduceAdd, Int.reduceMul, and_self, em_b, ne_eq, not_false_eq_true, not_true_eq_false]
  · have hkr : k = sr := by omega
    subst hkr
    have hu : QL[k]? = some QL[k] := List.getElem?_eq_getElem hk
    generalize QL[k] = u at hu
    have huo := hb.2.1 u (List.mem_of_getElem? hu)
    have h3 := hQ.2.2.1 k u hu
    have hch : chg ow [3] h (hup h 38 (cmO (iup i 6 ((k + 1 : Nat) : Int)) (vr ca) (vr q) (vr g))) := chg_up (tg_38 hF) (by decide)
    have hF1 := chg_F hch hF
    obtain ⟨h1, a1, a2, a3, a4⟩ := H_spread hF1 (HoP_c hF hch (by decide) (by decide) hH) huo
    have e38 : hp h1 38 = cmO (iup i 6 ((k + 1 : Nat) : Int)) (vr ca) (vr q) (vr g) := by rw [chg_at a1 (tg_38 hF) (by decide), hp_up1]
    have eq : hp h1 q = aI 0 n fq := by rw [chg_at a1 w1 (by decide), hp_upn (by omega)]; exact c2
    have eg : hp h1 g = aI 0 n fg := by rw [chg_at a1 w2 (by decide), hp_upn (by omega)]; exact c3
    have e1 := a1.1
    have hQ1 : comQ c QL (iup i 6 ((k + 1 : Nat) : Int)) fq fg (k + 1) := ⟨by rw [iup_n (by omega)]; exact hQ.1, iup_s, hQ.2.2.1, hQ.2.2.2.1, hQ.2.2.2.2⟩
    obtain ⟨h', QL', i', fq', fg', b1, b2, b3, b4, b5, b6, b7, b8⟩ := c_onLp (k := (k : Int)) (L := nx c sky u.1) rfl hO hn (by omega) (by omega) (nx c sky u.1).length 0 h1 QL (iup i 6 ((k + 1 : Nat) : Int)) fq fg none (by omega) (chg_F a1 hF1) a2 a3 ⟨e38, eq, eg⟩ ⟨w1, w2, w3, w4, w5, by rw [e1]; exact w6, by rw [e1]; exact w7, w8⟩ hQ1 hb hu
    have hlen' : QL.length ≤ QL'.length := by
      have := b5 (QL.length - 1) _ (List.getElem?_eq_getElem (by omega))
      have := (List.getElem?_eq_some_iff.mp this).1
      omega
    refine ⟨h', QL', i', fq', fg', k + 1, chg_t (chg_t (chg_w hch (by decide)) (chg_w a1 (by decide))) (chg_w b1 (by decide)), HoP_c (chg_F a1 hF1) b1 (by decide) (by decide) a2, b2, b3, b4, b5, by omega, by omega, by omega, by rw [b6, iup_n (by omega)], by rw [b7, iup_n (by omega)], fun d Q => ?_⟩
    have b8' := b8 (d + 9) Q
    rw [nc0] at b8'
    rw [← b8']
    have e6 : (k : Int) + 1 = ((k + 1 : Nat) : Int) := by omega
    have a4' := fun (Q : PQ) => a4 d Q
    obtain ⟨ih, hh27⟩ : ∃ i, hp h 27 = hoO i (vr ca) := by obtain ⟨i, A, a1, _⟩ := hH; exact ⟨i, a1⟩
    simp (disch := omega) only [e_11_0, e_11_1, e_11_2, e_11_5, e_11_8, e_11_9, e_11_10, e_11_11, e_11_12, e_11_13, e_11_16, e_11_17, e_11_20, e_11_21, e_11_22, e_11_23, e_11_24, e_11_25, e_11_28, e_11_29, c1, c2, q2, e6, h3, a4', hh27, true_and, cmO_c, cmO_g0, cmO_k0, cmO_g1, cmO_k1, cmO_g2, cmO_k2, cmO_g3, cmO_k3, cmO_g4, cmO_k4, cmO_g5, cmO_k5, cmO_g6, cmO_k6, cmO_s0, cmO_s1, cmO_s2, cmO_s3, cmO_s4, cmO_s5, cmO_s6, hoO_c, hoO_g0, hoO_k0, hoO_g1, hoO_k1, hoO_g2, hoO_k2, hoO_g3, hoO_k3, hoO_g4, hoO_k4, hoO_g5, hoO_k5, hoO_g6, hoO_k6, hoO_g7, hoO_k7, hoO_g8, hoO_k8, hoO_g9, hoO_k9, hoO_s0, hoO_s1, hoO_s2, hoO_s9, iup_s, iup_n, hp_up1, hp_upn, ne_eq, not_false_eq_true, sh_0, sh_1, sh_2, sh_3, sh_4, sh_5, sh_8, sh_15, sh_16, sh_24, Int.reducePow, Int.cast_ofNat_Int, w_of, wl_of, ltT, ltF, leT, leF, eqT, eqF, okF_0, okF_s, gF_0, gF_s, consC_o, sF_0, sF_s, clsO_o, inA_i, ldA_i, stA_i, inJ_l, ldJ_l, stJ_l, inR_r, ldR_r, stR_r, tgR_r, lenA_i, lenA_l, lenA_r, lenA_ex, nl_i, nl_o, nl_l, nl_n, wd_n, wd_i, wd_l, wd_o, fit_i, fit_l, fit_o, K_v, K_n, true_and, and_true, Nat.reduceAdd, Nat.reduceLeDiff, Nat.reduceEqDiff, Nat.reduceMul, Nat.reduceLT, reduceIte, true_or, or_true, cmp_lt, cmp_gt, cmp_eq, wb_0, b_01, cmp_lt', cmp_gt', cmp_eq', b_0, b_1, wb_1, Int.reduceSub, Int.reduceToNat, List.getD_cons_succ, List.getD_cons_zero, Int.reduceLE, Int.reduceLT, Int.reduceEq, Int.reduceNeg, Int.reduceAdd, Int.reduceMul, and_self, em_b, ne_eq, not_false_eq_true, not_true_eq_false]
    try rfl
/-- a search that stands for a county, a weather and a beginning -/
def ComV (ow : Nat → Nat) (h : PH) (ca : Nat) (c : KC) (sky : Nat) (s0 : ST) (QL : List QE) (sr n : Nat) : Prop := ∃ (i : Nat → Int) (q g : Nat) (fq fg : Int → Int), comH h i ca q g n fq fg ∧ comW ow h q g n ∧ szC c ≤ n ∧ comQ c QL i fq fg sr ∧ bfsI c sky s0 QL sr 0 ∧ sr ≤ QL.length ∧ i 1 = (sky : Int) ∧ i 2 = (encC c s0 : Int)
theorem V_searchOn {ow : Nat → Nat} {h : PH} {ca : Nat} {c : KC} {sky e sr k : Nat} {s0 : ST} {n : Nat} {QL : List QE} (hF : owF ow h) (hH : HoP ow h ca c sky e) (hV : ComV ow h ca c sky s0 QL sr n) (hk : k < QL.length) (hks : k ≤ sr) :
    ∃ (h' : PH) (QL' : List QE) (sr' : Nat), chg ow [1, 3] h h' ∧ HoP ow h' ca c sky e ∧ ComV ow h' ca c sky s0 QL' sr' n ∧ (∀ (j : Nat) e, QL[j]? = some e → QL'[j]? = some e) ∧ k < sr' ∧ ∀ d Q, WP (d + 9) 11 0 [some (vr 38), some (vr 27), some (vi k), none, none, none] [] h Q = Q none h' := by
  obtain ⟨i, q, g, fq, fg, v1, v2, v3, v4, v5, v6, v7, v8⟩ := hV
  obtain ⟨h', QL', i', fq', fg', sr', b1, b2, b3, b4, b5, b6, b7, b8, b9, b10, b11, b12⟩ := C_searchOn hF hH v3 v1 v2 v4 v5 hk hks v6
  have e1 := b1.1
  exact ⟨h', QL', sr', b1, b2, ⟨i', q, g, fq', fg', b3, ⟨v2.1, v2.2.1, v2.2.2.1, v2.2.2.2.1, v2.2.2.2.2.1, by rw [e1]; exact v2.2.2.2.2.2.1, by rw [e1]; exact v2.2.2.2.2.2.2.1, v2.2.2.2.2.2.2.2⟩, v3, b4, b5, b9, by rw [b10]; exact v7, by rw [b11]; exact v8⟩, b6, b7, b12⟩
theorem V_len {ow : Nat → Nat} {h : PH} {ca : Nat} {c : KC} {sky sr : Nat} {s0 : ST} {n : Nat} {QL : List QE} (hK : okK c) (hV : ComV ow h ca c sky s0 QL sr n) : QL.length ≤ szC c ∧ sr ≤ QL.length ∧ 0 < QL.length := by
  obtain ⟨i, q, g, fq, fg, v1, v2, v3, v4, v5, v6, v7, v8⟩ := hV
  exact ⟨bfs_len hK v5, v6, (List.getElem?_eq_some_iff.mp v5.1).1⟩
/-- what find tells -/
def findR (c : KC) (sky : Nat) (G : ST → Prop) (s0 : ST) (QL : List QE) (v : Int) : Prop := (v = -1 ∧ ∀ n, ¬ rchG c sky G n s0) ∨ ∃ (j : Nat) (e : QE) (R : List Nat), QL[j]? = some e ∧ v = (encC c e.1 : Int) ∧ rpQ QL j R ∧ isGP c sky G s0 R.reverse
theorem C_find {ow : Nat → Nat} {ca : Nat} {c : KC} {sky e : Nat} {s0 : ST} {n k : Nat} {p : Int} (hO : okC c) (hk : k < 5) (hp1 : -1 ≤ p) (hp2 : p < 5) :
    ∀ (r j : Nat) (h : PH) (QL : List QE) (sr : Nat) (o5 : Option PV), j + r = 24001 → owF ow h → HoP ow h ca c sky e → ComV ow h ca c sky s0 QL sr n → j ≤ sr → (∀ (a : Nat) (x : QE), a < j → QL[a]? = some x → ¬ goalP c k p x.1) →
    ∃ (h' : PH) (QL' : List QE) (sr' : Nat) (v : Int), chg ow [1, 3] h h' ∧ HoP ow h' ca c sky e ∧ ComV ow h' ca c sky s0 QL' sr' n ∧ findR c sky (goalP c k p) s0 QL' v ∧ ∀ d Q, WP (d + 10) 12 3 [some (vr 38), some (vr 27), some (vi k), some (vi p), some (vi j), o5] [] h Q = Q (some (vi v)) h' := by
  have hK := hO.1
  have h24 := szC_le hK
  intro r
  induction r with
  | zero =>
    intro j h QL sr o5 hj hF hH hV hjs hno
    have := V_len hK hV
    omega
  | succ r ih =>
    intro j h QL sr o5 hj hF hH hV hjs hno
    have hV' := hV
    have hvl := V_len hK hV
    obtain ⟨i, q, g, fq, fg, v1, v2, v3, v4, v5, v6, v7, v8⟩ := hV
    obtain ⟨c1, c2, c3⟩ := v1
    obtain ⟨hKC⟩ : Nonempty (KCty ow h ca c) := by obtain ⟨_, _, _, _, _, _, _, _, _, _, a9⟩ := hH; exact ⟨a9⟩
    obtain ⟨y4, y5, y6, y7, y8, y9, y10, y11, y14, y15, y17, hA⟩ := KCty_sz hKC
    have q1 := v4.1
    by_cases hend : j = QL.length
    · have hsr : sr = QL.length := by omega
      subst hsr
      refine ⟨h, QL, QL.length, -1, chg_r, hH, hV', Or.inl ⟨rfl, bfs_none v5 (fun a x hx => hno a x (by rw [hend]; exact (List.getElem?_eq_some_iff.mp hx).1) hx)⟩, fun d Q => ?_⟩
      rw [e_12_3]
      simp (disch := omega) only [e_12_5, e_12_6, e_12_9, e_12_92, e_12_93, c1, q1, cmO_c, cmO_g0, cmO_k0, cmO_g1, cmO_k1, cmO_g2, cmO_k2, cmO_g3, cmO_k3, cmO_g4, cmO_k4, cmO_g5, cmO_k5, cmO_g6, cmO_k6, cmO_s0, cmO_s1, cmO_s2, cmO_s3, cmO_s4, cmO_s5, cmO_s6, hoO_c, hoO_g0, hoO_k0, hoO_g1, hoO_k1, hoO_g2, hoO_k2, hoO_g3, hoO_k3, hoO_g4, hoO_k4, hoO_g5, hoO_k5, hoO_g6, hoO_k6, hoO_g7, hoO_k7, hoO_g8, hoO_k8, hoO_g9, hoO_k9, hoO_s0, hoO_s1, hoO_s2, hoO_s9, iup_s, iup_n, hp_up1, hp_upn, ne_eq, not_false_eq_true, sh_0, sh_1, sh_2, sh_3, sh_4, sh_5, sh_8, sh_15, sh_16, sh_24, Int.reducePow, Int.cast_ofNat_Int, w_of, wl_of, ltT, ltF, leT, leF, eqT, eqF, okF_0, okF_s, gF_0, gF_s, consC_o, sF_0, sF_s, clsO_o, inA_i, ldA_i, stA_i, inJ_l, ldJ_l, stJ_l, inR_r, ldR_r, stR_r, tgR_r, lenA_i, lenA_l, lenA_r, lenA_ex, nl_i, nl_o, nl_l, nl_n, wd_n, wd_i, wd_l, wd_o, fit_i, fit_l, fit_o, K_v, K_n, true_and, and_true, Nat.reduceAdd, Nat.reduceLeDiff, Nat.reduceEqDiff, Nat.reduceMul, Nat.reduceLT, reduceIte, true_or, or_true, cmp_lt, cmp_gt, cmp_eq, wb_0, b_01, cmp_lt', cmp_gt', cmp_eq', b_0, b_1, wb_1, Int.reduceSub, Int.reduceToNat, List.getD_cons_succ, List.getD_cons_zero, Int.reduceLE, Int.reduceLT, Int.reduceEq, Int.reduceNeg, Int.reduceAdd, Int.reduceMul, and_self, em_b, ne_eq, not_false_eq_true, not_true_eq_false]
    · have hjl : j < QL.length := by omega
      have hu : QL[j]? = some QL[j] := List.getElem?_eq_getElem hjl
      generalize QL[j] = u at hu
      have huo := v5.2.1 u (List.mem_of_getElem? hu)
      have h3 := v4.2.2.1 j u hu
      have dn := fun (d : Nat) (Q : PQ) => c_isDown (d := d) (Q := Q) hK hKC.1 huo
      have wh := fun (d : Nat) (Q : PQ) => c_where (d := d) (Q := Q) hK hKC.1 huo
      have br := fun (d : Nat) (Q : PQ) => c_bearerOf (d := d) (Q := Q) hK hKC.1 huo
      have hb2 := (okS_R hK huo).2
      have hb8 := ((okS_R hK huo).1 u.1.1).1
      by_cases hg : goalB c k p u.1 = true
      · obtain ⟨R, hR, -⟩ := rp_ex v5 j hjl
        refine ⟨h, QL, sr, encC c u.1, chg_r, hH, hV', Or.inr ⟨j, u, R, hu, rfl, hR, bfs_gp v5 hjs hu hg hno hR⟩, fun d Q => ?_⟩
        unfold goalB at hg
        rw [Bool.and_eq_true, Bool.and_eq_true, Bool.or_eq_true, decide_eq_true_iff, decide_eq_true_iff, decide_eq_true_iff] at hg
        obtain ⟨⟨g1, g2⟩, g3⟩ := hg
        have g1' : downB c u.1 = false := by simpa using g1
        have hkn := up_kn g1'
        have ew : whereS c u.1 = (k : Int) := by unfold whereS; rw [if_neg hkn, g2]
        simp only [g1', if_false, Bool.false_eq_true] at dn
        rw [ew] at wh
        by_cases hp : p = -1
        · rw [e_12_3]
          simp (disch := omega) only [e_12_5, e_12_6, e_12_9, e_12_12, e_12_14, e_12_15, e_12_18, e_12_21, e_12_24, e_12_25, e_12_28, e_12_30, e_12_31, e_12_33, e_12_34, e_12_37, e_12_39, e_12_42, e_12_45, e_12_46, e_12_49, e_12_51, e_12_54, e_12_55, e_12_58, e_12_59, e_12_60, e_12_63, e_12_64, e_12_67, e_12_69, e_12_72, e_12_73, e_12_76, e_12_78, c1, c2, q1, hA, h3, dn, wh, cmO_c, cmO_g0, cmO_k0, cmO_g1, cmO_k1, cmO_g2, cmO_k2, cmO_g3, cmO_k3, cmO_g4, cmO_k4, cmO_g5, cmO_k5, cmO_g6, cmO_k6, cmO_s0, cmO_s1, cmO_s2, cmO_s3, cmO_s4, cmO_s5, cmO_s6, hoO_c, hoO_g0, hoO_k0, hoO_g1, hoO_k1, hoO_g2, hoO_k2, hoO_g3, hoO_k3, hoO_g4, hoO_k4, hoO_g5, hoO_k5, hoO_g6, hoO_k6, hoO_g7, hoO_k7, hoO_g8, hoO_k8, hoO_g9, hoO_k9, hoO_s0, hoO_s1, hoO_s2, hoO_s9, iup_s, iup_n, hp_up1, hp_upn, ne_eq, not_false_eq_true, sh_0, sh_1, sh_2, sh_3, sh_4, sh_5, sh_8, sh_15, sh_16, sh_24, Int.reducePow, Int.cast_ofNat_Int, w_of, wl_of, ltT, ltF, leT, leF, eqT, eqF, okF_0, okF_s, gF_0, gF_s, consC_o, sF_0, sF_s, clsO_o, inA_i, ldA_i, stA_i, inJ_l, ldJ_l, stJ_l, inR_r, ldR_r, stR_r, tgR_r, lenA_i, lenA_l, lenA_r, lenA_ex, nl_i, nl_o, nl_l, nl_n, wd_n, wd_i, wd_l, wd_o, fit_i, fit_l, fit_o, K_v, K_n, true_and, and_true, Nat.reduceAdd, Nat.reduceLeDiff, Nat.reduceEqDiff, Nat.reduceMul, Nat.reduceLT, reduceIte, true_or, or_true, cmp_lt, cmp_gt, cmp_eq, wb_0, b_01, cmp_lt', cmp_gt', cmp_eq', b_0, b_1, wb_1, Int.reduceSub, Int.reduceToNat, List.getD_cons_succ, List.getD_cons_zero, Int.reduceLE, Int.reduceLT, Int.reduceEq, Int.reduceNeg, Int.reduceAdd, Int.reduceMul, and_self, em_b, ne_eq, not_false_eq_true, not_true_eq_false]
        · have g4 : (u.1.1 : Int) = p := by
            rcases g3 with z | z
            · exact absurd z hp
            · exact z
          rw [e_12_3]
          simp (disch := omega) only [e_12_5, e_12_6, e_12_9, e_12_12, e_12_14, e_12_15, e_12_18, e_12_21, e_12_24, e_12_25, e_12_28, e_12_30, e_12_31, e_12_33, e_12_34, e_12_37, e_12_39, e_12_42, e_12_45, e_12_46, e_12_49, e_12_51, e_12_54, e_12_55, e_12_58, e_12_59, e_12_60, e_12_63, e_12_64, e_12_67, e_12_69, e_12_72, e_12_73, e_12_76, e_12_78, c1, c2, q1, hA, h3, dn, wh, br, cmO_c, cmO_g0, cmO_k0, cmO_g1, cmO_k1, cmO_g2, cmO_k2, cmO_g3, cmO_k3, cmO_g4, cmO_k4, cmO_g5, cmO_k5, cmO_g6, cmO_k6, cmO_s0, cmO_s1, cmO_s2, cmO_s3, cmO_s4, cmO_s5, cmO_s6, hoO_c, hoO_g0, hoO_k0, hoO_g1, hoO_k1, hoO_g2, hoO_k2, hoO_g3, hoO_k3, hoO_g4, hoO_k4, hoO_g5, hoO_k5, hoO_g6, hoO_k6, hoO_g7, hoO_k7, hoO_g8, hoO_k8, hoO_g9, hoO_k9, hoO_s0, hoO_s1, hoO_s2, hoO_s9, iup_s, iup_n, hp_up1, hp_upn, ne_eq, not_false_eq_true, sh_0, sh_1, sh_2, sh_3, sh_4, sh_5, sh_8, sh_15, sh_16, sh_24, Int.reducePow, Int.cast_ofNat_Int, w_of, wl_of, ltT, ltF, leT, leF, eqT, eqF, okF_0, okF_s, gF_0, gF_s, consC_o, sF_0, sF_s, clsO_o, inA_i, ldA_i, stA_i, inJ_l, ldJ_l, stJ_l, inR_r, ldR_r, stR_r, tgR_r, lenA_i, lenA_l, lenA_r, lenA_ex, nl_i, nl_o, nl_l, nl_n, wd_n, wd_i, wd_l, wd_o, fit_i, fit_l, fit_o, K_v, K_n, true_and, and_true, Nat.reduceAdd, Nat.reduceLeDiff, Nat.reduceEqDiff, Nat.reduceMul, Nat.reduceLT, reduceIte, true_or, or_true, cmp_lt, cmp_gt, cmp_eq, wb_0, b_01, cmp_lt', cmp_gt', cmp_eq', b_0, b_1, wb_1, Int.reduceSub, Int.reduceToNat, List.getD_cons_succ, List.getD_cons_zero, Int.reduceLE, Int.reduceLT, Int.reduceEq, Int.reduceNeg, Int.reduceAdd, Int.reduceMul, and_self, em_b, ne_eq, not_false_eq_true, not_true_eq_false]
      · obtain ⟨h1, QL1, sr1, b1, b2, b3, b4, b5, b6⟩ := V_searchOn hF hH hV' hjl hjs
        obtain ⟨h', QL', sr', v, d1, d2, d3, d4, d5⟩ := ih (j + 1) h1 QL1 sr1 (some (vi (encC c u.1))) (by omega) (chg_F b1 hF) b2 b3 (by omega) (fun a x ha hx => by
          by_cases z : a = j
          · subst z
            rw [b4 a u hu] at hx
            cases hx
            exact hg
          · have ha2 : QL[a]? = some QL[a] := List.getElem?_eq_getElem (by omega)
            have := b4 a _ ha2
            rw [this] at hx
            cases hx
            exact hno a _ (by omega) ha2)
        refine ⟨h', QL', sr', v, chg_t b1 d1, d2, d3, d4, fun d Q => ?_⟩
        rw [← d5 d Q]
        have b6' := fun (Q : PQ) => b6 d Q
        unfold goalB at hg
        by_cases g1 : downB c u.1 = true
        · simp only [g1, if_true] at dn
          rw [e_12_3]
          simp (disch := omega) only [e_12_5, e_12_6, e_12_9, e_12_12, e_12_14, e_12_15, e_12_18, e_12_21, e_12_24, e_12_25, e_12_28, e_12_30, e_12_31, e_12_33, e_12_34, e_12_37, e_12_39, e_12_42, e_12_45, e_12_46, e_12_49, e_12_51, e_12_54, e_12_55, e_12_58, e_12_59, e_12_60, e_12_63, e_12_64, e_12_67, e_12_69, e_12_72, e_12_73, e_12_76, e_12_78, e_12_79, e_12_80, e_12_81, e_12_83, e_12_86, e_12_89, c1, c2, q1, hA, h3, dn, b6', cmO_c, cmO_g0, cmO_k0, cmO_g1, cmO_k1, cmO_g2, cmO_k2, cmO_g3, cmO_k3, cmO_g4, cmO_k4, cmO_g5, cmO_k5, cmO_g6, cmO_k6, cmO_s0, cmO_s1, cmO_s2, cmO_s3, cmO_s4, cmO_s5, cmO_s6, hoO_c, hoO_g0, hoO_k0, hoO_g1, hoO_k1, hoO_g2, hoO_k2, hoO_g3, hoO_k3, hoO_g4, hoO_k4, hoO_g5, hoO_k5, hoO_g6, hoO_k6, hoO_g7, hoO_k7, hoO_g8, hoO_k8, hoO_g9, hoO_k9, hoO_s0, hoO_s1, hoO_s2, hoO_s9, iup_s, iup_n, hp_up1, hp_upn, ne_eq, not_false_eq_true, sh_0, sh_1, sh_2, sh_3, sh_4, sh_5, sh_8, sh_15, sh_16, sh_24, Int.reducePow, Int.cast_ofNat_Int, w_of, wl_of, ltT, ltF, leT, leF, eqT, eqF, okF_0, okF_s, gF_0, gF_s, consC_o, sF_0, sF_s, clsO_o, inA_i, ldA_i, stA_i, inJ_l, ldJ_l, stJ_l, inR_r, ldR_r, stR_r, tgR_r, lenA_i, lenA_l, lenA_r, lenA_ex, nl_i, nl_o, nl_l, nl_n, wd_n, wd_i, wd_l, wd_o, fit_i, fit_l, fit_o, K_v, K_n, true_and, and_true, Nat.reduceAdd, Nat.reduceLeDiff, Nat.reduceEqDiff, Nat.reduceMul, Nat.reduceLT, reduceIte, true_or, or_true, cmp_lt, cmp_gt, cmp_eq, wb_0, b_01, cmp_lt', cmp_gt', cmp_eq', b_0, b_1, wb_1, Int.reduceSub, Int.reduceToNat, List.getD_cons_succ, List.getD_cons_zero, Int.reduceLE, Int.reduceLT, Int.reduceEq, Int.reduceNeg, Int.reduceAdd, Int.reduceMul, and_self, em_b, ne_eq, not_false_eq_true, not_true_eq_false]
          try rfl
        · have g1' : downB c u.1 = false := by simpa using g1
          have hkn := up_kn g1'
          simp only [g1', if_false, Bool.false_eq_true] at dn
          have ew : whereS c u.1 = (u.1.2.1 u.1.1 : Int) := by unfold whereS; rw [if_neg hkn]
          rw [ew] at wh
          by_cases g2 : u.1.2.1 u.1.1 = k
          · have g3 : ¬ p = -1 ∧ ¬ (u.1.1 : Int) = p := by
              rw [g1', decide_eq_true g2] at hg
              simp only [Bool.not_false, Bool.true_and, Bool.or_eq_true, decide_eq_true_iff] at hg
              exact ⟨fun z => hg (Or.inl z), fun z => hg (Or.inr z)⟩
            obtain ⟨g4, g5⟩ := g3
            rw [e_12_3]
            simp (disch := omega) only [e_12_5, e_12_6, e_12_9, e_12_12, e_12_14, e_12_15, e_12_18, e_12_21, e_12_24, e_12_25, e_12_28, e_12_30, e_12_31, e_12_33, e_12_34, e_12_37, e_12_39, e_12_42, e_12_45, e_12_46, e_12_49, e_12_51, e_12_54, e_12_55, e_12_58, e_12_59, e_12_60, e_12_63, e_12_64, e_12_67, e_12_69, e_12_72, e_12_73, e_12_76, e_12_78, e_12_79, e_12_80, e_12_81, e_12_83, e_12_86, e_12_89, c1, c2, q1, hA, h3, dn, wh, br, b6', cmO_c, cmO_g0, cmO_k0, cmO_g1, cmO_k1, cmO_g2, cmO_k2, cmO_g3, cmO_k3, cmO_g4, cmO_k4, cmO_g5, cmO_k5, cmO_g6, cmO_k6, cmO_s0, cmO_s1, cmO_s2, cmO_s3, cmO_s4, cmO_s5, cmO_s6, hoO_c, hoO_g0, hoO_k0, hoO_g1, hoO_k1, hoO_g2, hoO_k2, hoO_g3, hoO_k3, hoO_g4, hoO_k4, hoO_g5, hoO_k5, hoO_g6, hoO_k6, hoO_g7, hoO_k7, hoO_g8, hoO_k8, hoO_g9, hoO_k9, hoO_s0, hoO_s1, hoO_s2, hoO_s9, iup_s, iup_n, hp_up1, hp_upn, ne_eq, not_false_eq_true, sh_0, sh_1, sh_2, sh_3, sh_4, sh_5, sh_8, sh_15, sh_16, sh_24, Int.reducePow, Int.cast_ofNat_Int, w_of, wl_of, ltT, ltF, leT, leF, eqT, eqF, okF_0, okF_s, gF_0, gF_s, consC_o, sF_0, sF_s, clsO_o, inA_i, ldA_i, stA_i, inJ_l, ldJ_l, stJ_l, inR_r, ldR_r, stR_r, tgR_r, lenA_i, lenA_l, lenA_r, lenA_ex, nl_i, nl_o, nl_l, nl_n, wd_n, wd_i, wd_l, wd_o, fit_i, fit_l, fit_o, K_v, K_n, true_and, and_true, Nat.reduceAdd, Nat.reduceLeDiff, Nat.reduceEqDiff, Nat.reduceMul, Nat.reduceLT, reduceIte, true_or, or_true, cmp_lt, cmp_gt, cmp_eq, wb_0, b_01, cmp_lt', cmp_gt', cmp_eq', b_0, b_1, wb_1, Int.reduceSub, Int.reduceToNat, List.getD_cons_succ, List.getD_cons_zero, Int.reduceLE, Int.reduceLT, Int.reduceEq, Int.reduceNeg, Int.reduceAdd, Int.reduceMul, and_self, em_b, ne_eq, not_false_eq_true, not_true_eq_false]
            try rfl
          · rw [e_12_3]
            simp (disch := omega) only [e_12_5, e_12_6, e_12_9, e_12_12, e_12_14, e_12_15, e_12_18, e_12_21, e_12_24, e_12_25, e_12_28, e_12_30, e_12_31, e_12_33, e_12_34, e_12_37, e_12_39, e_12_42, e_12_45, e_12_46, e_12_49, e_12_51, e_12_54, e_12_55, e_12_58, e_12_59, e_12_60, e_12_63, e_12_64, e_12_67, e_12_69, e_12_72, e_12_73, e_12_76, e_12_78, e_12_79, e_12_80, e_12_81, e_12_83, e_12_86, e_12_89, c1, c2, q1, hA, h3, dn, wh, b6', cmO_c, cmO_g0, cmO_k0, cmO_g1, cmO_k1, cmO_g2, cmO_k2, cmO_g3, cmO_k3, cmO_g4, cmO_k4, cmO_g5, cmO_k5, cmO_g6, cmO_k6, cmO_s0, cmO_s1, cmO_s2, cmO_s3, cmO_s4, cmO_s5, cmO_s6, hoO_c, hoO_g0, hoO_k0, hoO_g1, hoO_k1, hoO_g2, hoO_k2, hoO_g3, hoO_k3, hoO_g4, hoO_k4, hoO_g5, hoO_k5, hoO_g6, hoO_k6, hoO_g7, hoO_k7, hoO_g8, hoO_k8, hoO_g9, hoO_k9, hoO_s0, hoO_s1, hoO_s2, hoO_s9, iup_s, iup_n, hp_up1, hp_upn, ne_eq, not_false_eq_true, sh_0, sh_1, sh_2, sh_3, sh_4, sh_5, sh_8, sh_15, sh_16, sh_24, Int.reducePow, Int.cast_ofNat_Int, w_of, wl_of, ltT, ltF, leT, leF, eqT, eqF, okF_0, okF_s, gF_0, gF_s, consC_o, sF_0, sF_s, clsO_o, inA_i, ldA_i, stA_i, inJ_l, ldJ_l, stJ_l, inR_r, ldR_r, stR_r, tgR_r, lenA_i, lenA_l, lenA_r, lenA_ex, nl_i, nl_o, nl_l, nl_n, wd_n, wd_i, wd_l, wd_o, fit_i, fit_l, fit_o, K_v, K_n, true_and, and_true, Nat.reduceAdd, Nat.reduceLeDiff, Nat.reduceEqDiff, Nat.reduceMul, Nat.reduceLT, reduceIte, true_or, or_true, cmp_lt, cmp_gt, cmp_eq, wb_0, b_01, cmp_lt', cmp_gt', cmp_eq', b_0, b_1, wb_1, Int.reduceSub, Int.reduceToNat, List.getD_cons_succ, List.getD_cons_zero, Int.reduceLE, Int.reduceLT, Int.reduceEq, Int.reduceNeg, Int.reduceAdd, Int.reduceMul, and_self, em_b, ne_eq, not_false_eq_true, not_true_eq_false]
            try rfl
theorem C_all {ow : Nat → Nat} {ca : Nat} {c : KC} {sky e : Nat} {s0 : ST} {n : Nat} (hO : okC c) :
    ∀ (r j : Nat) (h : PH) (QL : List QE) (sr : Nat), j + r = 24001 → owF ow h → HoP ow h ca c sky e → ComV ow h ca c sky s0 QL sr n → j ≤ sr →
    ∃ (h' : PH) (QL' : List QE), chg ow [1, 3] h h' ∧ HoP ow h' ca c sky e ∧ ComV ow h' ca c sky s0 QL' QL'.length n ∧ ∀ d Q, WP (d + 10) 14 2 [some (vr 38), some (vr 27), some (vi j)] [] h Q = Q (some (vi QL'.length)) h' := by
  have hK := hO.1
  have h24 := szC_le hK
  intro r
  induction r with
  | zero =>
    intro j h QL sr hj hF hH hV hjs
    have := V_len hK hV
    omega
  | succ r ih =>
    intro j h QL sr hj hF hH hV hjs
    have hV' := hV
    have hvl := V_len hK hV
    obtain ⟨i, q, g, fq, fg, v1, v2, v3, v4, v5, v6, v7, v8⟩ := hV
    obtain ⟨c1, c2, c3⟩ := v1
    obtain ⟨hKC⟩ : Nonempty (KCty ow h ca c) := by obtain ⟨_, _, _, _, _, _, _, _, _, _, a9⟩ := hH; exact ⟨a9⟩
    obtain ⟨y4, y5, y6, y7, y8, y9, y10, y11, y14, y15, y17, hA⟩ := KCty_sz hKC
    have q1 := v4.1
    by_cases hend : j = QL.length
    · have hsr : sr = QL.length := by omega
      subst hsr
      refine ⟨h, QL, chg_r, hH, hV', fun d Q => ?_⟩
      rw [e_14_2]
      simp (disch := omega) only [e_14_3, e_14_4, e_14_7, e_14_33, e_14_34, e_14_37, c1, q1, cmO_c, cmO_g0, cmO_k0, cmO_g1, cmO_k1, cmO_g2, cmO_k2, cmO_g3, cmO_k3, cmO_g4, cmO_k4, cmO_g5, cmO_k5, cmO_g6, cmO_k6, cmO_s0, cmO_s1, cmO_s2, cmO_s3, cmO_s4, cmO_s5, cmO_s6, hoO_c, hoO_g0, hoO_k0, hoO_g1, hoO_k1, hoO_g2, hoO_k2, hoO_g3, hoO_k3, hoO_g4, hoO_k4, hoO_g5, hoO_k5, hoO_g6, hoO_k6, hoO_g7, hoO_k7, hoO_g8, hoO_k8, hoO_g9, hoO_k9, hoO_s0, hoO_s1, hoO_s2, hoO_s9, iup_s, iup_n, hp_up1, hp_upn, ne_eq, not_false_eq_true, sh_0, sh_1, sh_2, sh_3, sh_4, sh_5, sh_8, sh_15, sh_16, sh_24, Int.reducePow, Int.cast_ofNat_Int, w_of, wl_of, ltT, ltF, leT, leF, eqT, eqF, okF_0, okF_s, gF_0, gF_s, consC_o, sF_0, sF_s, clsO_o, inA_i, ldA_i, stA_i, inJ_l, ldJ_l, stJ_l, inR_r, ldR_r, stR_r, tgR_r, lenA_i, lenA_l, lenA_r, lenA_ex, nl_i, nl_o, nl_l, nl_n, wd_n, wd_i, wd_l, wd_o, fit_i, fit_l, fit_o, K_v, K_n, true_and, and_true, Nat.reduceAdd, Nat.reduceLeDiff, Nat.reduceEqDiff, Nat.reduceMul, Nat.reduceLT, reduceIte, true_or, or_true, cmp_lt, cmp_gt, cmp_eq, wb_0, b_01, cmp_lt', cmp_gt', cmp_eq', b_0, b_1, wb_1, Int.reduceSub, Int.reduceToNat, List.getD_cons_succ, List.getD_cons_zero, Int.reduceLE, Int.reduceLT, Int.reduceEq, Int.reduceNeg, Int.reduceAdd, Int.reduceMul, and_self, em_b, ne_eq, not_false_eq_true, not_true_eq_false]
    · have hjl : j < QL.length := by omega
      obtain ⟨h1, QL1, sr1, b1, b2, b3, b4, b5, b6⟩ := V_searchOn hF hH hV' hjl hjs
      obtain ⟨h', QL', d1, d2, d3, d5⟩ := ih (j + 1) h1 QL1 sr1 (by omega) (chg_F b1 hF) b2 b3 (by omega)
      refine ⟨h', QL', chg_t b1 d1, d2, d3, fun d Q => ?_⟩
      rw [← d5 d Q]
      have b6' := fun (Q : PQ) => b6 d Q
      rw [e_14_2]
      simp (disch := omega) only [e_14_3, e_14_4, e_14_7, e_14_10, e_14_11, e_14_12, e_14_15, e_14_18, e_14_21, e_14_22, e_14_23, e_14_24, e_14_27, e_14_30, c1, q1, hA, b6', cmO_c, cmO_g0, cmO_k0, cmO_g1, cmO_k1, cmO_g2, cmO_k2, cmO_g3, cmO_k3, cmO_g4, cmO_k4, cmO_g5, cmO_k5, cmO_g6, cmO_k6, cmO_s0, cmO_s1, cmO_s2, cmO_s3, cmO_s4, cmO_s5, cmO_s6, hoO_c, hoO_g0, hoO_k0, hoO_g1, hoO_k1, hoO_g2, hoO_k2, hoO_g3, hoO_k3, hoO_g4, hoO_k4, hoO_g5, hoO_k5, hoO_g6, hoO_k6, hoO_g7, hoO_k7, hoO_g8, hoO_k8, hoO_g9, hoO_k9, hoO_s0, hoO_s1, hoO_s2, hoO_s9, iup_s, iup_n, hp_up1, hp_upn, ne_eq, not_false_eq_true, sh_0, sh_1, sh_2, sh_3, sh_4, sh_5, sh_8, sh_15, sh_16, sh_24, Int.reducePow, Int.cast_ofNat_Int, w_of, wl_of, ltT, ltF, leT, leF, eqT, eqF, okF_0, okF_s, gF_0, gF_s, consC_o, sF_0, sF_s, clsO_o, inA_i, ldA_i, stA_i, inJ_l, ldJ_l, stJ_l, inR_r, ldR_r, stR_r, tgR_r, lenA_i, lenA_l, lenA_r, lenA_ex, nl_i, nl_o, nl_l, nl_n, wd_n, wd_i, wd_l, wd_o, fit_i, fit_l, fit_o, K_v, K_n, true_and, and_true, Nat.reduceAdd, Nat.reduceLeDiff, Nat.reduceEqDiff, Nat.reduceMul, Nat.reduceLT, reduceIte, true_or, or_true, cmp_lt, cmp_gt, cmp_eq, wb_0, b_01, cmp_lt', cmp_gt', cmp_eq', b_0, b_1, wb_1, Int.reduceSub, Int.reduceToNat, List.getD_cons_succ, List.getD_cons_zero, Int.reduceLE, Int.reduceLT, Int.reduceEq, Int.reduceNeg, Int.reduceAdd, Int.reduceMul, and_self, em_b, ne_eq, not_false_eq_true, not_true_eq_false]
      try rfl
