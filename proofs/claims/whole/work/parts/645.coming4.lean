/-! THE CLASS: Coming, masks -/
noncomputable def mskQ (c : KC) (QL : List QE) (f : ST → Nat) (j : Nat) : Nat := bitsF 5 (fun q => prB (∃ (a : Nat) (x : QE), a < j ∧ QL[a]? = some x ∧ downB c x.1 = false ∧ f x.1 = q))
noncomputable def allV (c : KC) (sky : Nat) (s : ST) (f : ST → Nat) : Nat := bitsF 5 (fun q => prB (∃ x, rS c sky s x ∧ downB c x = false ∧ f x = q))
theorem msk_ext {c : KC} {QL QL' : List QE} {f : ST → Nat} {j : Nat} (hx : ∀ (k : Nat) e, QL[k]? = some e → QL'[k]? = some e) (hj : j ≤ QL.length) : mskQ c QL' f j = mskQ c QL f j := by
  unfold mskQ
  refine bitsF_congr (fun q _ => ?_)
  congr 1
  refine propext ⟨?_, ?_⟩
  · rintro ⟨a, x, h1, h2, h3⟩
    have ha : QL[a]? = some QL[a] := List.getElem?_eq_getElem (by omega)
    have := hx a _ ha
    rw [this] at h2
    exact ⟨a, x, h1, by rw [ha]; exact h2, h3⟩
  · rintro ⟨a, x, h1, h2, h3⟩
    exact ⟨a, x, h1, hx a x h2, h3⟩
theorem msk_dn {c : KC} {QL : List QE} {f : ST → Nat} {j : Nat} {u : QE} (hu : QL[j]? = some u) (hd : downB c u.1 = true) : mskQ c QL f (j + 1) = mskQ c QL f j := by
  unfold mskQ
  refine bitsF_congr (fun q _ => ?_)
  congr 1
  refine propext ⟨?_, ?_⟩
  · rintro ⟨a, x, h1, h2, h3, h4⟩
    by_cases w : a = j
    · subst w; rw [hu] at h2; cases h2; rw [hd] at h3; cases h3
    · exact ⟨a, x, by omega, h2, h3, h4⟩
  · rintro ⟨a, x, h1, h2⟩
    exact ⟨a, x, by omega, h2⟩
theorem msk_up {c : KC} {QL : List QE} {f : ST → Nat} {j : Nat} {u : QE} (hu : QL[j]? = some u) (hd : downB c u.1 = false) (hf : f u.1 < 5) : ior (mskQ c QL f j : Int) (1 * 2 ^ sh (f u.1 : Int)) = (mskQ c QL f (j + 1) : Int) := by
  unfold mskQ
  rw [bitsF_or (by omega) hf]
  congr 1
  refine bitsF_congr (fun q _ => ?_)
  rw [Bool.eq_iff_iff, Bool.or_eq_true, decide_eq_true_iff, prB_iff, prB_iff]
  constructor
  · rintro (⟨a, x, h1, h2⟩ | h)
    · exact ⟨a, x, by omega, h2⟩
    · exact ⟨j, u, by omega, hu, hd, h.symm⟩
  · rintro ⟨a, x, h1, h2, h3, h4⟩
    by_cases w : a = j
    · subst w; rw [hu] at h2; cases h2; exact Or.inr h4.symm
    · exact Or.inl ⟨a, x, by omega, h2, h3, h4⟩
theorem bfs_rch {c : KC} {sky : Nat} {s0 : ST} {QL : List QE} {sr p : Nat} (h : bfsI c sky s0 QL sr p) : ∀ (j : Nat) (e : QE), QL[j]? = some e → rS c sky s0 e.1 := by
  intro j
  induction j using Nat.strongRecOn with
  | _ j ih =>
    intro e hj
    by_cases q : j = 0
    · subst q; rw [h.1] at hj; cases hj; exact ⟨0, rfl⟩
    · obtain ⟨t', a, d⟩ := e
      obtain ⟨u, pa, g1, g2, -, g4, -⟩ := h.2.2.2.1 j t' a d (by omega) hj
      obtain ⟨n, hn⟩ := ih a g4 u g1
      exact ⟨n + 1, u.1, _, hn, List.mem_of_getElem? g2, rfl⟩
theorem msk_end {c : KC} {sky : Nat} {s0 : ST} {QL : List QE} {f : ST → Nat} (h : bfsI c sky s0 QL QL.length 0) : mskQ c QL f QL.length = allV c sky s0 f := by
  unfold mskQ allV
  refine bitsF_congr (fun q _ => ?_)
  congr 1
  refine propext ⟨?_, ?_⟩
  · rintro ⟨n, x, -, h2, h3⟩; exact ⟨x.1, bfs_rch h n x h2, h3⟩
  · rintro ⟨x, h1, h2⟩
    obtain ⟨e, e1, e2⟩ := List.mem_map.mp ((bfs_all h).mpr h1)
    obtain ⟨n, hn⟩ := List.getElem?_of_mem e1
    exact ⟨n, e, (List.getElem?_eq_some_iff.mp hn).1, hn, by rw [e2]; exact h2⟩
theorem msk_full {c : KC} {sky : Nat} {s0 : ST} {QL : List QE} {f : ST → Nat} {sr j N : Nat} (h : bfsI c sky s0 QL sr 0) (hf : ∀ x, rS c sky s0 x → downB c x = false → f x < N) (hm : mskQ c QL f j = 2 ^ N - 1) : mskQ c QL f j = allV c sky s0 f := by
  unfold allV
  have key : ∀ q, q < 5 → (prB (∃ (a : Nat) (x : QE), a < j ∧ QL[a]? = some x ∧ downB c x.1 = false ∧ f x.1 = q) = decide (q < N)) := by
    intro q hq
    have h1 := congrArg (fun z => z.testBit q) hm
    rw [Nat.testBit_two_pow_sub_one] at h1
    unfold mskQ at h1
    rw [bitsF_tb, decide_eq_true hq, Bool.true_and] at h1
    exact h1
  unfold mskQ
  refine bitsF_congr (fun q hq => ?_)
  have k := key q hq
  rw [Bool.eq_iff_iff, prB_iff, prB_iff]
  constructor
  · rintro ⟨n, x, -, h2, h3⟩; exact ⟨x.1, bfs_rch h n x h2, h3⟩
  · rintro ⟨x, h1, h2, h3⟩
    have : q < N := by rw [← h3]; exact hf x h1 h2
    rw [decide_eq_true this] at k
    exact prB_iff.mp k
theorem rS_ok {c : KC} {sky : Nat} {s x : ST} (hs : okS c s) (h : rS c sky s x) : okS c x := by
  obtain ⟨n, hn⟩ := h
  revert x
  induction n with
  | zero => intro x hn; rw [show x = s from hn]; exact hs
  | succ n ih =>
    rintro x ⟨u, y, h1, h2, rfl⟩
    exact nx_ok (ih h1) h2
/-- what of a stand goes into the mask -/
def obF (ob : Bool) (s : ST) : Nat := if ob then s.1 else s.2.1 s.1
def obN (ob : Bool) (c : KC) : Nat := if ob then kN c else kP c
theorem ob_lt {ob : Bool} {c : KC} {s : ST} (hs : okS c s) (hd : downB c s = false) : obF ob s < obN ob c := by
  have hkn := up_kn hd
  have h1 := hs.2.2.2 (by omega)
  unfold obF obN
  cases ob
  · exact (hs.1 s.1 h1).1
  · exact h1
theorem C_bits {ow : Nat → Nat} {ca : Nat} {c : KC} {sky e : Nat} {s0 : ST} {n F : Nat} {ob : Bool} (hO : okC c) (hs0 : okS c s0) (hF1 : F = 2 ^ obN ob c) (hF2 : F ≤ 32) (hF3 : 1 ≤ F) :
    ∀ (r j : Nat) (h : PH) (QL : List QE) (sr : Nat) (o6 : Option PV), j + r = 24001 → owF ow h → HoP ow h ca c sky e → ComV ow h ca c sky s0 QL sr n → j ≤ sr →
    ∃ (h' : PH) (QL' : List QE) (sr' : Nat), chg ow [1, 3] h h' ∧ HoP ow h' ca c sky e ∧ ComV ow h' ca c sky s0 QL' sr' n ∧ ∀ d Q, WP (d + 10) 13 32 [some (vr 38), some (vr 27), some (vi (if ob then 1 else 0)), some (vi ((F : Int) - 1)), some (vi (mskQ c QL (obF ob) j)), some (vi j), o6] [] h Q = Q (some (vi (allV c sky s0 (obF ob)))) h' := by
  have hK := hO.1
  have h24 := szC_le hK
  intro r
  induction r with
  | zero =>
    intro j h QL sr o6 hj hF hH hV hjs
    have := V_len hK hV
    omega
  | succ r ih =>
    intro j h QL sr o6 hj hF hH hV hjs
    have hV' := hV
    have hvl := V_len hK hV
    obtain ⟨i, q, g, fq, fg, v1, v2, v3, v4, v5, v6, v7, v8⟩ := hV
    obtain ⟨c1, c2, c3⟩ := v1
    obtain ⟨hKC⟩ : Nonempty (KCty ow h ca c) := by obtain ⟨_, _, _, _, _, _, _, _, _, _, a9⟩ := hH; exact ⟨a9⟩
    obtain ⟨y4, y5, y6, y7, y8, y9, y10, y11, y14, y15, y17, hA⟩ := KCty_sz hKC
    have q1 := v4.1
    have hml : mskQ c QL (obF ob) j < 32 := bitsF_lt (n := 5)
    by_cases hend : j = QL.length
    · have hsr : sr = QL.length := by omega
      subst hsr
      refine ⟨h, QL, QL.length, chg_r, hH, hV', fun d Q => ?_⟩
      rw [hend, msk_end v5]
      rw [e_13_32]
      simp (disch := omega) only [e_13_34, e_13_35, e_13_38, e_13_125, e_13_127, c1, q1, cmO_c, cmO_g0, cmO_k0, cmO_g1, cmO_k1, cmO_g2, cmO_k2, cmO_g3, cmO_k3, cmO_g4, cmO_k4, cmO_g5, cmO_k5, cmO_g6, cmO_k6, cmO_s0, cmO_s1, cmO_s2, cmO_s3, cmO_s4, cmO_s5, cmO_s6, hoO_c, hoO_g0, hoO_k0, hoO_g1, hoO_k1, hoO_g2, hoO_k2, hoO_g3, hoO_k3, hoO_g4, hoO_k4, hoO_g5, hoO_k5, hoO_g6, hoO_k6, hoO_g7, hoO_k7, hoO_g8, hoO_k8, hoO_g9, hoO_k9, hoO_s0, hoO_s1, hoO_s2, hoO_s9, iup_s, iup_n, hp_up1, hp_upn, ne_eq, not_false_eq_true, sh_0, sh_1, sh_2, sh_3, sh_4, sh_5, sh_8, sh_15, sh_16, sh_24, Int.reducePow, Int.cast_ofNat_Int, w_of, wl_of, ltT, ltF, leT, leF, eqT, eqF, okF_0, okF_s, gF_0, gF_s, consC_o, sF_0, sF_s, clsO_o, inA_i, ldA_i, stA_i, inJ_l, ldJ_l, stJ_l, inR_r, ldR_r, stR_r, tgR_r, lenA_i, lenA_l, lenA_r, lenA_ex, nl_i, nl_o, nl_l, nl_n, wd_n, wd_i, wd_l, wd_o, fit_i, fit_l, fit_o, K_v, K_n, true_and, and_true, Nat.reduceAdd, Nat.reduceLeDiff, Nat.reduceEqDiff, Nat.reduceMul, Nat.reduceLT, reduceIte, true_or, or_true, cmp_lt, cmp_gt, cmp_eq, wb_0, b_01, cmp_lt', cmp_gt', cmp_eq', b_0, b_1, wb_1, Int.reduceSub, Int.reduceToNat, List.getD_cons_succ, List.getD_cons_zero, Int.reduceLE, Int.reduceLT, Int.reduceEq, Int.reduceNeg, Int.reduceAdd, Int.reduceMul, and_self, em_b, ne_eq, not_false_eq_true, not_true_eq_false]
    · have hjl : j < QL.length := by omega
      by_cases hfl : mskQ c QL (obF ob) j = F - 1
      · refine ⟨h, QL, sr, chg_r, hH, hV', fun d Q => ?_⟩
        rw [← msk_full (N := obN ob c) v5 (fun x hx hd => ob_lt (rS_ok hs0 hx) hd) (by rw [← hF1]; exact hfl)]
        have hfl' : (mskQ c QL (obF ob) j : Int) = (F : Int) - 1 := by omega
        rw [e_13_32]
        simp (disch := omega) only [e_13_34, e_13_35, e_13_38, e_13_41, e_13_43, e_13_44, e_13_47, e_13_50, e_13_53, e_13_55, e_13_56, e_13_125, e_13_127, c1, q1, hA, cmO_c, cmO_g0, cmO_k0, cmO_g1, cmO_k1, cmO_g2, cmO_k2, cmO_g3, cmO_k3, cmO_g4, cmO_k4, cmO_g5, cmO_k5, cmO_g6, cmO_k6, cmO_s0, cmO_s1, cmO_s2, cmO_s3, cmO_s4, cmO_s5, cmO_s6, hoO_c, hoO_g0, hoO_k0, hoO_g1, hoO_k1, hoO_g2, hoO_k2, hoO_g3, hoO_k3, hoO_g4, hoO_k4, hoO_g5, hoO_k5, hoO_g6, hoO_k6, hoO_g7, hoO_k7, hoO_g8, hoO_k8, hoO_g9, hoO_k9, hoO_s0, hoO_s1, hoO_s2, hoO_s9, iup_s, iup_n, hp_up1, hp_upn, ne_eq, not_false_eq_true, sh_0, sh_1, sh_2, sh_3, sh_4, sh_5, sh_8, sh_15, sh_16, sh_24, Int.reducePow, Int.cast_ofNat_Int, w_of, wl_of, ltT, ltF, leT, leF, eqT, eqF, okF_0, okF_s, gF_0, gF_s, consC_o, sF_0, sF_s, clsO_o, inA_i, ldA_i, stA_i, inJ_l, ldJ_l, stJ_l, inR_r, ldR_r, stR_r, tgR_r, lenA_i, lenA_l, lenA_r, lenA_ex, nl_i, nl_o, nl_l, nl_n, wd_n, wd_i, wd_l, wd_o, fit_i, fit_l, fit_o, K_v, K_n, true_and, and_true, Nat.reduceAdd, Nat.reduceLeDiff, Nat.reduceEqDiff, Nat.reduceMul, Nat.reduceLT, reduceIte, true_or, or_true, cmp_lt, cmp_gt, cmp_eq, wb_0, b_01, cmp_lt', cmp_gt', cmp_eq', b_0, b_1, wb_1, Int.reduceSub, Int.reduceToNat, List.getD_cons_succ, List.getD_cons_zero, Int.reduceLE, Int.reduceLT, Int.reduceEq, Int.reduceNeg, Int.reduceAdd, Int.reduceMul, and_self, em_b, ne_eq, not_false_eq_true, not_true_eq_false]
      · have hfl' : ¬ (mskQ c QL (obF ob) j : Int) = (F : Int) - 1 := by omega
        have hu : QL[j]? = some QL[j] := List.getElem?_eq_getElem hjl
        generalize QL[j] = u at hu
        have huo := v5.2.1 u (List.mem_of_getElem? hu)
        have h3 := v4.2.2.1 j u hu
        have dn := fun (d : Nat) (Q : PQ) => c_isDown (d := d) (Q := Q) hK hKC.1 huo
        have wh := fun (d : Nat) (Q : PQ) => c_where (d := d) (Q := Q) hK hKC.1 huo
        have br := fun (d : Nat) (Q : PQ) => c_bearerOf (d := d) (Q := Q) hK hKC.1 huo
        obtain ⟨h1, QL1, sr1, b1, b2, b3, b4, b5, b6⟩ := V_searchOn hF hH hV' hjl hjs
        obtain ⟨h', QL', sr', d1, d2, d3, d5⟩ := ih (j + 1) h1 QL1 sr1 (some (vi (encC c u.1))) (by omega) (chg_F b1 hF) b2 b3 (by omega)
        refine ⟨h', QL', sr', chg_t b1 d1, d2, d3, fun d Q => ?_⟩
        rw [← d5 d Q, msk_ext b4 (by omega)]
        have b6' := fun (Q : PQ) => b6 d Q
        have ej : (j : Int) + 1 = ((j + 1 : Nat) : Int) := by omega
        by_cases g1 : downB c u.1 = true
        · simp only [g1, if_true] at dn
          rw [msk_dn hu g1]
          rw [e_13_32]
          simp (disch := omega) only [e_13_34, e_13_35, e_13_38, e_13_41, e_13_43, e_13_44, e_13_47, e_13_50, e_13_53, e_13_55, e_13_56, e_13_59, e_13_60, e_13_63, e_13_65, e_13_66, e_13_68, e_13_69, e_13_72, e_13_74, e_13_77, e_13_80, e_13_82, e_13_83, e_13_84, e_13_87, e_13_88, e_13_91, e_13_93, e_13_96, e_13_99, e_13_100, e_13_103, e_13_105, e_13_108, e_13_109, e_13_110, e_13_112, e_13_113, e_13_114, e_13_116, e_13_119, e_13_122, c1, c2, q1, hA, h3, dn, b6', hfl', ej, cmO_c, cmO_g0, cmO_k0, cmO_g1, cmO_k1, cmO_g2, cmO_k2, cmO_g3, cmO_k3, cmO_g4, cmO_k4, cmO_g5, cmO_k5, cmO_g6, cmO_k6, cmO_s0, cmO_s1, cmO_s2, cmO_s3, cmO_s4, cmO_s5, cmO_s6, hoO_c, hoO_g0, hoO_k0, hoO_g1, hoO_k1, hoO_g2, hoO_k2, hoO_g3, hoO_k3, hoO_g4, hoO_k4, hoO_g5, hoO_k5, hoO_g6, hoO_k6, hoO_g7, hoO_k7, hoO_g8, hoO_k8, hoO_g9, hoO_k9, hoO_s0, hoO_s1, hoO_s2, hoO_s9, iup_s, iup_n, hp_up1, hp_upn, ne_eq, not_false_eq_true, sh_0, sh_1, sh_2, sh_3, sh_4, sh_5, sh_8, sh_15, sh_16, sh_24, Int.reducePow, Int.cast_ofNat_Int, w_of, wl_of, ltT, ltF, leT, leF, eqT, eqF, okF_0, okF_s, gF_0, gF_s, consC_o, sF_0, sF_s, clsO_o, inA_i, ldA_i, stA_i, inJ_l, ldJ_l, stJ_l, inR_r, ldR_r, stR_r, tgR_r, lenA_i, lenA_l, lenA_r, lenA_ex, nl_i, nl_o, nl_l, nl_n, wd_n, wd_i, wd_l, wd_o, fit_i, fit_l, fit_o, K_v, K_n, true_and, and_true, Nat.reduceAdd, Nat.reduceLeDiff, Nat.reduceEqDiff, Nat.reduceMul, Nat.reduceLT, reduceIte, true_or, or_true, cmp_lt, cmp_gt, cmp_eq, wb_0, b_01, cmp_lt', cmp_gt', cmp_eq', b_0, b_1, wb_1, Int.reduceSub, Int.reduceToNat, List.getD_cons_succ, List.getD_cons_zero, Int.reduceLE, Int.reduceLT, Int.reduceEq, Int.reduceNeg, Int.reduceAdd, Int.reduceMul, and_self, em_b, ne_eq, not_false_eq_true, not_true_eq_false]
          try rfl
        · have g1' : downB c u.1 = false := by simpa using g1
          simp only [g1', if_false, Bool.false_eq_true] at dn
          have hkn := up_kn g1'
          have hl := ob_lt (ob := ob) huo g1'
          have hl5 : obF ob u.1 < 5 := by
            have : obN ob c ≤ 5 := by unfold obN; have := hK.2.1; have := hK.2.2; cases ob <;> simp <;> omega
            omega
          have mu := msk_up (f := obF ob) hu g1' hl5
          have ml : mskQ c QL (obF ob) (j + 1) < 32 := bitsF_lt (n := 5)
          have ew : whereS c u.1 = (u.1.2.1 u.1.1 : Int) := by unfold whereS; rw [if_neg hkn]
          rw [ew] at wh
          cases ob
          · rw [show obF false u.1 = u.1.2.1 u.1.1 from rfl] at mu
            simp only [Bool.false_eq_true, if_false]
            rw [e_13_32]
            simp (disch := omega) only [e_13_34, e_13_35, e_13_38, e_13_41, e_13_43, e_13_44, e_13_47, e_13_50, e_13_53, e_13_55, e_13_56, e_13_59, e_13_60, e_13_63, e_13_65, e_13_66, e_13_68, e_13_69, e_13_72, e_13_74, e_13_77, e_13_80, e_13_82, e_13_83, e_13_84, e_13_99, e_13_100, e_13_103, e_13_105, e_13_108, e_13_109, e_13_110, e_13_112, e_13_113, e_13_114, e_13_116, e_13_119, e_13_122, c1, c2, q1, hA, h3, dn, wh, b6', hfl', ej, mu, cmO_c, cmO_g0, cmO_k0, cmO_g1, cmO_k1, cmO_g2, cmO_k2, cmO_g3, cmO_k3, cmO_g4, cmO_k4, cmO_g5, cmO_k5, cmO_g6, cmO_k6, cmO_s0, cmO_s1, cmO_s2, cmO_s3, cmO_s4, cmO_s5, cmO_s6, hoO_c, hoO_g0, hoO_k0, hoO_g1, hoO_k1, hoO_g2, hoO_k2, hoO_g3, hoO_k3, hoO_g4, hoO_k4, hoO_g5, hoO_k5, hoO_g6, hoO_k6, hoO_g7, hoO_k7, hoO_g8, hoO_k8, hoO_g9, hoO_k9, hoO_s0, hoO_s1, hoO_s2, hoO_s9, iup_s, iup_n, hp_up1, hp_upn, ne_eq, not_false_eq_true, sh_0, sh_1, sh_2, sh_3, sh_4, sh_5, sh_8, sh_15, sh_16, sh_24, Int.reducePow, Int.cast_ofNat_Int, w_of, wl_of, ltT, ltF, leT, leF, eqT, eqF, okF_0, okF_s, gF_0, gF_s, consC_o, sF_0, sF_s, clsO_o, inA_i, ldA_i, stA_i, inJ_l, ldJ_l, stJ_l, inR_r, ldR_r, stR_r, tgR_r, lenA_i, lenA_l, lenA_r, lenA_ex, nl_i, nl_o, nl_l, nl_n, wd_n, wd_i, wd_l, wd_o, fit_i, fit_l, fit_o, K_v, K_n, true_and, and_true, Nat.reduceAdd, Nat.reduceLeDiff, Nat.reduceEqDiff, Nat.reduceMul, Nat.reduceLT, reduceIte, true_or, or_true, cmp_lt, cmp_gt, cmp_eq, wb_0, b_01, cmp_lt', cmp_gt', cmp_eq', b_0, b_1, wb_1, Int.reduceSub, Int.reduceToNat, List.getD_cons_succ, List.getD_cons_zero, Int.reduceLE, Int.reduceLT, Int.reduceEq, Int.reduceNeg, Int.reduceAdd, Int.reduceMul, and_self, em_b, ne_eq, not_false_eq_true, not_true_eq_false]
            try rfl
          · rw [show obF true u.1 = u.1.1 from rfl] at mu
            simp only [if_true]
            rw [e_13_32]
            simp (disch := omega) only [e_13_34, e_13_35, e_13_38, e_13_41, e_13_43, e_13_44, e_13_47, e_13_50, e_13_53, e_13_55, e_13_56, e_13_59, e_13_60, e_13_63, e_13_65, e_13_66, e_13_68, e_13_69, e_13_72, e_13_74, e_13_77, e_13_80, e_13_82, e_13_83, e_13_84, e_13_87, e_13_88, e_13_91, e_13_93, e_13_96, e_13_99, e_13_100, e_13_103, e_13_105, e_13_108, e_13_109, e_13_110, e_13_112, e_13_113, e_13_114, e_13_116, e_13_119, e_13_122, c1, c2, q1, hA, h3, dn, br, b6', hfl', ej, mu, cmO_c, cmO_g0, cmO_k0, cmO_g1, cmO_k1, cmO_g2, cmO_k2, cmO_g3, cmO_k3, cmO_g4, cmO_k4, cmO_g5, cmO_k5, cmO_g6, cmO_k6, cmO_s0, cmO_s1, cmO_s2, cmO_s3, cmO_s4, cmO_s5, cmO_s6, hoO_c, hoO_g0, hoO_k0, hoO_g1, hoO_k1, hoO_g2, hoO_k2, hoO_g3, hoO_k3, hoO_g4, hoO_k4, hoO_g5, hoO_k5, hoO_g6, hoO_k6, hoO_g7, hoO_k7, hoO_g8, hoO_k8, hoO_g9, hoO_k9, hoO_s0, hoO_s1, hoO_s2, hoO_s9, iup_s, iup_n, hp_up1, hp_upn, ne_eq, not_false_eq_true, sh_0, sh_1, sh_2, sh_3, sh_4, sh_5, sh_8, sh_15, sh_16, sh_24, Int.reducePow, Int.cast_ofNat_Int, w_of, wl_of, ltT, ltF, leT, leF, eqT, eqF, okF_0, okF_s, gF_0, gF_s, consC_o, sF_0, sF_s, clsO_o, inA_i, ldA_i, stA_i, inJ_l, ldJ_l, stJ_l, inR_r, ldR_r, stR_r, tgR_r, lenA_i, lenA_l, lenA_r, lenA_ex, nl_i, nl_o, nl_l, nl_n, wd_n, wd_i, wd_l, wd_o, fit_i, fit_l, fit_o, K_v, K_n, true_and, and_true, Nat.reduceAdd, Nat.reduceLeDiff, Nat.reduceEqDiff, Nat.reduceMul, Nat.reduceLT, reduceIte, true_or, or_true, cmp_lt, cmp_gt, cmp_eq, wb_0, b_01, cmp_lt', cmp_gt', cmp_eq', b_0, b_1, wb_1, Int.reduceSub, Int.reduceToNat, List.getD_cons_succ, List.getD_cons_zero, Int.reduceLE, Int.reduceLT, Int.reduceEq, Int.reduceNeg, Int.reduceAdd, Int.reduceMul, and_self, em_b, ne_eq, not_false_eq_true, not_true_eq_false]
            try rfl
