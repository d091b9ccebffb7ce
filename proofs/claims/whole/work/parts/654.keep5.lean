/-! Keeping: solve -/
/-- the path lies in an array -/
def pathA (c : KC) (P : List ST) (f : Int → Int) : Prop := ∀ (j : Nat) s, P[j]? = some s → f j = (encC c s : Int)
theorem path_in {P : List ST} {j : Nat} (h : j < P.length) : ∃ s, P[j]? = some s ∧ s ∈ P := ⟨P[j], List.getElem?_eq_getElem h, List.getElem_mem h⟩
/-- all of the path is marked endless -/
theorem k_markLp {c : KC} {n n2 kA l : Nat} {P : List ST} {fl : Int → Int} {l0 l1 l3 l4 l7 l8 l9 : Option PV} {x10 : Int} (hK : okK c) (hok : ∀ t, t ∈ P → okS c t) (hn : szC c ≤ n) (hn1 : n ≤ 24000) (hPl : P.length ≤ n2) (hn2 : n2 ≤ 24000) (hk10 : 10 ≤ kA) (hne : l ≠ kA) (hP : pathA c P fl) :
    ∀ (r j : Nat) (h : PH) (kn : Int → Int), j + r = P.length → hp h kA = aI 0 n kn → hp h l = aI 0 n2 fl →
    ∃ kn' : Int → Int, (∀ (k : Nat) t, j ≤ k → P[k]? = some t → kn' (encC c t) = 2147483647) ∧ (∀ t, okS c t → (∀ k : Nat, j ≤ k → P[k]? ≠ some t) → kn' (encC c t) = kn (encC c t)) ∧ ∀ d Q, WP d 53 85 [l0, l1, some (vr kA), l3, l4, some (vr l), some (vi P.length), l7, l8, l9, some (vi x10), some (vi j)] [] h Q = WP d 53 107 [l0, l1, some (vr kA), l3, l4, some (vr l), some (vi P.length), l7, l8, l9, some (vi x10), some (vi P.length)] [] (hup h kA (aI 0 n kn')) Q := by
  have h24 := szC_le hK
  intro r
  induction r with
  | zero =>
    intro j h kn hj hkn hl
    have e : j = P.length := by omega
    subst e
    refine ⟨kn, fun k t hk ht => ?_, fun t _ _ => rfl, fun d Q => ?_⟩
    · have := (List.getElem?_eq_some_iff.mp ht).1; omega
    · rw [hup_self hkn]
      rw [e_53_85]
      simp (disch := omega) only [e_53_87, e_53_89, iup_s, iup_n, hp_up1, hp_upn, ne_eq, not_false_eq_true, sh_0, sh_1, sh_2, sh_3, sh_4, sh_5, sh_8, sh_15, sh_16, sh_24, Int.reducePow, Int.cast_ofNat_Int, w_of, wl_of, ltT, ltF, leT, leF, eqT, eqF, okF_0, okF_s, gF_0, gF_s, consC_o, sF_0, sF_s, clsO_o, inA_i, ldA_i, stA_i, inJ_l, ldJ_l, stJ_l, inR_r, ldR_r, stR_r, tgR_r, lenA_i, lenA_l, lenA_r, lenA_ex, nl_i, nl_o, nl_l, nl_n, wd_n, wd_i, wd_l, wd_o, fit_i, fit_l, fit_o, K_v, K_n, true_and, and_true, Nat.reduceAdd, Nat.reduceLeDiff, Nat.reduceEqDiff, Nat.reduceMul, Nat.reduceLT, reduceIte, true_or, or_true, cmp_lt, cmp_gt, cmp_eq, wb_0, b_01, cmp_lt', cmp_gt', cmp_eq', b_0, b_1, wb_1, Int.reduceSub, Int.reduceToNat, List.getD_cons_succ, List.getD_cons_zero, Int.reduceLE, Int.reduceLT, Int.reduceEq, Int.reduceNeg, Int.reduceAdd, Int.reduceMul, and_self, em_b, ne_eq, not_false_eq_true, not_true_eq_false]
      try rfl
  | succ r ih =>
    intro j h kn hj hkn hl
    obtain ⟨s, hs, hsm⟩ := path_in (P := P) (j := j) (by omega)
    have hso := hok s hsm
    have hsl := encC_lt hK hso
    have hf := hP j s hs
    obtain ⟨kn', b1, b2, b3⟩ := ih (j + 1) (hup h kA (aI 0 n (fset kn (encC c s : Nat) 2147483647))) (fset kn (encC c s : Nat) 2147483647) (by omega) hp_up1 (by rw [hp_upn hne]; exact hl)
    refine ⟨kn', fun k t hk ht => ?_, fun t hto hno => ?_, fun d Q => ?_⟩
    · by_cases z : ∃ k' : Nat, j + 1 ≤ k' ∧ P[k']? = some t
      · obtain ⟨k', z1, z2⟩ := z
        exact b1 k' t z1 z2
      · have hkj : k = j := by
          by_cases w : k = j
          · exact w
          · exact absurd ⟨k, by omega, ht⟩ z
        rw [hkj, hs] at ht
        have et : s = t := Option.some.inj ht
        rw [← et] at z ⊢
        rw [b2 s hso (fun k' k1 k2 => z ⟨k', k1, k2⟩)]
        exact fs_same
    · rw [b2 t hto (fun k' k1 k2 => hno k' (by omega) k2)]
      refine fs_ne (fun w => ?_)
      have : t = s := encC_inj hK hto hso (by omega)
      exact hno j (Nat.le_refl _) (by rw [this]; exact hs)
    · have b3' := b3 d Q
      rw [hup_tt] at b3'
      rw [← b3']
      have ej : (j : Int) + 1 = ((j + 1 : Nat) : Int) := by omega
      rw [e_53_85]
      simp (disch := omega) only [e_53_87, e_53_89, e_53_92, e_53_93, e_53_95, e_53_97, e_53_98, e_53_100, e_53_101, e_53_104, hkn, hl, hf, hk10, true_and, ej, iup_s, iup_n, hp_up1, hp_upn, ne_eq, not_false_eq_true, sh_0, sh_1, sh_2, sh_3, sh_4, sh_5, sh_8, sh_15, sh_16, sh_24, Int.reducePow, Int.cast_ofNat_Int, w_of, wl_of, ltT, ltF, leT, leF, eqT, eqF, okF_0, okF_s, gF_0, gF_s, consC_o, sF_0, sF_s, clsO_o, inA_i, ldA_i, stA_i, inJ_l, ldJ_l, stJ_l, inR_r, ldR_r, stR_r, tgR_r, lenA_i, lenA_l, lenA_r, lenA_ex, nl_i, nl_o, nl_l, nl_n, wd_n, wd_i, wd_l, wd_o, fit_i, fit_l, fit_o, K_v, K_n, true_and, and_true, Nat.reduceAdd, Nat.reduceLeDiff, Nat.reduceEqDiff, Nat.reduceMul, Nat.reduceLT, reduceIte, true_or, or_true, cmp_lt, cmp_gt, cmp_eq, wb_0, b_01, cmp_lt', cmp_gt', cmp_eq', b_0, b_1, wb_1, Int.reduceSub, Int.reduceToNat, List.getD_cons_succ, List.getD_cons_zero, Int.reduceLE, Int.reduceLT, Int.reduceEq, Int.reduceNeg, Int.reduceAdd, Int.reduceMul, and_self, em_b, ne_eq, not_false_eq_true, not_true_eq_false]
      try rfl
