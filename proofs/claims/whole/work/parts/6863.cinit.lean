/-! THE CLASS: a County out of the draft -/
def xup (X : Nat → PC) (r : Nat) (c : PC) : Nat → PC := fun k => if k = r then c else X k
theorem xup_s {X : Nat → PC} {r : Nat} {c : PC} : xup X r c r = c := if_pos rfl
theorem xup_n {X : Nat → PC} {r k : Nat} {c : PC} (h : k ≠ r) : xup X r c k = X k := if_neg h
theorem xup_xup {X : Nat → PC} {r : Nat} {c d : PC} : xup (xup X r c) r d = xup X r d := by funext k; unfold xup; by_cases h : k = r <;> simp [h]
/-- a heap with m cells more, from a on -/
def cH (h : PH) (a m sl : Nat) (X : Nat → PC) : PH := (a + m, h.2.1 + sl, fun k => if a ≤ k ∧ k < a + m then X (k - a) else h.2.2 k)
section ch
variable {h : PH} {a m sl : Nat} {X : Nat → PC}
theorem cH_1 : (cH h a m sl X).1 = a + m := rfl
theorem cH_lo {k : Nat} (hk : k < a) : hp (cH h a m sl X) k = hp h k := by
  unfold hp cH
  dsimp only
  rw [if_neg (by omega)]
theorem cH_0 (hm : 0 < m) : hp (cH h a m sl X) a = X 0 := by
  unfold hp cH
  dsimp only
  rw [if_pos ⟨by omega, by omega⟩, Nat.sub_self]
theorem cH_in {r : Nat} (hr : r < m) : hp (cH h a m sl X) (a + r) = X r := by
  unfold hp cH
  dsimp only
  rw [if_pos ⟨by omega, by omega⟩, show a + r - a = r by omega]
theorem cH_mk {n : Nat} {c : PC} : mk1 (cH h a m sl X) n c = cH h a (m + 1) (sl + n) (xup X m c) := by
  unfold mk1 cH xup
  refine Prod.ext rfl (Prod.ext (Nat.add_assoc _ _ _) (funext fun k => ?_))
  dsimp only
  by_cases e : k = a + m
  · rw [if_pos e, if_pos ⟨by omega, by omega⟩, if_pos (by omega)]
  · rw [if_neg e]
    by_cases e2 : a ≤ k ∧ k < a + m
    · rw [if_pos e2, if_pos ⟨by omega, by omega⟩, if_neg (by omega)]
    · rw [if_neg e2, if_neg (by omega)]
theorem cH_u {r : Nat} {c : PC} (hr : r < m) : hup (cH h a m sl X) (a + r) c = cH h a m sl (xup X r c) := by
  unfold hup cH xup
  refine Prod.ext rfl (Prod.ext rfl (funext fun k => ?_))
  dsimp only
  by_cases e : k = a + r
  · rw [if_pos e, if_pos ⟨by omega, by omega⟩, if_pos (by omega)]
  · rw [if_neg e]
    by_cases e2 : a ≤ k ∧ k < a + m
    · rw [if_pos e2, if_pos e2, if_neg (by omega)]
    · rw [if_neg e2, if_neg e2]
theorem cH_u0 {c : PC} (hm : 0 < m) : hup (cH h a m sl X) a c = cH h a m sl (xup X 0 c) := cH_u (r := 0) hm
end ch
theorem exA {n : Nat} {f : Int → Int} : (∃ k g, aI 0 n f = aI 0 k g) = True := eq_true ⟨n, f, rfl⟩
section ci
variable {h : PH} {a : Nat} {j : Nat → Int} {A : Nat → Int → Int} {c : KC} {C : List Int}
/-- what the draft's cells are -/
def rdX (h : PH) (j : Nat → Int) (A : Nat → Int → Int) : Prop := hp h 13 = rdO j ∧ hp h 14 = aI 0 900 (A 14) ∧ hp h 15 = aI 0 5 (A 15) ∧ hp h 16 = aI 0 5 (A 16) ∧ hp h 17 = aI 0 3 (A 17) ∧ hp h 18 = aI 0 3 (A 18) ∧ hp h 19 = aI 0 3 (A 19)
theorem cp_of {u : Nat} (ha : 20 ≤ a) (h14 : hp h 14 = aI 0 900 (A 14)) (hu : u ≤ 900) : ∃ g : Int → Int, (∀ k : Nat, k < u → g k = A 14 k) ∧ ∀ (sl : Nat) (X : Nat → PC) d Q, WP (d + 1) 327 0 [some (vr 14), some (vi u), none] [] (cH h a 4 sl X) Q = Q (some (vr (a + 4))) (cH h a 5 (sl + u) (xup X 4 (aI 0 u g))) := by
  have q9 : (a + 4 = 9) = False := eq_false (by omega)
  have t10 : (10 ≤ a + 4) = True := eq_true (by omega)
  by_cases q : u = 900
  · subst q
    refine ⟨A 14, fun k _ => rfl, fun sl X d Q => ?_⟩
    have h14' : hp (cH h a 4 sl X) 14 = aI 0 900 (A 14) := by rw [cH_lo (by omega)]; exact h14
    have e9 : ((900 : Nat) : Int) = 900 := rfl
    have cl := fun (d : Nat) (ls : PL) (st : List PV) (Q : PQ) => e_327_7 (d := d) (ls := ls) (st := st) (Q := Q) h14'
    rw [cH_mk] at cl
    simp (disch := omega) only [e_327_0, e_327_1, e_327_2, e_327_3, e_327_6, e_327_10, e_327_13, h14', e9, cl, cH_1, cH_in, xup_s, exA, q9, t10, ne_eq, not_false_eq_true, true_and, iup_s, iup_n, hp_up1, hp_upn, ne_eq, not_false_eq_true, sh_0, sh_1, sh_2, sh_3, sh_4, sh_5, sh_8, sh_15, sh_16, sh_24, Int.reducePow, Int.cast_ofNat_Int, w_of, wl_of, ltT, ltF, leT, leF, eqT, eqF, okF_0, okF_s, gF_0, gF_s, consC_o, sF_0, sF_s, clsO_o, inA_i, ldA_i, stA_i, inJ_l, ldJ_l, stJ_l, inR_r, ldR_r, stR_r, tgR_r, lenA_i, lenA_l, lenA_r, lenA_ex, nl_i, nl_o, nl_l, nl_n, wd_n, wd_i, wd_l, wd_o, fit_i, fit_l, fit_o, K_v, K_n, true_and, and_true, Nat.reduceAdd, Nat.reduceLeDiff, Nat.reduceEqDiff, Nat.reduceMul, Nat.reduceLT, reduceIte, true_or, or_true, cmp_lt, cmp_gt, cmp_eq, wb_0, b_01, cmp_lt', cmp_gt', cmp_eq', b_0, b_1, wb_1, Int.reduceSub, Int.reduceToNat, List.getD_cons_succ, List.getD_cons_zero, Int.reduceLE, Int.reduceLT, Int.reduceEq, Int.reduceNeg, Int.reduceAdd, Int.reduceMul, and_self, em_b, ne_eq, not_false_eq_true, not_true_eq_false]
    try rfl
  · refine ⟨fun k => if (0 : Int) ≤ k ∧ k < 0 + (u : Int) then A 14 (k - 0 + 0) else 0, fun k hk => ?_, fun sl X d Q => ?_⟩
    · dsimp only
      rw [if_pos (by omega)]
      congr 1
      try omega
    · have h14' : hp (cH h a 4 sl X) 14 = aI 0 900 (A 14) := by rw [cH_lo (by omega)]; exact h14
      have u0 : ¬ (u : Int) = 900 := by omega
      have e9 : ((900 : Nat) : Int) = 900 := rfl
      have z1 : 0 ≤ (u : Int) := by omega
      have z2 : (u : Int) ≤ 500000 := by omega
      have h14'' : hp (cH h a 5 (sl + u) (xup X 4 (aI 0 u (fun _ => 0)))) 14 = aI 0 900 (A 14) := by rw [cH_lo (by omega)]; exact h14
      have hb : hp (cH h a 5 (sl + u) (xup X 4 (aI 0 u (fun _ => 0)))) (a + 4) = aI 0 u (fun _ => 0) := by rw [cH_in (by omega), xup_s]
      have ac := fun (d : Nat) (ls : PL) (st : List PV) (Q : PQ) (ln dp sp : Int) => e_327_28 (d := d) (ls := ls) (st := st) (Q := Q) (ln := ln) (dp := dp) (sp := sp) h14'' hb
      have mn := fun (d : Nat) (h : PH) (Q : PQ) => m_min (d := d) (h := h) (Q := Q) (x := 900) (y := (u : Int))
      rw [w_of (by omega) (by omega), w_of (by omega) (by omega), if_pos (by omega)] at mn
      simp (disch := omega) only [e_327_0, e_327_1, e_327_2, e_327_3, e_327_14, e_327_15, e_327_17, e_327_18, e_327_19, e_327_20, e_327_21, e_327_22, e_327_23, e_327_24, e_327_25, e_327_31, e_327_32, h14', h14'', hb, e9, mn, ac, cH_mk, cH_1, cH_in, cH_u, xup_s, xup_xup, q9, t10, z1, z2, Int.toNat_natCast, ne_eq, not_false_eq_true, true_and, iup_s, iup_n, hp_up1, hp_upn, ne_eq, not_false_eq_true, sh_0, sh_1, sh_2, sh_3, sh_4, sh_5, sh_8, sh_15, sh_16, sh_24, Int.reducePow, Int.cast_ofNat_Int, w_of, wl_of, ltT, ltF, leT, leF, eqT, eqF, okF_0, okF_s, gF_0, gF_s, consC_o, sF_0, sF_s, clsO_o, inA_i, ldA_i, stA_i, inJ_l, ldJ_l, stJ_l, inR_r, ldR_r, stR_r, tgR_r, lenA_i, lenA_l, lenA_r, lenA_ex, nl_i, nl_o, nl_l, nl_n, wd_n, wd_i, wd_l, wd_o, fit_i, fit_l, fit_o, K_v, K_n, true_and, and_true, Nat.reduceAdd, Nat.reduceLeDiff, Nat.reduceEqDiff, Nat.reduceMul, Nat.reduceLT, reduceIte, true_or, or_true, cmp_lt, cmp_gt, cmp_eq, wb_0, b_01, cmp_lt', cmp_gt', cmp_eq', b_0, b_1, wb_1, Int.reduceSub, Int.reduceToNat, List.getD_cons_succ, List.getD_cons_zero, Int.reduceLE, Int.reduceLT, Int.reduceEq, Int.reduceNeg, Int.reduceAdd, Int.reduceMul, and_self, em_b, ne_eq, not_false_eq_true, not_true_eq_false]
      try rfl
end ci
