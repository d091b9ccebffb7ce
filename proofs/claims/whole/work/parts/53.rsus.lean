/-! THE REFERENCE: suspects -/
def gmk (c : KC) (sky : Nat) (P : ST → Nat → Prop) (L : List ST) (f : Int → Int) (K M : Nat) (y : ST) : Prop := ∃ (k m : Nat) (x : ST), (k < K ∨ k = K ∧ m < M) ∧ L[k]? = some x ∧ 0 < f k ∧ m < 19 ∧ P x m ∧ toM c sky x m = y
def gmI (c : KC) (sky : Nat) (P : ST → Nat → Prop) (L : List ST) (f g : Int → Int) (K M : Nat) : Prop := ∀ (t : Nat) y, L[t]? = some y → (g t = 1 ∧ gmk c sky P L f K M y) ∨ (g t = 0 ∧ ¬ gmk c sky P L f K M y)
theorem gm_same {c : KC} {sky : Nat} {P : ST → Nat → Prop} {L : List ST} {f g : Int → Int} {K M K' M' : Nat} (h : gmI c sky P L f g K M) (e : ∀ y, gmk c sky P L f K' M' y ↔ gmk c sky P L f K M y) : gmI c sky P L f g K' M' := by
  intro t y hy
  rcases h t y hy with ⟨h1, h2⟩ | ⟨h1, h2⟩
  · exact Or.inl ⟨h1, (e y).mpr h2⟩
  · exact Or.inr ⟨h1, fun z => h2 ((e y).mp z)⟩
theorem gm_skip {c : KC} {sky : Nat} {P : ST → Nat → Prop} {L : List ST} {f : Int → Int} {k : Nat} (hf : ¬ 0 < f k) (M : Nat) (y : ST) : gmk c sky P L f (k + 1) 0 y ↔ gmk c sky P L f k M y := by
  constructor
  · rintro ⟨k', m, x, h1, h2, h3, h4⟩
    have : k' ≠ k := fun z => hf (z ▸ h3)
    exact ⟨k', m, x, by omega, h2, h3, h4⟩
  · rintro ⟨k', m, x, h1, h2, h3, h4⟩
    have : k' ≠ k := fun z => hf (z ▸ h3)
    exact ⟨k', m, x, by omega, h2, h3, h4⟩
theorem gm_end {c : KC} {sky : Nat} {P : ST → Nat → Prop} {L : List ST} {f : Int → Int} {k : Nat} (y : ST) : gmk c sky P L f (k + 1) 0 y ↔ gmk c sky P L f k 19 y := by
  constructor
  · rintro ⟨k', m, x, h1, h2, h3, h4, h5⟩
    exact ⟨k', m, x, by omega, h2, h3, h4, h5⟩
  · rintro ⟨k', m, x, h1, h2, h3, h4, h5⟩
    exact ⟨k', m, x, by omega, h2, h3, h4, h5⟩
theorem gm_no {c : KC} {sky : Nat} {P : ST → Nat → Prop} {L : List ST} {f : Int → Int} {k m : Nat} {x : ST} (hx : L[k]? = some x) (h : ¬ P x m) (y : ST) : gmk c sky P L f k (m + 1) y ↔ gmk c sky P L f k m y := by
  constructor
  · rintro ⟨k', m', x', h1, h2, h3, h4, h5, h6⟩
    by_cases q : k' = k ∧ m' = m
    · obtain ⟨rfl, rfl⟩ := q
      rw [hx] at h2
      cases h2
      exact absurd h5 h
    · exact ⟨k', m', x', by omega, h2, h3, h4, h5, h6⟩
  · rintro ⟨k', m', x', h1, h2⟩
    exact ⟨k', m', x', by omega, h2⟩
theorem gm_yes {c : KC} {sky : Nat} {P : ST → Nat → Prop} {L : List ST} {f g : Int → Int} {F : ST → Int} {k m t : Nat} {x : ST} (hF : ∀ (j : Nat) x, L[j]? = some x → F x = (j : Int)) (hx : L[k]? = some x) (hf : 0 < f k) (hm : m < 19) (ha : P x m) (ht : L[t]? = some (toM c sky x m)) (h : gmI c sky P L f g k m) : gmI c sky P L f (fset g t 1) k (m + 1) := by
  intro t' y hy
  by_cases q : t' = t
  · subst q
    rw [ht] at hy
    cases hy
    exact Or.inl ⟨fs_same, k, m, x, Or.inr ⟨rfl, by omega⟩, hx, hf, hm, ha, rfl⟩
  · rw [fs_ne (by omega)]
    have e : gmk c sky P L f k (m + 1) y ↔ gmk c sky P L f k m y := by
      constructor
      · rintro ⟨k', m', x', h1, h2, h3, h4, h5, h6⟩
        by_cases q' : k' = k ∧ m' = m
        · obtain ⟨rfl, rfl⟩ := q'
          rw [hx] at h2
          cases h2
          rw [← h6] at hy
          have a := hF _ _ hy
          have b := hF _ _ ht
          rw [a] at b
          omega
        · exact ⟨k', m', x', by omega, h2, h3, h4, h5, h6⟩
      · rintro ⟨k', m', x', h1, h2⟩
        exact ⟨k', m', x', by omega, h2⟩
    rcases h t' y hy with ⟨h1, h2⟩ | ⟨h1, h2⟩
    · exact Or.inl ⟨h1, e.mpr h2⟩
    · exact Or.inr ⟨h1, fun z => h2 (e.mp z)⟩
theorem r_susM {h : PH} {c : KC} {sky k t so n : Nat} {s x : ST} {L : List ST} {i : Nat → Int} {T : TT} {l : List Int} {f o85 : Int → Int} {l2 l3 l4 : Int} (hO : okC c) (ht : t < 4) (e : T t = some (so, l)) (hn : n < l.length) (hl8 : l.length ≤ 8) (hon : onOK c sky l L o85 (n + 1)) (hx : L[k]? = some x) (ha : 0 < f k) (ha2 : f k < 9223372036854775808) :
    ∀ (r m : Nat) (A : Nat → Int → Int) (o8 : Option PV), m + r = 19 → ctyR (A 72) c → traR T A → laidR c sky 3 false s L i A → A 85 = o85 → A 83 = f → gmI c sky (okSB c sky l (l.length - (n + 1)) n) L f (A 84) k m → ∃ (g : Int → Int) (l8 : Option PV), gmI c sky (okSB c sky l (l.length - (n + 1)) n) L f g (k + 1) 0 ∧ ∀ d Q, WP (d + 4) 271 81 [some (vr 71), some (vi t), some (vi l2), some (vi l3), some (vi l4), some (vi n), some (vi k), some (vi m), o8] [] (mdH h i A) Q = WP (d + 4) 271 69 [some (vr 71), some (vi t), some (vi l2), some (vi l3), some (vi l4), some (vi n), some (vi ((k + 1 : Nat) : Int)), some (vi 19), l8] [] (mdH h i (aup A 84 g)) Q := by
  have hK := hO.1
  have hkl := (List.getElem?_eq_some_iff.mp hx).1
  intro r
  induction r with
  | zero =>
    intro m A o8 hm hR hT hL h85 h83 hI
    have hm' : m = 19 := by omega
    subst hm'
    refine ⟨A 84, o8, gm_same hI (fun y => gm_end y), fun d Q => ?_⟩
    rw [aup_id]
    rw [e_271_81]
    simp (disch := omega) only [e_271_83, e_271_85, e_271_168, e_271_171, mdO_c, mdO_g0, mdO_k0, mdO_g1, mdO_k1, mdO_g2, mdO_k2, mdO_g3, mdO_k3, mdO_g4, mdO_k4, mdO_g5, mdO_k5, mdO_g6, mdO_k6, mdO_g7, mdO_k7, mdO_g8, mdO_k8, mdO_g9, mdO_k9, mdO_g10, mdO_k10, mdO_g11, mdO_k11, mdO_g12, mdO_k12, mdO_g13, mdO_k13, mdO_g14, mdO_k14, mdO_g15, mdO_k15, mdO_g16, mdO_k16, mdO_g17, mdO_k17, mdO_g18, mdO_k18, mdO_g19, mdO_k19, mdO_g20, mdO_k20, mdO_g21, mdO_k21, mdO_g22, mdO_k22, mdO_g23, mdO_k23, mdO_g24, mdO_k24, mdO_g25, mdO_k25, mdO_g26, mdO_k26, mdO_g27, mdO_k27, mdO_g28, mdO_k28, mdO_g29, mdO_k29, mdO_g30, mdO_k30, mdO_g31, mdO_k31, mdO_g32, mdO_k32, mdO_g33, mdO_k33, mdO_g34, mdO_k34, mdO_g35, mdO_k35, mdO_s0, mdO_s5, mdO_s6, mdO_s7, mdO_s8, mdO_s9, mdO_s10, mdO_s11, mdO_s12, mdO_s13, mdO_s14, mdO_s15, mdO_s19, mdO_s20, mdO_s25, mdO_s26, mdO_s31, mdO_s32, md_1, md_2, md_g71, md_g72, md_g73, md_g74, md_g75, md_g76, md_g77, md_g78, md_g79, md_g80, md_g81, md_g82, md_g83, md_g84, md_g85, md_g86, md_g87, md_g88, md_g89, md_out, md_u71, md_u72, md_u73, md_u74, md_u75, md_u76, md_u77, md_u78, md_u79, md_u80, md_u81, md_u82, md_u83, md_u84, md_u85, md_u86, md_u87, md_u88, md_u89, md_uo, iup_s, iup_n, aup_s, aup_n, ne_eq, not_false_eq_true, sh_0, sh_1, sh_2, sh_3, sh_4, sh_5, sh_8, sh_15, sh_16, sh_24, Int.reducePow, Int.cast_ofNat_Int, w_of, wl_of, ltT, ltF, leT, leF, eqT, eqF, okF_0, okF_s, gF_0, gF_s, consC_o, sF_0, sF_s, clsO_o, inA_i, ldA_i, stA_i, inJ_l, ldJ_l, stJ_l, inR_r, ldR_r, stR_r, tgR_r, lenA_i, lenA_l, lenA_r, lenA_ex, nl_i, nl_o, nl_l, nl_n, wd_n, wd_i, wd_l, wd_o, fit_i, fit_l, fit_o, K_v, K_n, true_and, and_true, Nat.reduceAdd, Nat.reduceLeDiff, Nat.reduceEqDiff, Nat.reduceMul, Nat.reduceLT, reduceIte, true_or, or_true, cmp_lt, cmp_gt, cmp_eq, wb_0, b_01, cmp_lt', cmp_gt', cmp_eq', b_0, b_1, wb_1, Int.reduceSub, Int.reduceToNat, List.getD_cons_succ, List.getD_cons_zero, Int.reduceLE, Int.reduceLT, Int.reduceEq, Int.reduceNeg, Int.reduceAdd, Int.reduceMul, and_self, em_b, ne_eq, not_false_eq_true, not_true_eq_false]
    try rfl
  | succ r ih =>
    intro m A o8 hm hR hT hL h85 h83 hI
    have hlen := stkR_len hK hL.1
    have e83 : A 83 k = f k := by rw [h83]
    have e1 : (19 : Int) * (k : Int) + (m : Int) = ((19 * k + m : Nat) : Int) := by omega
    rcases hL.2.2.1 k m hkl (by omega) x hx with ⟨hal, q, h80, hq, -⟩ | ⟨hal, h80⟩
    · rw [alwM_3 hK] at hal
      have hql := (List.getElem?_eq_some_iff.mp hq).1
      have sn := fun (d : Nat) (Q : PQ) => r_isSeen (d := d) (h := h) (Q := Q) hO hR hT ht e hn hL.1 hq
      have e85 := hon q _ hq
      rw [← h85] at e85
      have e2 : (24000 : Int) * ((n : Int) + 1) + (q : Int) = ((24000 * (n + 1) + q : Nat) : Int) := by omega
      have h64 := cmF_64 (c := c) (sky := sky) (l := l) (r := l.length - (n + 1)) (lev := n + 1) (by omega) (toM c sky x m)
      by_cases w : fitB c l n (toM c sky x m) = true
      · simp only [w, if_true] at sn
        by_cases w2 : 0 < cmF c sky l (l.length - (n + 1)) (n + 1) (toM c sky x m)
        · obtain ⟨g, l8, g1, g2⟩ := ih (m + 1) (aup A 84 (fset (A 84) q 1)) (some (vi q)) (by omega) (ctyR_x hR (aup_n (by omega))) (traR_x hT (aup_n (by omega)) (aup_n (by omega)) (aup_n (by omega))) (laidR_x hL rfl (aup_n (by omega)) (aup_n (by omega)) (aup_n (by omega))) (by rw [aup_n (by omega)]; exact h85) (by rw [aup_n (by omega)]; exact h83) (by rw [aup_s]; exact gm_yes (F := fun x => A 82 (encR x)) (fun j x hx => (hL.1.2.2.1 j x hx).2) hx ha (by omega) ⟨hal, w, w2⟩ hq hI)
          refine ⟨g, l8, g1, fun d Q => ?_⟩
          have g2' := g2 d Q
          rw [aup_aup] at g2'
          rw [← g2']
          rw [e_271_81]
          simp (disch := omega) only [e_271_83, e_271_85, e_271_88, e_271_89, e_271_92, e_271_94, e_271_95, e_271_96, e_271_97, e_271_100, e_271_101, e_271_104, e_271_106, e_271_108, e_271_109, e_271_111, e_271_112, e_271_113, e_271_115, e_271_117, e_271_118, e_271_121, e_271_122, e_271_123, e_271_125, e_271_127, e_271_130, e_271_133, e_271_134, e_271_137, e_271_140, e_271_142, e_271_143, e_271_144, e_271_145, e_271_147, e_271_148, e_271_149, e_271_150, e_271_151, e_271_154, e_271_155, e_271_158, e_271_160, e_271_161, e_271_162, e_271_165, e1, h80, e83, sn, e2, e85, mdO_c, mdO_g0, mdO_k0, mdO_g1, mdO_k1, mdO_g2, mdO_k2, mdO_g3, mdO_k3, mdO_g4, mdO_k4, mdO_g5, mdO_k5, mdO_g6, mdO_k6, mdO_g7, mdO_k7, mdO_g8, mdO_k8, mdO_g9, mdO_k9, mdO_g10, mdO_k10, mdO_g11, mdO_k11, mdO_g12, mdO_k12, mdO_g13, mdO_k13, mdO_g14, mdO_k14, mdO_g15, mdO_k15, mdO_g16, mdO_k16, mdO_g17, mdO_k17, mdO_g18, mdO_k18, mdO_g19, mdO_k19, mdO_g20, mdO_k20, mdO_g21, mdO_k21, mdO_g22, mdO_k22, mdO_g23, mdO_k23, mdO_g24, mdO_k24, mdO_g25, mdO_k25, mdO_g26, mdO_k26, mdO_g27, mdO_k27, mdO_g28, mdO_k28, mdO_g29, mdO_k29, mdO_g30, mdO_k30, mdO_g31, mdO_k31, mdO_g32, mdO_k32, mdO_g33, mdO_k33, mdO_g34, mdO_k34, mdO_g35, mdO_k35, mdO_s0, mdO_s5, mdO_s6, mdO_s7, mdO_s8, mdO_s9, mdO_s10, mdO_s11, mdO_s12, mdO_s13, mdO_s14, mdO_s15, mdO_s19, mdO_s20, mdO_s25, mdO_s26, mdO_s31, mdO_s32, md_1, md_2, md_g71, md_g72, md_g73, md_g74, md_g75, md_g76, md_g77, md_g78, md_g79, md_g80, md_g81, md_g82, md_g83, md_g84, md_g85, md_g86, md_g87, md_g88, md_g89, md_out, md_u71, md_u72, md_u73, md_u74, md_u75, md_u76, md_u77, md_u78, md_u79, md_u80, md_u81, md_u82, md_u83, md_u84, md_u85, md_u86, md_u87, md_u88, md_u89, md_uo, iup_s, iup_n, aup_s, aup_n, ne_eq, not_false_eq_true, sh_0, sh_1, sh_2, sh_3, sh_4, sh_5, sh_8, sh_15, sh_16, sh_24, Int.reducePow, Int.cast_ofNat_Int, w_of, wl_of, ltT, ltF, leT, leF, eqT, eqF, okF_0, okF_s, gF_0, gF_s, consC_o, sF_0, sF_s, clsO_o, inA_i, ldA_i, stA_i, inJ_l, ldJ_l, stJ_l, inR_r, ldR_r, stR_r, tgR_r, lenA_i, lenA_l, lenA_r, lenA_ex, nl_i, nl_o, nl_l, nl_n, wd_n, wd_i, wd_l, wd_o, fit_i, fit_l, fit_o, K_v, K_n, true_and, and_true, Nat.reduceAdd, Nat.reduceLeDiff, Nat.reduceEqDiff, Nat.reduceMul, Nat.reduceLT, reduceIte, true_or, or_true, cmp_lt, cmp_gt, cmp_eq, wb_0, b_01, cmp_lt', cmp_gt', cmp_eq', b_0, b_1, wb_1, Int.reduceSub, Int.reduceToNat, List.getD_cons_succ, List.getD_cons_zero, Int.reduceLE, Int.reduceLT, Int.reduceEq, Int.reduceNeg, Int.reduceAdd, Int.reduceMul, and_self, em_b, ne_eq, not_false_eq_true, not_true_eq_false]
          try rfl
        · obtain ⟨g, l8, g1, g2⟩ := ih (m + 1) A (some (vi q)) (by omega) hR hT hL h85 h83 (gm_same hI (fun y => gm_no hx (fun z => w2 z.2.2) y))
          refine ⟨g, l8, g1, fun d Q => ?_⟩
          rw [← g2 d Q]
          rw [e_271_81]
          simp (disch := omega) only [e_271_83, e_271_85, e_271_88, e_271_89, e_271_92, e_271_94, e_271_95, e_271_96, e_271_97, e_271_100, e_271_101, e_271_104, e_271_106, e_271_108, e_271_109, e_271_111, e_271_112, e_271_113, e_271_115, e_271_117, e_271_118, e_271_121, e_271_122, e_271_123, e_271_125, e_271_127, e_271_130, e_271_133, e_271_134, e_271_137, e_271_140, e_271_142, e_271_143, e_271_144, e_271_145, e_271_147, e_271_148, e_271_149, e_271_150, e_271_151, e_271_154, e_271_155, e_271_158, e_271_160, e_271_161, e_271_162, e_271_165, e1, h80, e83, sn, e2, e85, mdO_c, mdO_g0, mdO_k0, mdO_g1, mdO_k1, mdO_g2, mdO_k2, mdO_g3, mdO_k3, mdO_g4, mdO_k4, mdO_g5, mdO_k5, mdO_g6, mdO_k6, mdO_g7, mdO_k7, mdO_g8, mdO_k8, mdO_g9, mdO_k9, mdO_g10, mdO_k10, mdO_g11, mdO_k11, mdO_g12, mdO_k12, mdO_g13, mdO_k13, mdO_g14, mdO_k14, mdO_g15, mdO_k15, mdO_g16, mdO_k16, mdO_g17, mdO_k17, mdO_g18, mdO_k18, mdO_g19, mdO_k19, mdO_g20, mdO_k20, mdO_g21, mdO_k21, mdO_g22, mdO_k22, mdO_g23, mdO_k23, mdO_g24, mdO_k24, mdO_g25, mdO_k25, mdO_g26, mdO_k26, mdO_g27, mdO_k27, mdO_g28, mdO_k28, mdO_g29, mdO_k29, mdO_g30, mdO_k30, mdO_g31, mdO_k31, mdO_g32, mdO_k32, mdO_g33, mdO_k33, mdO_g34, mdO_k34, mdO_g35, mdO_k35, mdO_s0, mdO_s5, mdO_s6, mdO_s7, mdO_s8, mdO_s9, mdO_s10, mdO_s11, mdO_s12, mdO_s13, mdO_s14, mdO_s15, mdO_s19, mdO_s20, mdO_s25, mdO_s26, mdO_s31, mdO_s32, md_1, md_2, md_g71, md_g72, md_g73, md_g74, md_g75, md_g76, md_g77, md_g78, md_g79, md_g80, md_g81, md_g82, md_g83, md_g84, md_g85, md_g86, md_g87, md_g88, md_g89, md_out, md_u71, md_u72, md_u73, md_u74, md_u75, md_u76, md_u77, md_u78, md_u79, md_u80, md_u81, md_u82, md_u83, md_u84, md_u85, md_u86, md_u87, md_u88, md_u89, md_uo, iup_s, iup_n, aup_s, aup_n, ne_eq, not_false_eq_true, sh_0, sh_1, sh_2, sh_3, sh_4, sh_5, sh_8, sh_15, sh_16, sh_24, Int.reducePow, Int.cast_ofNat_Int, w_of, wl_of, ltT, ltF, leT, leF, eqT, eqF, okF_0, okF_s, gF_0, gF_s, consC_o, sF_0, sF_s, clsO_o, inA_i, ldA_i, stA_i, inJ_l, ldJ_l, stJ_l, inR_r, ldR_r, stR_r, tgR_r, lenA_i, lenA_l, lenA_r, lenA_ex, nl_i, nl_o, nl_l, nl_n, wd_n, wd_i, wd_l, wd_o, fit_i, fit_l, fit_o, K_v, K_n, true_and, and_true, Nat.reduceAdd, Nat.reduceLeDiff, Nat.reduceEqDiff, Nat.reduceMul, Nat.reduceLT, reduceIte, true_or, or_true, cmp_lt, cmp_gt, cmp_eq, wb_0, b_01, cmp_lt', cmp_gt', cmp_eq', b_0, b_1, wb_1, Int.reduceSub, Int.reduceToNat, List.getD_cons_succ, List.getD_cons_zero, Int.reduceLE, Int.reduceLT, Int.reduceEq, Int.reduceNeg, Int.reduceAdd, Int.reduceMul, and_self, em_b, ne_eq, not_false_eq_true, not_true_eq_false]
          try rfl
      · simp only [w, if_false, Bool.false_eq_true] at sn
        obtain ⟨g, l8, g1, g2⟩ := ih (m + 1) A (some (vi q)) (by omega) hR hT hL h85 h83 (gm_same hI (fun y => gm_no hx (fun z => w z.2.1) y))
        refine ⟨g, l8, g1, fun d Q => ?_⟩
        rw [← g2 d Q]
        rw [e_271_81]
        simp (disch := omega) only [e_271_83, e_271_85, e_271_88, e_271_89, e_271_92, e_271_94, e_271_95, e_271_96, e_271_97, e_271_100, e_271_101, e_271_104, e_271_106, e_271_108, e_271_109, e_271_111, e_271_112, e_271_113, e_271_115, e_271_117, e_271_118, e_271_121, e_271_122, e_271_123, e_271_125, e_271_127, e_271_130, e_271_133, e_271_134, e_271_137, e_271_140, e_271_142, e_271_143, e_271_144, e_271_145, e_271_147, e_271_148, e_271_149, e_271_150, e_271_151, e_271_154, e_271_155, e_271_158, e_271_160, e_271_161, e_271_162, e_271_165, e1, h80, e83, sn, mdO_c, mdO_g0, mdO_k0, mdO_g1, mdO_k1, mdO_g2, mdO_k2, mdO_g3, mdO_k3, mdO_g4, mdO_k4, mdO_g5, mdO_k5, mdO_g6, mdO_k6, mdO_g7, mdO_k7, mdO_g8, mdO_k8, mdO_g9, mdO_k9, mdO_g10, mdO_k10, mdO_g11, mdO_k11, mdO_g12, mdO_k12, mdO_g13, mdO_k13, mdO_g14, mdO_k14, mdO_g15, mdO_k15, mdO_g16, mdO_k16, mdO_g17, mdO_k17, mdO_g18, mdO_k18, mdO_g19, mdO_k19, mdO_g20, mdO_k20, mdO_g21, mdO_k21, mdO_g22, mdO_k22, mdO_g23, mdO_k23, mdO_g24, mdO_k24, mdO_g25, mdO_k25, mdO_g26, mdO_k26, mdO_g27, mdO_k27, mdO_g28, mdO_k28, mdO_g29, mdO_k29, mdO_g30, mdO_k30, mdO_g31, mdO_k31, mdO_g32, mdO_k32, mdO_g33, mdO_k33, mdO_g34, mdO_k34, mdO_g35, mdO_k35, mdO_s0, mdO_s5, mdO_s6, mdO_s7, mdO_s8, mdO_s9, mdO_s10, mdO_s11, mdO_s12, mdO_s13, mdO_s14, mdO_s15, mdO_s19, mdO_s20, mdO_s25, mdO_s26, mdO_s31, mdO_s32, md_1, md_2, md_g71, md_g72, md_g73, md_g74, md_g75, md_g76, md_g77, md_g78, md_g79, md_g80, md_g81, md_g82, md_g83, md_g84, md_g85, md_g86, md_g87, md_g88, md_g89, md_out, md_u71, md_u72, md_u73, md_u74, md_u75, md_u76, md_u77, md_u78, md_u79, md_u80, md_u81, md_u82, md_u83, md_u84, md_u85, md_u86, md_u87, md_u88, md_u89, md_uo, iup_s, iup_n, aup_s, aup_n, ne_eq, not_false_eq_true, sh_0, sh_1, sh_2, sh_3, sh_4, sh_5, sh_8, sh_15, sh_16, sh_24, Int.reducePow, Int.cast_ofNat_Int, w_of, wl_of, ltT, ltF, leT, leF, eqT, eqF, okF_0, okF_s, gF_0, gF_s, consC_o, sF_0, sF_s, clsO_o, inA_i, ldA_i, stA_i, inJ_l, ldJ_l, stJ_l, inR_r, ldR_r, stR_r, tgR_r, lenA_i, lenA_l, lenA_r, lenA_ex, nl_i, nl_o, nl_l, nl_n, wd_n, wd_i, wd_l, wd_o, fit_i, fit_l, fit_o, K_v, K_n, true_and, and_true, Nat.reduceAdd, Nat.reduceLeDiff, Nat.reduceEqDiff, Nat.reduceMul, Nat.reduceLT, reduceIte, true_or, or_true, cmp_lt, cmp_gt, cmp_eq, wb_0, b_01, cmp_lt', cmp_gt', cmp_eq', b_0, b_1, wb_1, Int.reduceSub, Int.reduceToNat, List.getD_cons_succ, List.getD_cons_zero, Int.reduceLE, Int.reduceLT, Int.reduceEq, Int.reduceNeg, Int.reduceAdd, Int.reduceMul, and_self, em_b, ne_eq, not_false_eq_true, not_true_eq_false]
        try rfl
    · rw [alwM_3 hK] at hal
      obtain ⟨g, l8, g1, g2⟩ := ih (m + 1) A (some (vi (-1))) (by omega) hR hT hL h85 h83 (gm_same hI (fun y => gm_no hx (fun z => by have z1 := z.1; rw [hal] at z1; cases z1) y))
      refine ⟨g, l8, g1, fun d Q => ?_⟩
      rw [← g2 d Q]
      rw [e_271_81]
      simp (disch := omega) only [e_271_83, e_271_85, e_271_88, e_271_89, e_271_92, e_271_94, e_271_95, e_271_96, e_271_97, e_271_100, e_271_101, e_271_104, e_271_106, e_271_108, e_271_109, e_271_111, e_271_112, e_271_113, e_271_115, e_271_117, e_271_118, e_271_121, e_271_122, e_271_123, e_271_125, e_271_127, e_271_130, e_271_133, e_271_134, e_271_137, e_271_140, e_271_142, e_271_143, e_271_144, e_271_145, e_271_147, e_271_148, e_271_149, e_271_150, e_271_151, e_271_154, e_271_155, e_271_158, e_271_160, e_271_161, e_271_162, e_271_165, e1, h80, e83, mdO_c, mdO_g0, mdO_k0, mdO_g1, mdO_k1, mdO_g2, mdO_k2, mdO_g3, mdO_k3, mdO_g4, mdO_k4, mdO_g5, mdO_k5, mdO_g6, mdO_k6, mdO_g7, mdO_k7, mdO_g8, mdO_k8, mdO_g9, mdO_k9, mdO_g10, mdO_k10, mdO_g11, mdO_k11, mdO_g12, mdO_k12, mdO_g13, mdO_k13, mdO_g14, mdO_k14, mdO_g15, mdO_k15, mdO_g16, mdO_k16, mdO_g17, mdO_k17, mdO_g18, mdO_k18, mdO_g19, mdO_k19, mdO_g20, mdO_k20, mdO_g21, mdO_k21, mdO_g22, mdO_k22, mdO_g23, mdO_k23, mdO_g24, mdO_k24, mdO_g25, mdO_k25, mdO_g26, mdO_k26, mdO_g27, mdO_k27, mdO_g28, mdO_k28, mdO_g29, mdO_k29, mdO_g30, mdO_k30, mdO_g31, mdO_k31, mdO_g32, mdO_k32, mdO_g33, mdO_k33, mdO_g34, mdO_k34, mdO_g35, mdO_k35, mdO_s0, mdO_s5, mdO_s6, mdO_s7, mdO_s8, mdO_s9, mdO_s10, mdO_s11, mdO_s12, mdO_s13, mdO_s14, mdO_s15, mdO_s19, mdO_s20, mdO_s25, mdO_s26, mdO_s31, mdO_s32, md_1, md_2, md_g71, md_g72, md_g73, md_g74, md_g75, md_g76, md_g77, md_g78, md_g79, md_g80, md_g81, md_g82, md_g83, md_g84, md_g85, md_g86, md_g87, md_g88, md_g89, md_out, md_u71, md_u72, md_u73, md_u74, md_u75, md_u76, md_u77, md_u78, md_u79, md_u80, md_u81, md_u82, md_u83, md_u84, md_u85, md_u86, md_u87, md_u88, md_u89, md_uo, iup_s, iup_n, aup_s, aup_n, ne_eq, not_false_eq_true, sh_0, sh_1, sh_2, sh_3, sh_4, sh_5, sh_8, sh_15, sh_16, sh_24, Int.reducePow, Int.cast_ofNat_Int, w_of, wl_of, ltT, ltF, leT, leF, eqT, eqF, okF_0, okF_s, gF_0, gF_s, consC_o, sF_0, sF_s, clsO_o, inA_i, ldA_i, stA_i, inJ_l, ldJ_l, stJ_l, inR_r, ldR_r, stR_r, tgR_r, lenA_i, lenA_l, lenA_r, lenA_ex, nl_i, nl_o, nl_l, nl_n, wd_n, wd_i, wd_l, wd_o, fit_i, fit_l, fit_o, K_v, K_n, true_and, and_true, Nat.reduceAdd, Nat.reduceLeDiff, Nat.reduceEqDiff, Nat.reduceMul, Nat.reduceLT, reduceIte, true_or, or_true, cmp_lt, cmp_gt, cmp_eq, wb_0, b_01, cmp_lt', cmp_gt', cmp_eq', b_0, b_1, wb_1, Int.reduceSub, Int.reduceToNat, List.getD_cons_succ, List.getD_cons_zero, Int.reduceLE, Int.reduceLT, Int.reduceEq, Int.reduceNeg, Int.reduceAdd, Int.reduceMul, and_self, em_b, ne_eq, not_false_eq_true, not_true_eq_false]
      try rfl
theorem r_susK {h : PH} {c : KC} {sky t so n : Nat} {s : ST} {L : List ST} {i : Nat → Int} {T : TT} {l : List Int} {f o85 : Int → Int} {l2 l3 l4 : Int} (hO : okC c) (ht : t < 4) (e : T t = some (so, l)) (hn : n < l.length) (hl8 : l.length ≤ 8) (hon : onOK c sky l L o85 (n + 1)) (hf : ∀ k : Nat, k < L.length → 0 ≤ f k ∧ f k < 9223372036854775808) :
    ∀ (r k : Nat) (A : Nat → Int → Int) (o7 o8 : Option PV), k + r = L.length → ctyR (A 72) c → traR T A → laidR c sky 3 false s L i A → A 85 = o85 → A 83 = f → gmI c sky (okSB c sky l (l.length - (n + 1)) n) L f (A 84) k 0 → ∃ (g : Int → Int) (l7 l8 : Option PV), gmI c sky (okSB c sky l (l.length - (n + 1)) n) L f g L.length 0 ∧ ∀ d Q, WP (d + 4) 271 69 [some (vr 71), some (vi t), some (vi l2), some (vi l3), some (vi l4), some (vi n), some (vi k), o7, o8] [] (mdH h i A) Q = WP (d + 4) 271 174 [some (vr 71), some (vi t), some (vi l2), some (vi l3), some (vi l4), some (vi n), some (vi L.length), l7, l8] [] (mdH h i (aup A 84 g)) Q := by
  have hK := hO.1
  intro r
  induction r with
  | zero =>
    intro k A o7 o8 hk hR hT hL h85 h83 hI
    have hk' : k = L.length := by omega
    subst hk'
    have h25 := hL.1.1
    have hlen := stkR_len hK hL.1
    refine ⟨A 84, o7, o8, hI, fun d Q => ?_⟩
    rw [aup_id]
    rw [e_271_69]
    simp (disch := omega) only [e_271_71, e_271_72, e_271_75, h25, mdO_c, mdO_g0, mdO_k0, mdO_g1, mdO_k1, mdO_g2, mdO_k2, mdO_g3, mdO_k3, mdO_g4, mdO_k4, mdO_g5, mdO_k5, mdO_g6, mdO_k6, mdO_g7, mdO_k7, mdO_g8, mdO_k8, mdO_g9, mdO_k9, mdO_g10, mdO_k10, mdO_g11, mdO_k11, mdO_g12, mdO_k12, mdO_g13, mdO_k13, mdO_g14, mdO_k14, mdO_g15, mdO_k15, mdO_g16, mdO_k16, mdO_g17, mdO_k17, mdO_g18, mdO_k18, mdO_g19, mdO_k19, mdO_g20, mdO_k20, mdO_g21, mdO_k21, mdO_g22, mdO_k22, mdO_g23, mdO_k23, mdO_g24, mdO_k24, mdO_g25, mdO_k25, mdO_g26, mdO_k26, mdO_g27, mdO_k27, mdO_g28, mdO_k28, mdO_g29, mdO_k29, mdO_g30, mdO_k30, mdO_g31, mdO_k31, mdO_g32, mdO_k32, mdO_g33, mdO_k33, mdO_g34, mdO_k34, mdO_g35, mdO_k35, mdO_s0, mdO_s5, mdO_s6, mdO_s7, mdO_s8, mdO_s9, mdO_s10, mdO_s11, mdO_s12, mdO_s13, mdO_s14, mdO_s15, mdO_s19, mdO_s20, mdO_s25, mdO_s26, mdO_s31, mdO_s32, md_1, md_2, md_g71, md_g72, md_g73, md_g74, md_g75, md_g76, md_g77, md_g78, md_g79, md_g80, md_g81, md_g82, md_g83, md_g84, md_g85, md_g86, md_g87, md_g88, md_g89, md_out, md_u71, md_u72, md_u73, md_u74, md_u75, md_u76, md_u77, md_u78, md_u79, md_u80, md_u81, md_u82, md_u83, md_u84, md_u85, md_u86, md_u87, md_u88, md_u89, md_uo, iup_s, iup_n, aup_s, aup_n, ne_eq, not_false_eq_true, sh_0, sh_1, sh_2, sh_3, sh_4, sh_5, sh_8, sh_15, sh_16, sh_24, Int.reducePow, Int.cast_ofNat_Int, w_of, wl_of, ltT, ltF, leT, leF, eqT, eqF, okF_0, okF_s, gF_0, gF_s, consC_o, sF_0, sF_s, clsO_o, inA_i, ldA_i, stA_i, inJ_l, ldJ_l, stJ_l, inR_r, ldR_r, stR_r, tgR_r, lenA_i, lenA_l, lenA_r, lenA_ex, nl_i, nl_o, nl_l, nl_n, wd_n, wd_i, wd_l, wd_o, fit_i, fit_l, fit_o, K_v, K_n, true_and, and_true, Nat.reduceAdd, Nat.reduceLeDiff, Nat.reduceEqDiff, Nat.reduceMul, Nat.reduceLT, reduceIte, true_or, or_true, cmp_lt, cmp_gt, cmp_eq, wb_0, b_01, cmp_lt', cmp_gt', cmp_eq', b_0, b_1, wb_1, Int.reduceSub, Int.reduceToNat, List.getD_cons_succ, List.getD_cons_zero, Int.reduceLE, Int.reduceLT, Int.reduceEq, Int.reduceNeg, Int.reduceAdd, Int.reduceMul, and_self, em_b, ne_eq, not_false_eq_true, not_true_eq_false]
  | succ r ih =>
    intro k A o7 o8 hk hR hT hL h85 h83 hI
    have hkl : k < L.length := by omega
    have h25 := hL.1.1
    have hlen := stkR_len hK hL.1
    have hx : L[k]? = some L[k] := List.getElem?_eq_getElem hkl
    generalize L[k] = x at hx
    have hfk := hf k hkl
    by_cases q : f k = 0
    · obtain ⟨g, l7, l8, g1, g2⟩ := ih (k + 1) A (some (vi 0)) o8 (by omega) hR hT hL h85 h83 (gm_same hI (fun y => gm_skip (by omega) 0 y))
      refine ⟨g, l7, l8, g1, fun d Q => ?_⟩
      have e83 : A 83 k = 0 := by rw [h83]; exact q
      rw [← g2 d Q]
      rw [e_271_69]
      simp (disch := omega) only [e_271_71, e_271_72, e_271_75, e_271_78, e_271_79, h25, mdO_c, mdO_g0, mdO_k0, mdO_g1, mdO_k1, mdO_g2, mdO_k2, mdO_g3, mdO_k3, mdO_g4, mdO_k4, mdO_g5, mdO_k5, mdO_g6, mdO_k6, mdO_g7, mdO_k7, mdO_g8, mdO_k8, mdO_g9, mdO_k9, mdO_g10, mdO_k10, mdO_g11, mdO_k11, mdO_g12, mdO_k12, mdO_g13, mdO_k13, mdO_g14, mdO_k14, mdO_g15, mdO_k15, mdO_g16, mdO_k16, mdO_g17, mdO_k17, mdO_g18, mdO_k18, mdO_g19, mdO_k19, mdO_g20, mdO_k20, mdO_g21, mdO_k21, mdO_g22, mdO_k22, mdO_g23, mdO_k23, mdO_g24, mdO_k24, mdO_g25, mdO_k25, mdO_g26, mdO_k26, mdO_g27, mdO_k27, mdO_g28, mdO_k28, mdO_g29, mdO_k29, mdO_g30, mdO_k30, mdO_g31, mdO_k31, mdO_g32, mdO_k32, mdO_g33, mdO_k33, mdO_g34, mdO_k34, mdO_g35, mdO_k35, mdO_s0, mdO_s5, mdO_s6, mdO_s7, mdO_s8, mdO_s9, mdO_s10, mdO_s11, mdO_s12, mdO_s13, mdO_s14, mdO_s15, mdO_s19, mdO_s20, mdO_s25, mdO_s26, mdO_s31, mdO_s32, md_1, md_2, md_g71, md_g72, md_g73, md_g74, md_g75, md_g76, md_g77, md_g78, md_g79, md_g80, md_g81, md_g82, md_g83, md_g84, md_g85, md_g86, md_g87, md_g88, md_g89, md_out, md_u71, md_u72, md_u73, md_u74, md_u75, md_u76, md_u77, md_u78, md_u79, md_u80, md_u81, md_u82, md_u83, md_u84, md_u85, md_u86, md_u87, md_u88, md_u89, md_uo, iup_s, iup_n, aup_s, aup_n, ne_eq, not_false_eq_true, sh_0, sh_1, sh_2, sh_3, sh_4, sh_5, sh_8, sh_15, sh_16, sh_24, Int.reducePow, Int.cast_ofNat_Int, w_of, wl_of, ltT, ltF, leT, leF, eqT, eqF, okF_0, okF_s, gF_0, gF_s, consC_o, sF_0, sF_s, clsO_o, inA_i, ldA_i, stA_i, inJ_l, ldJ_l, stJ_l, inR_r, ldR_r, stR_r, tgR_r, lenA_i, lenA_l, lenA_r, lenA_ex, nl_i, nl_o, nl_l, nl_n, wd_n, wd_i, wd_l, wd_o, fit_i, fit_l, fit_o, K_v, K_n, true_and, and_true, Nat.reduceAdd, Nat.reduceLeDiff, Nat.reduceEqDiff, Nat.reduceMul, Nat.reduceLT, reduceIte, true_or, or_true, cmp_lt, cmp_gt, cmp_eq, wb_0, b_01, cmp_lt', cmp_gt', cmp_eq', b_0, b_1, wb_1, Int.reduceSub, Int.reduceToNat, List.getD_cons_succ, List.getD_cons_zero, Int.reduceLE, Int.reduceLT, Int.reduceEq, Int.reduceNeg, Int.reduceAdd, Int.reduceMul, and_self, em_b, ne_eq, not_false_eq_true, not_true_eq_false]
      rw [e_271_81]
      simp (disch := omega) only [e_271_83, e_271_85, e_271_88, e_271_89, e_271_92, e_271_94, e_271_95, e_271_96, e_271_97, e_271_168, e_271_171, e83, mdO_c, mdO_g0, mdO_k0, mdO_g1, mdO_k1, mdO_g2, mdO_k2, mdO_g3, mdO_k3, mdO_g4, mdO_k4, mdO_g5, mdO_k5, mdO_g6, mdO_k6, mdO_g7, mdO_k7, mdO_g8, mdO_k8, mdO_g9, mdO_k9, mdO_g10, mdO_k10, mdO_g11, mdO_k11, mdO_g12, mdO_k12, mdO_g13, mdO_k13, mdO_g14, mdO_k14, mdO_g15, mdO_k15, mdO_g16, mdO_k16, mdO_g17, mdO_k17, mdO_g18, mdO_k18, mdO_g19, mdO_k19, mdO_g20, mdO_k20, mdO_g21, mdO_k21, mdO_g22, mdO_k22, mdO_g23, mdO_k23, mdO_g24, mdO_k24, mdO_g25, mdO_k25, mdO_g26, mdO_k26, mdO_g27, mdO_k27, mdO_g28, mdO_k28, mdO_g29, mdO_k29, mdO_g30, mdO_k30, mdO_g31, mdO_k31, mdO_g32, mdO_k32, mdO_g33, mdO_k33, mdO_g34, mdO_k34, mdO_g35, mdO_k35, mdO_s0, mdO_s5, mdO_s6, mdO_s7, mdO_s8, mdO_s9, mdO_s10, mdO_s11, mdO_s12, mdO_s13, mdO_s14, mdO_s15, mdO_s19, mdO_s20, mdO_s25, mdO_s26, mdO_s31, mdO_s32, md_1, md_2, md_g71, md_g72, md_g73, md_g74, md_g75, md_g76, md_g77, md_g78, md_g79, md_g80, md_g81, md_g82, md_g83, md_g84, md_g85, md_g86, md_g87, md_g88, md_g89, md_out, md_u71, md_u72, md_u73, md_u74, md_u75, md_u76, md_u77, md_u78, md_u79, md_u80, md_u81, md_u82, md_u83, md_u84, md_u85, md_u86, md_u87, md_u88, md_u89, md_uo, iup_s, iup_n, aup_s, aup_n, ne_eq, not_false_eq_true, sh_0, sh_1, sh_2, sh_3, sh_4, sh_5, sh_8, sh_15, sh_16, sh_24, Int.reducePow, Int.cast_ofNat_Int, w_of, wl_of, ltT, ltF, leT, leF, eqT, eqF, okF_0, okF_s, gF_0, gF_s, consC_o, sF_0, sF_s, clsO_o, inA_i, ldA_i, stA_i, inJ_l, ldJ_l, stJ_l, inR_r, ldR_r, stR_r, tgR_r, lenA_i, lenA_l, lenA_r, lenA_ex, nl_i, nl_o, nl_l, nl_n, wd_n, wd_i, wd_l, wd_o, fit_i, fit_l, fit_o, K_v, K_n, true_and, and_true, Nat.reduceAdd, Nat.reduceLeDiff, Nat.reduceEqDiff, Nat.reduceMul, Nat.reduceLT, reduceIte, true_or, or_true, cmp_lt, cmp_gt, cmp_eq, wb_0, b_01, cmp_lt', cmp_gt', cmp_eq', b_0, b_1, wb_1, Int.reduceSub, Int.reduceToNat, List.getD_cons_succ, List.getD_cons_zero, Int.reduceLE, Int.reduceLT, Int.reduceEq, Int.reduceNeg, Int.reduceAdd, Int.reduceMul, and_self, em_b, ne_eq, not_false_eq_true, not_true_eq_false]
      try rfl
    · obtain ⟨g0, n8, k1, k2⟩ := r_susM (h := h) (s := s) (i := i) (l2 := l2) (l3 := l3) (l4 := l4) hO ht e hn hl8 hon hx (show 0 < f k by omega) hfk.2 19 0 A o8 (by omega) hR hT hL h85 h83 hI
      obtain ⟨g, l7, l8, g1, g2⟩ := ih (k + 1) (aup A 84 g0) (some (vi 19)) n8 (by omega) (ctyR_x hR (aup_n (by omega))) (traR_x hT (aup_n (by omega)) (aup_n (by omega)) (aup_n (by omega))) (laidR_x hL rfl (aup_n (by omega)) (aup_n (by omega)) (aup_n (by omega))) (by rw [aup_n (by omega)]; exact h85) (by rw [aup_n (by omega)]; exact h83) (by rw [aup_s]; exact k1)
      refine ⟨g, l7, l8, g1, fun d Q => ?_⟩
      have g2' := g2 d Q
      rw [aup_aup] at g2'
      have k2' := k2 d Q
      rw [nc0] at k2'
      rw [← g2', ← k2']
      rw [e_271_69]
      simp (disch := omega) only [e_271_71, e_271_72, e_271_75, e_271_78, e_271_79, h25, mdO_c, mdO_g0, mdO_k0, mdO_g1, mdO_k1, mdO_g2, mdO_k2, mdO_g3, mdO_k3, mdO_g4, mdO_k4, mdO_g5, mdO_k5, mdO_g6, mdO_k6, mdO_g7, mdO_k7, mdO_g8, mdO_k8, mdO_g9, mdO_k9, mdO_g10, mdO_k10, mdO_g11, mdO_k11, mdO_g12, mdO_k12, mdO_g13, mdO_k13, mdO_g14, mdO_k14, mdO_g15, mdO_k15, mdO_g16, mdO_k16, mdO_g17, mdO_k17, mdO_g18, mdO_k18, mdO_g19, mdO_k19, mdO_g20, mdO_k20, mdO_g21, mdO_k21, mdO_g22, mdO_k22, mdO_g23, mdO_k23, mdO_g24, mdO_k24, mdO_g25, mdO_k25, mdO_g26, mdO_k26, mdO_g27, mdO_k27, mdO_g28, mdO_k28, mdO_g29, mdO_k29, mdO_g30, mdO_k30, mdO_g31, mdO_k31, mdO_g32, mdO_k32, mdO_g33, mdO_k33, mdO_g34, mdO_k34, mdO_g35, mdO_k35, mdO_s0, mdO_s5, mdO_s6, mdO_s7, mdO_s8, mdO_s9, mdO_s10, mdO_s11, mdO_s12, mdO_s13, mdO_s14, mdO_s15, mdO_s19, mdO_s20, mdO_s25, mdO_s26, mdO_s31, mdO_s32, md_1, md_2, md_g71, md_g72, md_g73, md_g74, md_g75, md_g76, md_g77, md_g78, md_g79, md_g80, md_g81, md_g82, md_g83, md_g84, md_g85, md_g86, md_g87, md_g88, md_g89, md_out, md_u71, md_u72, md_u73, md_u74, md_u75, md_u76, md_u77, md_u78, md_u79, md_u80, md_u81, md_u82, md_u83, md_u84, md_u85, md_u86, md_u87, md_u88, md_u89, md_uo, iup_s, iup_n, aup_s, aup_n, ne_eq, not_false_eq_true, sh_0, sh_1, sh_2, sh_3, sh_4, sh_5, sh_8, sh_15, sh_16, sh_24, Int.reducePow, Int.cast_ofNat_Int, w_of, wl_of, ltT, ltF, leT, leF, eqT, eqF, okF_0, okF_s, gF_0, gF_s, consC_o, sF_0, sF_s, clsO_o, inA_i, ldA_i, stA_i, inJ_l, ldJ_l, stJ_l, inR_r, ldR_r, stR_r, tgR_r, lenA_i, lenA_l, lenA_r, lenA_ex, nl_i, nl_o, nl_l, nl_n, wd_n, wd_i, wd_l, wd_o, fit_i, fit_l, fit_o, K_v, K_n, true_and, and_true, Nat.reduceAdd, Nat.reduceLeDiff, Nat.reduceEqDiff, Nat.reduceMul, Nat.reduceLT, reduceIte, true_or, or_true, cmp_lt, cmp_gt, cmp_eq, wb_0, b_01, cmp_lt', cmp_gt', cmp_eq', b_0, b_1, wb_1, Int.reduceSub, Int.reduceToNat, List.getD_cons_succ, List.getD_cons_zero, Int.reduceLE, Int.reduceLT, Int.reduceEq, Int.reduceNeg, Int.reduceAdd, Int.reduceMul, and_self, em_b, ne_eq, not_false_eq_true, not_true_eq_false]
theorem r_susH {h : PH} {c : KC} {sky t so I : Nat} {s : ST} {L : List ST} {i : Nat → Int} {T : TT} {l : List Int} {o85 : Int → Int} {l3 l4 : Int} (hO : okC c) (ht : t < 4) (e : T t = some (so, l)) (hl8 : l.length ≤ 8) (hI : I < l.length) (hon : ∀ v, v ≤ l.length → onOK c sky l L o85 v) :
    ∀ (r n : Nat) (A : Nat → Int → Int) (o6 o7 o8 : Option PV), n + r = I + 1 → ctyR (A 72) c → traR T A → laidR c sky 3 false s L i A → A 85 = o85 → zer L (A 84) → (∀ k : Nat, k < L.length → 0 ≤ A 83 k ∧ A 83 k < 9223372036854775808) → (∀ (k : Nat) x, L[k]? = some x → (0 < A 83 k ↔ fwS c sky l n s x ∧ 0 < cmF c sky l (l.length - n) n x)) →
    ∃ (f g : Int → Int) (l6 l7 l8 : Option PV), (∀ k : Nat, k < L.length → 0 ≤ f k ∧ f k < 9223372036854775808) ∧ (∀ (k : Nat) x, L[k]? = some x → (0 < f k ↔ fwS c sky l (I + 1) s x ∧ 0 < cmF c sky l (l.length - (I + 1)) (I + 1) x)) ∧ ∀ d Q, WP (d + 4) 271 60 [some (vr 71), some (vi t), some (vi I), some (vi l3), some (vi l4), some (vi n), o6, o7, o8] [] (mdH h i A) Q = WP (d + 4) 271 184 [some (vr 71), some (vi t), some (vi I), some (vi l3), some (vi l4), some (vi ((I + 1 : Nat) : Int)), l6, l7, l8] [] (mdH h i (aup (aup A 83 f) 84 g)) Q := by
  have hK := hO.1
  intro r
  induction r with
  | zero =>
    intro n A o6 o7 o8 hn hR hT hL h85 hz hb hm
    have hn' : n = I + 1 := by omega
    subst hn'
    refine ⟨A 83, A 84, o6, o7, o8, hb, hm, fun d Q => ?_⟩
    rw [aup_id, aup_id]
    rw [e_271_60]
    simp (disch := omega) only [e_271_62, e_271_63, mdO_c, mdO_g0, mdO_k0, mdO_g1, mdO_k1, mdO_g2, mdO_k2, mdO_g3, mdO_k3, mdO_g4, mdO_k4, mdO_g5, mdO_k5, mdO_g6, mdO_k6, mdO_g7, mdO_k7, mdO_g8, mdO_k8, mdO_g9, mdO_k9, mdO_g10, mdO_k10, mdO_g11, mdO_k11, mdO_g12, mdO_k12, mdO_g13, mdO_k13, mdO_g14, mdO_k14, mdO_g15, mdO_k15, mdO_g16, mdO_k16, mdO_g17, mdO_k17, mdO_g18, mdO_k18, mdO_g19, mdO_k19, mdO_g20, mdO_k20, mdO_g21, mdO_k21, mdO_g22, mdO_k22, mdO_g23, mdO_k23, mdO_g24, mdO_k24, mdO_g25, mdO_k25, mdO_g26, mdO_k26, mdO_g27, mdO_k27, mdO_g28, mdO_k28, mdO_g29, mdO_k29, mdO_g30, mdO_k30, mdO_g31, mdO_k31, mdO_g32, mdO_k32, mdO_g33, mdO_k33, mdO_g34, mdO_k34, mdO_g35, mdO_k35, mdO_s0, mdO_s5, mdO_s6, mdO_s7, mdO_s8, mdO_s9, mdO_s10, mdO_s11, mdO_s12, mdO_s13, mdO_s14, mdO_s15, mdO_s19, mdO_s20, mdO_s25, mdO_s26, mdO_s31, mdO_s32, md_1, md_2, md_g71, md_g72, md_g73, md_g74, md_g75, md_g76, md_g77, md_g78, md_g79, md_g80, md_g81, md_g82, md_g83, md_g84, md_g85, md_g86, md_g87, md_g88, md_g89, md_out, md_u71, md_u72, md_u73, md_u74, md_u75, md_u76, md_u77, md_u78, md_u79, md_u80, md_u81, md_u82, md_u83, md_u84, md_u85, md_u86, md_u87, md_u88, md_u89, md_uo, iup_s, iup_n, aup_s, aup_n, ne_eq, not_false_eq_true, sh_0, sh_1, sh_2, sh_3, sh_4, sh_5, sh_8, sh_15, sh_16, sh_24, Int.reducePow, Int.cast_ofNat_Int, w_of, wl_of, ltT, ltF, leT, leF, eqT, eqF, okF_0, okF_s, gF_0, gF_s, consC_o, sF_0, sF_s, clsO_o, inA_i, ldA_i, stA_i, inJ_l, ldJ_l, stJ_l, inR_r, ldR_r, stR_r, tgR_r, lenA_i, lenA_l, lenA_r, lenA_ex, nl_i, nl_o, nl_l, nl_n, wd_n, wd_i, wd_l, wd_o, fit_i, fit_l, fit_o, K_v, K_n, true_and, and_true, Nat.reduceAdd, Nat.reduceLeDiff, Nat.reduceEqDiff, Nat.reduceMul, Nat.reduceLT, reduceIte, true_or, or_true, cmp_lt, cmp_gt, cmp_eq, wb_0, b_01, cmp_lt', cmp_gt', cmp_eq', b_0, b_1, wb_1, Int.reduceSub, Int.reduceToNat, List.getD_cons_succ, List.getD_cons_zero, Int.reduceLE, Int.reduceLT, Int.reduceEq, Int.reduceNeg, Int.reduceAdd, Int.reduceMul, and_self, em_b, ne_eq, not_false_eq_true, not_true_eq_false]
  | succ r ih =>
    intro n A o6 o7 o8 hn hR hT hL h85 hz hb hm
    have h25 := hL.1.1
    have hlen := stkR_len hK hL.1
    have hI0 : gmI c sky (okSB c sky l (l.length - (n + 1)) n) L (A 83) (A 84) 0 0 := by
      intro q y hy
      refine Or.inr ⟨hz q (List.getElem?_eq_some_iff.mp hy).1, ?_⟩
      rintro ⟨k, m, x, h1, -⟩; omega
    obtain ⟨g0, l7, l8, k1, k2⟩ := r_susK (h := h) (l2 := (I : Int)) (l3 := l3) (l4 := l4) hO ht e (show n < l.length by omega) hl8 (hon (n + 1) (by omega)) hb L.length 0 A o7 o8 (by omega) hR hT hL h85 rfl hI0
    obtain ⟨f1, g1, t1, t2, t3⟩ := r_isThen (h := h) (L := L) h25 hlen (aup A 84 g0)
    rw [aup_s] at t1
    have hg01 : ∀ k : Nat, k < L.length → 0 ≤ g0 k ∧ g0 k ≤ 1 := fun k hk => by
      rcases k1 k _ (List.getElem?_eq_getElem hk) with ⟨h1, -⟩ | ⟨h1, -⟩ <;> omega
    have eA : ∀ f g, aup (aup (aup (aup (aup A 84 g0) 83 f1) 84 g1) 83 f) 84 g = aup (aup A 83 f) 84 g := fun f g => by
      funext n
      unfold aup
      by_cases q : n = 84
      · simp [q]
      · by_cases q2 : n = 83 <;> simp [q, q2]
    obtain ⟨f, g, m6, m7, m8, u1, u2, u⟩ := ih (n + 1) (aup (aup (aup A 84 g0) 83 f1) 84 g1) (some (vi L.length)) l7 l8 (by omega) (ctyR_x hR (by rw [aup_n (by omega), aup_n (by omega), aup_n (by omega)])) (traR_x hT (by rw [aup_n (by omega), aup_n (by omega), aup_n (by omega)]) (by rw [aup_n (by omega), aup_n (by omega), aup_n (by omega)]) (by rw [aup_n (by omega), aup_n (by omega), aup_n (by omega)])) (laidR_x hL rfl (by rw [aup_n (by omega), aup_n (by omega), aup_n (by omega)]) (by rw [aup_n (by omega), aup_n (by omega), aup_n (by omega)]) (by rw [aup_n (by omega), aup_n (by omega), aup_n (by omega)])) (by rw [aup_n (by omega), aup_n (by omega), aup_n (by omega)]; exact h85) (by rw [aup_s]; exact t2) (by rw [aup_n (by omega), aup_s]; intro k hk; rw [t1 k hk]; have := hg01 k hk; omega) (by
      rw [aup_n (by omega), aup_s]
      intro q y hy
      have hql := (List.getElem?_eq_some_iff.mp hy).1
      rw [t1 q hql]
      constructor
      · intro hpos
        rcases k1 q y hy with ⟨-, k, m, x, -, m2, m3, m4, m5, rfl⟩ | ⟨h4, -⟩
        · exact ⟨⟨x, m, ((hm k x m2).mp m3).1, m4, m5.1, rfl, m5.2.1⟩, m5.2.2⟩
        · omega
      · rintro ⟨⟨x, m, h1, h2, h3, rfl, h4⟩, h5⟩
        obtain ⟨k, hk⟩ := List.getElem?_of_mem (fwS_L hK hL h1)
        rcases k1 q _ hy with ⟨h6, -⟩ | ⟨-, h6⟩
        · omega
        · refine absurd ⟨k, m, x, Or.inl (List.getElem?_eq_some_iff.mp hk).1, hk, (hm k x hk).mpr ⟨h1, ?_⟩, h2, ⟨h3, h4, h5⟩, rfl⟩ h6
          rw [show l.length - n = (l.length - (n + 1)) + 1 by omega]
          exact (cmF_pos hK).mpr ⟨m, h2, h3, h4, h5⟩)
    refine ⟨f, g, m6, m7, m8, u1, u2, fun d Q => ?_⟩
    have u' := u d Q
    rw [eA] at u'
    rw [← u']
    have k2' := k2 d Q
    rw [nc0] at k2'
    rw [e_271_60]
    simp (disch := omega) only [e_271_62, e_271_63, e_271_66, e_271_67, mdO_c, mdO_g0, mdO_k0, mdO_g1, mdO_k1, mdO_g2, mdO_k2, mdO_g3, mdO_k3, mdO_g4, mdO_k4, mdO_g5, mdO_k5, mdO_g6, mdO_k6, mdO_g7, mdO_k7, mdO_g8, mdO_k8, mdO_g9, mdO_k9, mdO_g10, mdO_k10, mdO_g11, mdO_k11, mdO_g12, mdO_k12, mdO_g13, mdO_k13, mdO_g14, mdO_k14, mdO_g15, mdO_k15, mdO_g16, mdO_k16, mdO_g17, mdO_k17, mdO_g18, mdO_k18, mdO_g19, mdO_k19, mdO_g20, mdO_k20, mdO_g21, mdO_k21, mdO_g22, mdO_k22, mdO_g23, mdO_k23, mdO_g24, mdO_k24, mdO_g25, mdO_k25, mdO_g26, mdO_k26, mdO_g27, mdO_k27, mdO_g28, mdO_k28, mdO_g29, mdO_k29, mdO_g30, mdO_k30, mdO_g31, mdO_k31, mdO_g32, mdO_k32, mdO_g33, mdO_k33, mdO_g34, mdO_k34, mdO_g35, mdO_k35, mdO_s0, mdO_s5, mdO_s6, mdO_s7, mdO_s8, mdO_s9, mdO_s10, mdO_s11, mdO_s12, mdO_s13, mdO_s14, mdO_s15, mdO_s19, mdO_s20, mdO_s25, mdO_s26, mdO_s31, mdO_s32, md_1, md_2, md_g71, md_g72, md_g73, md_g74, md_g75, md_g76, md_g77, md_g78, md_g79, md_g80, md_g81, md_g82, md_g83, md_g84, md_g85, md_g86, md_g87, md_g88, md_g89, md_out, md_u71, md_u72, md_u73, md_u74, md_u75, md_u76, md_u77, md_u78, md_u79, md_u80, md_u81, md_u82, md_u83, md_u84, md_u85, md_u86, md_u87, md_u88, md_u89, md_uo, iup_s, iup_n, aup_s, aup_n, ne_eq, not_false_eq_true, sh_0, sh_1, sh_2, sh_3, sh_4, sh_5, sh_8, sh_15, sh_16, sh_24, Int.reducePow, Int.cast_ofNat_Int, w_of, wl_of, ltT, ltF, leT, leF, eqT, eqF, okF_0, okF_s, gF_0, gF_s, consC_o, sF_0, sF_s, clsO_o, inA_i, ldA_i, stA_i, inJ_l, ldJ_l, stJ_l, inR_r, ldR_r, stR_r, tgR_r, lenA_i, lenA_l, lenA_r, lenA_ex, nl_i, nl_o, nl_l, nl_n, wd_n, wd_i, wd_l, wd_o, fit_i, fit_l, fit_o, K_v, K_n, true_and, and_true, Nat.reduceAdd, Nat.reduceLeDiff, Nat.reduceEqDiff, Nat.reduceMul, Nat.reduceLT, reduceIte, true_or, or_true, cmp_lt, cmp_gt, cmp_eq, wb_0, b_01, cmp_lt', cmp_gt', cmp_eq', b_0, b_1, wb_1, Int.reduceSub, Int.reduceToNat, List.getD_cons_succ, List.getD_cons_zero, Int.reduceLE, Int.reduceLT, Int.reduceEq, Int.reduceNeg, Int.reduceAdd, Int.reduceMul, and_self, em_b, ne_eq, not_false_eq_true, not_true_eq_false]
    refine Eq.trans k2' ?_
    simp (disch := omega) only [e_271_174, e_271_175, e_271_178, e_271_181, t3, mdO_c, mdO_g0, mdO_k0, mdO_g1, mdO_k1, mdO_g2, mdO_k2, mdO_g3, mdO_k3, mdO_g4, mdO_k4, mdO_g5, mdO_k5, mdO_g6, mdO_k6, mdO_g7, mdO_k7, mdO_g8, mdO_k8, mdO_g9, mdO_k9, mdO_g10, mdO_k10, mdO_g11, mdO_k11, mdO_g12, mdO_k12, mdO_g13, mdO_k13, mdO_g14, mdO_k14, mdO_g15, mdO_k15, mdO_g16, mdO_k16, mdO_g17, mdO_k17, mdO_g18, mdO_k18, mdO_g19, mdO_k19, mdO_g20, mdO_k20, mdO_g21, mdO_k21, mdO_g22, mdO_k22, mdO_g23, mdO_k23, mdO_g24, mdO_k24, mdO_g25, mdO_k25, mdO_g26, mdO_k26, mdO_g27, mdO_k27, mdO_g28, mdO_k28, mdO_g29, mdO_k29, mdO_g30, mdO_k30, mdO_g31, mdO_k31, mdO_g32, mdO_k32, mdO_g33, mdO_k33, mdO_g34, mdO_k34, mdO_g35, mdO_k35, mdO_s0, mdO_s5, mdO_s6, mdO_s7, mdO_s8, mdO_s9, mdO_s10, mdO_s11, mdO_s12, mdO_s13, mdO_s14, mdO_s15, mdO_s19, mdO_s20, mdO_s25, mdO_s26, mdO_s31, mdO_s32, md_1, md_2, md_g71, md_g72, md_g73, md_g74, md_g75, md_g76, md_g77, md_g78, md_g79, md_g80, md_g81, md_g82, md_g83, md_g84, md_g85, md_g86, md_g87, md_g88, md_g89, md_out, md_u71, md_u72, md_u73, md_u74, md_u75, md_u76, md_u77, md_u78, md_u79, md_u80, md_u81, md_u82, md_u83, md_u84, md_u85, md_u86, md_u87, md_u88, md_u89, md_uo, iup_s, iup_n, aup_s, aup_n, ne_eq, not_false_eq_true, sh_0, sh_1, sh_2, sh_3, sh_4, sh_5, sh_8, sh_15, sh_16, sh_24, Int.reducePow, Int.cast_ofNat_Int, w_of, wl_of, ltT, ltF, leT, leF, eqT, eqF, okF_0, okF_s, gF_0, gF_s, consC_o, sF_0, sF_s, clsO_o, inA_i, ldA_i, stA_i, inJ_l, ldJ_l, stJ_l, inR_r, ldR_r, stR_r, tgR_r, lenA_i, lenA_l, lenA_r, lenA_ex, nl_i, nl_o, nl_l, nl_n, wd_n, wd_i, wd_l, wd_o, fit_i, fit_l, fit_o, K_v, K_n, true_and, and_true, Nat.reduceAdd, Nat.reduceLeDiff, Nat.reduceEqDiff, Nat.reduceMul, Nat.reduceLT, reduceIte, true_or, or_true, cmp_lt, cmp_gt, cmp_eq, wb_0, b_01, cmp_lt', cmp_gt', cmp_eq', b_0, b_1, wb_1, Int.reduceSub, Int.reduceToNat, List.getD_cons_succ, List.getD_cons_zero, Int.reduceLE, Int.reduceLT, Int.reduceEq, Int.reduceNeg, Int.reduceAdd, Int.reduceMul, and_self, em_b, ne_eq, not_false_eq_true, not_true_eq_false]
    try rfl
theorem r_susB {h : PH} {c : KC} {sky : Nat} {s : ST} {L : List ST} {i : Nat → Int} {A : Nat → Int → Int} {P : ST → Prop} {l1 l2 l3 : Int} {o6 o7 o8 : Option PV} (hO : okC c) (hL : laidR c sky 3 false s L i A) (hb : ∀ k : Nat, k < L.length → 0 ≤ A 83 k ∧ A 83 k < 9223372036854775808) (hm : ∀ (k : Nat) x, L[k]? = some x → (0 < A 83 k ↔ P x)) (hP : ∀ x, P x → x ∈ L) :
    ∀ (r k : Nat), k + r = L.length → ∀ d Q, WP (d + 4) 271 187 [some (vr 71), some (vi l1), some (vi l2), some (vi l3), some (vi (bitsF 3 (fun q => prB (∃ n x, n < k ∧ L[n]? = some x ∧ P x ∧ x.1 = q)))), some (vi k), o6, o7, o8] [] (mdH h i A) Q = Q (some (vi (bitsF 3 (fun q => prB (∃ x, P x ∧ x.1 = q))))) (mdH h i A) := by
  have hK := hO.1
  have h25 := hL.1.1
  have hlen := stkR_len hK hL.1
  intro r
  induction r with
  | zero =>
    intro k hk d Q
    have hk' : k = L.length := by omega
    subst hk'
    have e : bitsF 3 (fun q => prB (∃ n x, n < L.length ∧ L[n]? = some x ∧ P x ∧ x.1 = q)) = bitsF 3 (fun q => prB (∃ x, P x ∧ x.1 = q)) := by
      refine bitsF_congr (fun q _ => ?_)
      congr 1
      refine propext ⟨?_, ?_⟩
      · rintro ⟨n, x, -, h2, h3⟩; exact ⟨x, h3⟩
      · rintro ⟨x, h1, h2⟩
        obtain ⟨n, hn⟩ := List.getElem?_of_mem (hP x h1)
        exact ⟨n, x, (List.getElem?_eq_some_iff.mp hn).1, hn, h1, h2⟩
    rw [e]
    rw [e_271_187]
    simp (disch := omega) only [e_271_189, e_271_190, e_271_193, e_271_235, e_271_237, h25, mdO_c, mdO_g0, mdO_k0, mdO_g1, mdO_k1, mdO_g2, mdO_k2, mdO_g3, mdO_k3, mdO_g4, mdO_k4, mdO_g5, mdO_k5, mdO_g6, mdO_k6, mdO_g7, mdO_k7, mdO_g8, mdO_k8, mdO_g9, mdO_k9, mdO_g10, mdO_k10, mdO_g11, mdO_k11, mdO_g12, mdO_k12, mdO_g13, mdO_k13, mdO_g14, mdO_k14, mdO_g15, mdO_k15, mdO_g16, mdO_k16, mdO_g17, mdO_k17, mdO_g18, mdO_k18, mdO_g19, mdO_k19, mdO_g20, mdO_k20, mdO_g21, mdO_k21, mdO_g22, mdO_k22, mdO_g23, mdO_k23, mdO_g24, mdO_k24, mdO_g25, mdO_k25, mdO_g26, mdO_k26, mdO_g27, mdO_k27, mdO_g28, mdO_k28, mdO_g29, mdO_k29, mdO_g30, mdO_k30, mdO_g31, mdO_k31, mdO_g32, mdO_k32, mdO_g33, mdO_k33, mdO_g34, mdO_k34, mdO_g35, mdO_k35, mdO_s0, mdO_s5, mdO_s6, mdO_s7, mdO_s8, mdO_s9, mdO_s10, mdO_s11, mdO_s12, mdO_s13, mdO_s14, mdO_s15, mdO_s19, mdO_s20, mdO_s25, mdO_s26, mdO_s31, mdO_s32, md_1, md_2, md_g71, md_g72, md_g73, md_g74, md_g75, md_g76, md_g77, md_g78, md_g79, md_g80, md_g81, md_g82, md_g83, md_g84, md_g85, md_g86, md_g87, md_g88, md_g89, md_out, md_u71, md_u72, md_u73, md_u74, md_u75, md_u76, md_u77, md_u78, md_u79, md_u80, md_u81, md_u82, md_u83, md_u84, md_u85, md_u86, md_u87, md_u88, md_u89, md_uo, iup_s, iup_n, aup_s, aup_n, ne_eq, not_false_eq_true, sh_0, sh_1, sh_2, sh_3, sh_4, sh_5, sh_8, sh_15, sh_16, sh_24, Int.reducePow, Int.cast_ofNat_Int, w_of, wl_of, ltT, ltF, leT, leF, eqT, eqF, okF_0, okF_s, gF_0, gF_s, consC_o, sF_0, sF_s, clsO_o, inA_i, ldA_i, stA_i, inJ_l, ldJ_l, stJ_l, inR_r, ldR_r, stR_r, tgR_r, lenA_i, lenA_l, lenA_r, lenA_ex, nl_i, nl_o, nl_l, nl_n, wd_n, wd_i, wd_l, wd_o, fit_i, fit_l, fit_o, K_v, K_n, true_and, and_true, Nat.reduceAdd, Nat.reduceLeDiff, Nat.reduceEqDiff, Nat.reduceMul, Nat.reduceLT, reduceIte, true_or, or_true, cmp_lt, cmp_gt, cmp_eq, wb_0, b_01, cmp_lt', cmp_gt', cmp_eq', b_0, b_1, wb_1, Int.reduceSub, Int.reduceToNat, List.getD_cons_succ, List.getD_cons_zero, Int.reduceLE, Int.reduceLT, Int.reduceEq, Int.reduceNeg, Int.reduceAdd, Int.reduceMul, and_self, em_b, ne_eq, not_false_eq_true, not_true_eq_false]
  | succ r ih =>
    intro k hk d Q
    have hkl : k < L.length := by omega
    have hx : L[k]? = some L[k] := List.getElem?_eq_getElem hkl
    generalize L[k] = x at hx
    have hxo := hL.1.2.1 x (List.mem_of_getElem? hx)
    have hrs := okS_R hK hxo
    have h79 := (hL.1.2.2.1 k x hx).1
    have hbr := fun (d : Nat) (h : PH) (Q : PQ) => r_bearerIn (d := d) (h := h) (Q := Q) hrs
    have hbl := bitsF_lt (n := 3) (f := fun q => prB (∃ n x, n < k ∧ L[n]? = some x ∧ P x ∧ x.1 = q))
    have hbk := hb k hkl
    rw [← ih (k + 1) (by omega) d Q]
    by_cases hd : P x
    · have hpos := (hm k x hx).mpr hd
      have hp3 : x.1 < 3 := by have := hrs.2; omega
      have io := bitsF_or (n := 3) (q := x.1) (f := fun q => prB (∃ n x, n < k ∧ L[n]? = some x ∧ P x ∧ x.1 = q)) (by omega) hp3
      have e : bitsF 3 (fun q => prB (∃ n x, n < k + 1 ∧ L[n]? = some x ∧ P x ∧ x.1 = q)) = bitsF 3 (fun q => prB (∃ n x, n < k ∧ L[n]? = some x ∧ P x ∧ x.1 = q) || decide (q = x.1)) := by
        refine bitsF_congr (fun q _ => ?_)
        by_cases w : q = x.1
        · rw [decide_eq_true w, Bool.or_true]
          exact prB_T ⟨k, x, by omega, hx, hd, w.symm⟩
        · rw [decide_eq_false w, Bool.or_false]
          congr 1
          refine propext ⟨?_, ?_⟩
          · rintro ⟨n, y, h1, h2, h3, h4⟩
            by_cases w2 : n = k
            · subst w2; rw [hx] at h2; cases h2; exact absurd h4.symm w
            · exact ⟨n, y, by omega, h2, h3, h4⟩
          · rintro ⟨n, y, h1, h2⟩; exact ⟨n, y, by omega, h2⟩
      rw [e]
      simp only [Int.one_mul] at io
      rw [e_271_187]
      simp (disch := omega) only [e_271_189, e_271_190, e_271_193, e_271_196, e_271_198, e_271_199, e_271_202, e_271_204, e_271_205, e_271_206, e_271_207, e_271_210, e_271_211, e_271_212, e_271_215, e_271_217, e_271_218, e_271_221, e_271_222, e_271_225, e_271_226, e_271_227, e_271_229, e_271_232, h25, h79, hbr, Int.one_mul, io, mdO_c, mdO_g0, mdO_k0, mdO_g1, mdO_k1, mdO_g2, mdO_k2, mdO_g3, mdO_k3, mdO_g4, mdO_k4, mdO_g5, mdO_k5, mdO_g6, mdO_k6, mdO_g7, mdO_k7, mdO_g8, mdO_k8, mdO_g9, mdO_k9, mdO_g10, mdO_k10, mdO_g11, mdO_k11, mdO_g12, mdO_k12, mdO_g13, mdO_k13, mdO_g14, mdO_k14, mdO_g15, mdO_k15, mdO_g16, mdO_k16, mdO_g17, mdO_k17, mdO_g18, mdO_k18, mdO_g19, mdO_k19, mdO_g20, mdO_k20, mdO_g21, mdO_k21, mdO_g22, mdO_k22, mdO_g23, mdO_k23, mdO_g24, mdO_k24, mdO_g25, mdO_k25, mdO_g26, mdO_k26, mdO_g27, mdO_k27, mdO_g28, mdO_k28, mdO_g29, mdO_k29, mdO_g30, mdO_k30, mdO_g31, mdO_k31, mdO_g32, mdO_k32, mdO_g33, mdO_k33, mdO_g34, mdO_k34, mdO_g35, mdO_k35, mdO_s0, mdO_s5, mdO_s6, mdO_s7, mdO_s8, mdO_s9, mdO_s10, mdO_s11, mdO_s12, mdO_s13, mdO_s14, mdO_s15, mdO_s19, mdO_s20, mdO_s25, mdO_s26, mdO_s31, mdO_s32, md_1, md_2, md_g71, md_g72, md_g73, md_g74, md_g75, md_g76, md_g77, md_g78, md_g79, md_g80, md_g81, md_g82, md_g83, md_g84, md_g85, md_g86, md_g87, md_g88, md_g89, md_out, md_u71, md_u72, md_u73, md_u74, md_u75, md_u76, md_u77, md_u78, md_u79, md_u80, md_u81, md_u82, md_u83, md_u84, md_u85, md_u86, md_u87, md_u88, md_u89, md_uo, iup_s, iup_n, aup_s, aup_n, ne_eq, not_false_eq_true, sh_0, sh_1, sh_2, sh_3, sh_4, sh_5, sh_8, sh_15, sh_16, sh_24, Int.reducePow, Int.cast_ofNat_Int, w_of, wl_of, ltT, ltF, leT, leF, eqT, eqF, okF_0, okF_s, gF_0, gF_s, consC_o, sF_0, sF_s, clsO_o, inA_i, ldA_i, stA_i, inJ_l, ldJ_l, stJ_l, inR_r, ldR_r, stR_r, tgR_r, lenA_i, lenA_l, lenA_r, lenA_ex, nl_i, nl_o, nl_l, nl_n, wd_n, wd_i, wd_l, wd_o, fit_i, fit_l, fit_o, K_v, K_n, true_and, and_true, Nat.reduceAdd, Nat.reduceLeDiff, Nat.reduceEqDiff, Nat.reduceMul, Nat.reduceLT, reduceIte, true_or, or_true, cmp_lt, cmp_gt, cmp_eq, wb_0, b_01, cmp_lt', cmp_gt', cmp_eq', b_0, b_1, wb_1, Int.reduceSub, Int.reduceToNat, List.getD_cons_succ, List.getD_cons_zero, Int.reduceLE, Int.reduceLT, Int.reduceEq, Int.reduceNeg, Int.reduceAdd, Int.reduceMul, and_self, em_b, ne_eq, not_false_eq_true, not_true_eq_false]
      try rfl
    · have hnp : A 83 k = 0 := by
        by_cases w : 0 < A 83 k
        · exact absurd ((hm k x hx).mp w) hd
        · omega
      have e : bitsF 3 (fun q => prB (∃ n x, n < k + 1 ∧ L[n]? = some x ∧ P x ∧ x.1 = q)) = bitsF 3 (fun q => prB (∃ n x, n < k ∧ L[n]? = some x ∧ P x ∧ x.1 = q)) := by
        refine bitsF_congr (fun q _ => ?_)
        congr 1
        refine propext ⟨?_, ?_⟩
        · rintro ⟨n, y, h1, h2, h3, h4⟩
          by_cases w : n = k
          · subst w; rw [hx] at h2; cases h2; exact absurd h3 hd
          · exact ⟨n, y, by omega, h2, h3, h4⟩
        · rintro ⟨n, y, h1, h2⟩; exact ⟨n, y, by omega, h2⟩
      rw [e]
      have i0 := ior_0 (a := bitsF 3 (fun q => prB (∃ n x, n < k ∧ L[n]? = some x ∧ P x ∧ x.1 = q))) (by omega)
      rw [e_271_187]
      simp (disch := omega) only [e_271_189, e_271_190, e_271_193, e_271_196, e_271_198, e_271_199, e_271_202, e_271_204, e_271_205, e_271_206, e_271_207, e_271_210, e_271_211, e_271_212, e_271_215, e_271_217, e_271_218, e_271_221, e_271_222, e_271_225, e_271_226, e_271_227, e_271_229, e_271_232, h25, hnp, i0, mdO_c, mdO_g0, mdO_k0, mdO_g1, mdO_k1, mdO_g2, mdO_k2, mdO_g3, mdO_k3, mdO_g4, mdO_k4, mdO_g5, mdO_k5, mdO_g6, mdO_k6, mdO_g7, mdO_k7, mdO_g8, mdO_k8, mdO_g9, mdO_k9, mdO_g10, mdO_k10, mdO_g11, mdO_k11, mdO_g12, mdO_k12, mdO_g13, mdO_k13, mdO_g14, mdO_k14, mdO_g15, mdO_k15, mdO_g16, mdO_k16, mdO_g17, mdO_k17, mdO_g18, mdO_k18, mdO_g19, mdO_k19, mdO_g20, mdO_k20, mdO_g21, mdO_k21, mdO_g22, mdO_k22, mdO_g23, mdO_k23, mdO_g24, mdO_k24, mdO_g25, mdO_k25, mdO_g26, mdO_k26, mdO_g27, mdO_k27, mdO_g28, mdO_k28, mdO_g29, mdO_k29, mdO_g30, mdO_k30, mdO_g31, mdO_k31, mdO_g32, mdO_k32, mdO_g33, mdO_k33, mdO_g34, mdO_k34, mdO_g35, mdO_k35, mdO_s0, mdO_s5, mdO_s6, mdO_s7, mdO_s8, mdO_s9, mdO_s10, mdO_s11, mdO_s12, mdO_s13, mdO_s14, mdO_s15, mdO_s19, mdO_s20, mdO_s25, mdO_s26, mdO_s31, mdO_s32, md_1, md_2, md_g71, md_g72, md_g73, md_g74, md_g75, md_g76, md_g77, md_g78, md_g79, md_g80, md_g81, md_g82, md_g83, md_g84, md_g85, md_g86, md_g87, md_g88, md_g89, md_out, md_u71, md_u72, md_u73, md_u74, md_u75, md_u76, md_u77, md_u78, md_u79, md_u80, md_u81, md_u82, md_u83, md_u84, md_u85, md_u86, md_u87, md_u88, md_u89, md_uo, iup_s, iup_n, aup_s, aup_n, ne_eq, not_false_eq_true, sh_0, sh_1, sh_2, sh_3, sh_4, sh_5, sh_8, sh_15, sh_16, sh_24, Int.reducePow, Int.cast_ofNat_Int, w_of, wl_of, ltT, ltF, leT, leF, eqT, eqF, okF_0, okF_s, gF_0, gF_s, consC_o, sF_0, sF_s, clsO_o, inA_i, ldA_i, stA_i, inJ_l, ldJ_l, stJ_l, inR_r, ldR_r, stR_r, tgR_r, lenA_i, lenA_l, lenA_r, lenA_ex, nl_i, nl_o, nl_l, nl_n, wd_n, wd_i, wd_l, wd_o, fit_i, fit_l, fit_o, K_v, K_n, true_and, and_true, Nat.reduceAdd, Nat.reduceLeDiff, Nat.reduceEqDiff, Nat.reduceMul, Nat.reduceLT, reduceIte, true_or, or_true, cmp_lt, cmp_gt, cmp_eq, wb_0, b_01, cmp_lt', cmp_gt', cmp_eq', b_0, b_1, wb_1, Int.reduceSub, Int.reduceToNat, List.getD_cons_succ, List.getD_cons_zero, Int.reduceLE, Int.reduceLT, Int.reduceEq, Int.reduceNeg, Int.reduceAdd, Int.reduceMul, and_self, em_b, ne_eq, not_false_eq_true, not_true_eq_false]
      try rfl
theorem R_suspects {h : PH} {c : KC} {s : ST} {sky hrs : Nat} {i : Nat → Int} {A : Nat → Int → Int} {T : TT} {t x : Int} (hq : refQ c s sky hrs A) (hT : traR T A) (h1 : -2147483648 ≤ t) (h2 : t < 2147483648) (hx1 : -2147483648 ≤ x) (hx2 : x < 2147483648) :
    ∃ v j B, ansX c sky s T t x v ∧ qR i A j B ∧ ∀ d Q, WP (d + 9) 271 0 [some (vr 71), some (vi t), some (vi x), none, none, none, none, none, none] [] (mdH h i A) Q = Q (some (vi v)) (mdH h j B) := by
  have hq' := hq
  obtain ⟨hO, hR, hS, hs, hsky⟩ := hq
  have hK := hO.1
  have ns := fun (d : Nat) (i : Nat → Int) (Q : PQ) => r_noSeen (d := d) (h := h) (i := i) (Q := Q) hO.1 hR hT h1 h2
  have hb := seenC_b (c := c) (T := T) (t := t)
  have q0 : qR i A (iup i 0 0) A := qR_of (frI_u (ks := [0]) (by decide)) (frA_r (ks := [])) (by decide) (by decide)
  by_cases q : seenC c T t = 0
  · by_cases hx0 : x < 0
    · refine ⟨-3, iup i 0 0, A, Or.inr (Or.inl ⟨q, hx0, rfl⟩), q0, fun d Q => ?_⟩
      rw [q] at ns
      simp (disch := omega) only [e_271_0, e_271_1, e_271_2, e_271_5, e_271_6, e_271_7, e_271_10, e_271_11, e_271_12, e_271_15, e_271_16, e_271_17, e_271_18, e_271_21, e_271_23, ns, mdO_c, mdO_g0, mdO_k0, mdO_g1, mdO_k1, mdO_g2, mdO_k2, mdO_g3, mdO_k3, mdO_g4, mdO_k4, mdO_g5, mdO_k5, mdO_g6, mdO_k6, mdO_g7, mdO_k7, mdO_g8, mdO_k8, mdO_g9, mdO_k9, mdO_g10, mdO_k10, mdO_g11, mdO_k11, mdO_g12, mdO_k12, mdO_g13, mdO_k13, mdO_g14, mdO_k14, mdO_g15, mdO_k15, mdO_g16, mdO_k16, mdO_g17, mdO_k17, mdO_g18, mdO_k18, mdO_g19, mdO_k19, mdO_g20, mdO_k20, mdO_g21, mdO_k21, mdO_g22, mdO_k22, mdO_g23, mdO_k23, mdO_g24, mdO_k24, mdO_g25, mdO_k25, mdO_g26, mdO_k26, mdO_g27, mdO_k27, mdO_g28, mdO_k28, mdO_g29, mdO_k29, mdO_g30, mdO_k30, mdO_g31, mdO_k31, mdO_g32, mdO_k32, mdO_g33, mdO_k33, mdO_g34, mdO_k34, mdO_g35, mdO_k35, mdO_s0, mdO_s5, mdO_s6, mdO_s7, mdO_s8, mdO_s9, mdO_s10, mdO_s11, mdO_s12, mdO_s13, mdO_s14, mdO_s15, mdO_s19, mdO_s20, mdO_s25, mdO_s26, mdO_s31, mdO_s32, md_1, md_2, md_g71, md_g72, md_g73, md_g74, md_g75, md_g76, md_g77, md_g78, md_g79, md_g80, md_g81, md_g82, md_g83, md_g84, md_g85, md_g86, md_g87, md_g88, md_g89, md_out, md_u71, md_u72, md_u73, md_u74, md_u75, md_u76, md_u77, md_u78, md_u79, md_u80, md_u81, md_u82, md_u83, md_u84, md_u85, md_u86, md_u87, md_u88, md_u89, md_uo, iup_s, iup_n, aup_s, aup_n, ne_eq, not_false_eq_true, sh_0, sh_1, sh_2, sh_3, sh_4, sh_5, sh_8, sh_15, sh_16, sh_24, Int.reducePow, Int.cast_ofNat_Int, w_of, wl_of, ltT, ltF, leT, leF, eqT, eqF, okF_0, okF_s, gF_0, gF_s, consC_o, sF_0, sF_s, clsO_o, inA_i, ldA_i, stA_i, inJ_l, ldJ_l, stJ_l, inR_r, ldR_r, stR_r, tgR_r, lenA_i, lenA_l, lenA_r, lenA_ex, nl_i, nl_o, nl_l, nl_n, wd_n, wd_i, wd_l, wd_o, fit_i, fit_l, fit_o, K_v, K_n, true_and, and_true, Nat.reduceAdd, Nat.reduceLeDiff, Nat.reduceEqDiff, Nat.reduceMul, Nat.reduceLT, reduceIte, true_or, or_true, cmp_lt, cmp_gt, cmp_eq, wb_0, b_01, cmp_lt', cmp_gt', cmp_eq', b_0, b_1, wb_1, Int.reduceSub, Int.reduceToNat, List.getD_cons_succ, List.getD_cons_zero, Int.reduceLE, Int.reduceLT, Int.reduceEq, Int.reduceNeg, Int.reduceAdd, Int.reduceMul, and_self, em_b, ne_eq, not_false_eq_true, not_true_eq_false]
    · obtain ⟨tn, so, l, rfl, e1, e2, e3, e4, -⟩ := seenC_0 q
      obtain ⟨-, -, e88, -, -⟩ := traR_s hT e1 e2
      rw [q] at ns
      have ex : ((x.toNat : Nat) : Int) = x := by omega
      by_cases hxl : l.length ≤ x.toNat
      · refine ⟨-7, iup i 0 0, A, Or.inr (Or.inr ⟨q, by omega, fun so' l' e' => by rw [Int.toNat_natCast, e2] at e'; cases e'; exact Or.inl ⟨hxl, rfl⟩⟩), q0, fun d Q => ?_⟩
        simp (disch := omega) only [e_271_0, e_271_1, e_271_2, e_271_5, e_271_6, e_271_7, e_271_10, e_271_11, e_271_12, e_271_15, e_271_16, e_271_17, e_271_18, e_271_21, e_271_23, e_271_24, e_271_25, e_271_26, e_271_29, e_271_30, e_271_31, e_271_34, e_271_36, ns, e88, mdO_c, mdO_g0, mdO_k0, mdO_g1, mdO_k1, mdO_g2, mdO_k2, mdO_g3, mdO_k3, mdO_g4, mdO_k4, mdO_g5, mdO_k5, mdO_g6, mdO_k6, mdO_g7, mdO_k7, mdO_g8, mdO_k8, mdO_g9, mdO_k9, mdO_g10, mdO_k10, mdO_g11, mdO_k11, mdO_g12, mdO_k12, mdO_g13, mdO_k13, mdO_g14, mdO_k14, mdO_g15, mdO_k15, mdO_g16, mdO_k16, mdO_g17, mdO_k17, mdO_g18, mdO_k18, mdO_g19, mdO_k19, mdO_g20, mdO_k20, mdO_g21, mdO_k21, mdO_g22, mdO_k22, mdO_g23, mdO_k23, mdO_g24, mdO_k24, mdO_g25, mdO_k25, mdO_g26, mdO_k26, mdO_g27, mdO_k27, mdO_g28, mdO_k28, mdO_g29, mdO_k29, mdO_g30, mdO_k30, mdO_g31, mdO_k31, mdO_g32, mdO_k32, mdO_g33, mdO_k33, mdO_g34, mdO_k34, mdO_g35, mdO_k35, mdO_s0, mdO_s5, mdO_s6, mdO_s7, mdO_s8, mdO_s9, mdO_s10, mdO_s11, mdO_s12, mdO_s13, mdO_s14, mdO_s15, mdO_s19, mdO_s20, mdO_s25, mdO_s26, mdO_s31, mdO_s32, md_1, md_2, md_g71, md_g72, md_g73, md_g74, md_g75, md_g76, md_g77, md_g78, md_g79, md_g80, md_g81, md_g82, md_g83, md_g84, md_g85, md_g86, md_g87, md_g88, md_g89, md_out, md_u71, md_u72, md_u73, md_u74, md_u75, md_u76, md_u77, md_u78, md_u79, md_u80, md_u81, md_u82, md_u83, md_u84, md_u85, md_u86, md_u87, md_u88, md_u89, md_uo, iup_s, iup_n, aup_s, aup_n, ne_eq, not_false_eq_true, sh_0, sh_1, sh_2, sh_3, sh_4, sh_5, sh_8, sh_15, sh_16, sh_24, Int.reducePow, Int.cast_ofNat_Int, w_of, wl_of, ltT, ltF, leT, leF, eqT, eqF, okF_0, okF_s, gF_0, gF_s, consC_o, sF_0, sF_s, clsO_o, inA_i, ldA_i, stA_i, inJ_l, ldJ_l, stJ_l, inR_r, ldR_r, stR_r, tgR_r, lenA_i, lenA_l, lenA_r, lenA_ex, nl_i, nl_o, nl_l, nl_n, wd_n, wd_i, wd_l, wd_o, fit_i, fit_l, fit_o, K_v, K_n, true_and, and_true, Nat.reduceAdd, Nat.reduceLeDiff, Nat.reduceEqDiff, Nat.reduceMul, Nat.reduceLT, reduceIte, true_or, or_true, cmp_lt, cmp_gt, cmp_eq, wb_0, b_01, cmp_lt', cmp_gt', cmp_eq', b_0, b_1, wb_1, Int.reduceSub, Int.reduceToNat, List.getD_cons_succ, List.getD_cons_zero, Int.reduceLE, Int.reduceLT, Int.reduceEq, Int.reduceNeg, Int.reduceAdd, Int.reduceMul, and_self, em_b, ne_eq, not_false_eq_true, not_true_eq_false]
      · obtain ⟨L, j, B, hL, hon, f1, f2, g⟩ := r_laysSeen (h := h) (i := iup i 0 0) hq' hT e1 e2 e4
        have hT2 : traR T B := traR_x hT (f2 87 (by decide)) (f2 88 (by decide)) (f2 89 (by decide))
        have hR2 : ctyR (B 72) c := ctyR_x hR (f2 72 (by decide))
        have hqq : qR i A j B := qR_of (frI_t (frI_u (ks := [0, 25]) (by decide)) (frI_w f1 (by decide))) f2 (by decide) (by decide)
        have h64 := cmF_64 (c := c) (sky := sky) (l := l) (r := l.length) (lev := 0) e4 s
        have ans : ∀ v, v = (susV c sky l x.toNat s : Int) → ansX c sky s T (tn : Int) x v := fun v hv => Or.inr (Or.inr ⟨q, by omega, fun so' l' e' => by rw [Int.toNat_natCast, e2] at e'; cases e'; exact Or.inr ⟨by omega, hv⟩⟩)
        by_cases hz : cmF c sky l l.length 0 s = 0
        · refine ⟨0, j, B, ans 0 ?_, hqq, fun d Q => ?_⟩
          · have : susV c sky l x.toNat s = bitsF 3 (fun _ => false) := bitsF_congr (fun q _ => prB_F (fun ⟨u, u1, u2, _⟩ => by
              have := fw_back hK u1 u2
              rw [show x.toNat + 1 + (l.length - (x.toNat + 1)) = l.length by omega] at this
              omega))
            rw [this]; rfl
          · rw [hz] at g
            simp (disch := omega) only [e_271_0, e_271_1, e_271_2, e_271_5, e_271_6, e_271_7, e_271_10, e_271_11, e_271_12, e_271_15, e_271_16, e_271_17, e_271_18, e_271_21, e_271_23, e_271_24, e_271_25, e_271_26, e_271_29, e_271_30, e_271_31, e_271_34, e_271_36, e_271_37, e_271_38, e_271_40, e_271_41, e_271_42, e_271_45, e_271_46, e_271_47, e_271_50, e_271_52, ns, g, e88, mdO_c, mdO_g0, mdO_k0, mdO_g1, mdO_k1, mdO_g2, mdO_k2, mdO_g3, mdO_k3, mdO_g4, mdO_k4, mdO_g5, mdO_k5, mdO_g6, mdO_k6, mdO_g7, mdO_k7, mdO_g8, mdO_k8, mdO_g9, mdO_k9, mdO_g10, mdO_k10, mdO_g11, mdO_k11, mdO_g12, mdO_k12, mdO_g13, mdO_k13, mdO_g14, mdO_k14, mdO_g15, mdO_k15, mdO_g16, mdO_k16, mdO_g17, mdO_k17, mdO_g18, mdO_k18, mdO_g19, mdO_k19, mdO_g20, mdO_k20, mdO_g21, mdO_k21, mdO_g22, mdO_k22, mdO_g23, mdO_k23, mdO_g24, mdO_k24, mdO_g25, mdO_k25, mdO_g26, mdO_k26, mdO_g27, mdO_k27, mdO_g28, mdO_k28, mdO_g29, mdO_k29, mdO_g30, mdO_k30, mdO_g31, mdO_k31, mdO_g32, mdO_k32, mdO_g33, mdO_k33, mdO_g34, mdO_k34, mdO_g35, mdO_k35, mdO_s0, mdO_s5, mdO_s6, mdO_s7, mdO_s8, mdO_s9, mdO_s10, mdO_s11, mdO_s12, mdO_s13, mdO_s14, mdO_s15, mdO_s19, mdO_s20, mdO_s25, mdO_s26, mdO_s31, mdO_s32, md_1, md_2, md_g71, md_g72, md_g73, md_g74, md_g75, md_g76, md_g77, md_g78, md_g79, md_g80, md_g81, md_g82, md_g83, md_g84, md_g85, md_g86, md_g87, md_g88, md_g89, md_out, md_u71, md_u72, md_u73, md_u74, md_u75, md_u76, md_u77, md_u78, md_u79, md_u80, md_u81, md_u82, md_u83, md_u84, md_u85, md_u86, md_u87, md_u88, md_u89, md_uo, iup_s, iup_n, aup_s, aup_n, ne_eq, not_false_eq_true, sh_0, sh_1, sh_2, sh_3, sh_4, sh_5, sh_8, sh_15, sh_16, sh_24, Int.reducePow, Int.cast_ofNat_Int, w_of, wl_of, ltT, ltF, leT, leF, eqT, eqF, okF_0, okF_s, gF_0, gF_s, consC_o, sF_0, sF_s, clsO_o, inA_i, ldA_i, stA_i, inJ_l, ldJ_l, stJ_l, inR_r, ldR_r, stR_r, tgR_r, lenA_i, lenA_l, lenA_r, lenA_ex, nl_i, nl_o, nl_l, nl_n, wd_n, wd_i, wd_l, wd_o, fit_i, fit_l, fit_o, K_v, K_n, true_and, and_true, Nat.reduceAdd, Nat.reduceLeDiff, Nat.reduceEqDiff, Nat.reduceMul, Nat.reduceLT, reduceIte, true_or, or_true, cmp_lt, cmp_gt, cmp_eq, wb_0, b_01, cmp_lt', cmp_gt', cmp_eq', b_0, b_1, wb_1, Int.reduceSub, Int.reduceToNat, List.getD_cons_succ, List.getD_cons_zero, Int.reduceLE, Int.reduceLT, Int.reduceEq, Int.reduceNeg, Int.reduceAdd, Int.reduceMul, and_self, em_b, ne_eq, not_false_eq_true, not_true_eq_false]
        · obtain ⟨fm, fz, b1, b2, b3⟩ := r_beginsMany (h := h) (i := j) (L := L) hL.1.1 (stkR_len hK hL.1) B
          have hLx : ∀ f g, laidR c sky 3 false s L j (aup (aup B 83 f) 84 g) := fun f g => laidR_x hL rfl (by rw [aup_n (by omega), aup_n (by omega)]) (by rw [aup_n (by omega), aup_n (by omega)]) (by rw [aup_n (by omega), aup_n (by omega)])
          obtain ⟨f, g', l6, l7, l8, u1, u2, u3⟩ := r_susH (h := h) (I := x.toNat) (s := s) (L := L) (i := j) (o85 := B 85) (l3 := 0) (l4 := 0) hO e1 e2 e4 (by omega) hon (x.toNat + 1) 0 (aup (aup B 83 fm) 84 fz) none none none (by omega) (ctyR_x hR2 (by rw [aup_n (by omega), aup_n (by omega)])) (traR_x hT2 (by rw [aup_n (by omega), aup_n (by omega)]) (by rw [aup_n (by omega), aup_n (by omega)]) (by rw [aup_n (by omega), aup_n (by omega)])) (hLx fm fz) (by rw [aup_n (by omega), aup_n (by omega)]) (by rw [aup_s]; exact b2) (by rw [aup_n (by omega), aup_s]; intro k hk; rw [b1 k hk]; split <;> omega) (by
            rw [aup_n (by omega), aup_s]
            intro k y hy
            have hkl := (List.getElem?_eq_some_iff.mp hy).1
            rw [b1 k hkl]
            constructor
            · intro hp
              by_cases w : k = 0
              · subst w; rw [hL.2.1] at hy; cases hy; exact ⟨rfl, by rw [Nat.sub_zero]; omega⟩
              · rw [if_neg w] at hp; omega
            · rintro ⟨hfw, -⟩
              have hys : y = s := hfw
              subst hys
              have a1 := (hL.1.2.2.1 k y hy).2
              have a2 := (hL.1.2.2.1 0 y hL.2.1).2
              rw [a1] at a2
              rw [if_pos (by omega)]; omega)
          have eA : aup (aup (aup (aup B 83 fm) 84 fz) 83 f) 84 g' = aup (aup B 83 f) 84 g' := by
            funext n
            unfold aup
            by_cases q : n = 84
            · simp [q]
            · by_cases q2 : n = 83 <;> simp [q, q2]
          have sb := r_susB (h := h) (l1 := (tn : Int)) (l2 := x) (l3 := 0) (o6 := l6) (o7 := l7) (o8 := l8) (P := fun y => fwS c sky l (x.toNat + 1) s y ∧ 0 < cmF c sky l (l.length - (x.toNat + 1)) (x.toNat + 1) y) hO (hLx f g') (by rw [aup_n (by omega), aup_s]; exact u1) (by rw [aup_n (by omega), aup_s]; exact u2) (fun y hy => fwS_L hK hL hy.1) L.length 0 (by omega)
          have F2 : frA [76, 77, 79, 80, 82, 83, 84, 85] A (aup (aup B 83 f) 84 g') := frA_t (frA_w f2 (by decide)) (frA_t (frA_u (by decide)) (frA_u (by decide)))
          refine ⟨susV c sky l x.toNat s, j, aup (aup B 83 f) 84 g', ans _ rfl, qR_of (frI_t (frI_u (ks := [0, 25]) (by decide)) (frI_w f1 (by decide))) F2 (by decide) (by decide), fun d Q => ?_⟩
          have e0 : (bitsF 3 (fun q => prB (∃ n y, n < 0 ∧ L[n]? = some y ∧ (fwS c sky l (x.toNat + 1) s y ∧ 0 < cmF c sky l (l.length - (x.toNat + 1)) (x.toNat + 1) y) ∧ y.1 = q)) : Int) = 0 := by
            have : bitsF 3 (fun q => prB (∃ n y, n < 0 ∧ L[n]? = some y ∧ (fwS c sky l (x.toNat + 1) s y ∧ 0 < cmF c sky l (l.length - (x.toNat + 1)) (x.toNat + 1) y) ∧ y.1 = q)) = bitsF 3 (fun _ => false) := bitsF_congr (fun q _ => prB_F (fun ⟨n, x, h1, _⟩ => absurd h1 (by omega)))
            rw [this]; rfl
          have sb' := sb (d + 5) Q
          rw [e0, nc0] at sb'
          have esus : bitsF 3 (fun q => prB (∃ y, (fwS c sky l (x.toNat + 1) s y ∧ 0 < cmF c sky l (l.length - (x.toNat + 1)) (x.toNat + 1) y) ∧ y.1 = q)) = susV c sky l x.toNat s := by
            unfold susV
            refine bitsF_congr (fun q _ => ?_)
            congr 1
            refine propext ⟨?_, ?_⟩
            · rintro ⟨y, ⟨y1, y2⟩, y3⟩; exact ⟨y, y1, y2, y3⟩
            · rintro ⟨y, y1, y2, y3⟩; exact ⟨y, ⟨y1, y2⟩, y3⟩
          rw [esus] at sb'
          rw [← sb']
          have u3' := u3 (d + 5) Q
          rw [eA, ex, nc0] at u3'
          simp (disch := omega) only [e_271_0, e_271_1, e_271_2, e_271_5, e_271_6, e_271_7, e_271_10, e_271_11, e_271_12, e_271_15, e_271_16, e_271_17, e_271_18, e_271_21, e_271_23, e_271_24, e_271_25, e_271_26, e_271_29, e_271_30, e_271_31, e_271_34, e_271_36, e_271_37, e_271_38, e_271_40, e_271_41, e_271_42, e_271_45, e_271_46, e_271_47, e_271_50, e_271_52, e_271_53, e_271_54, e_271_57, e_271_58, ns, g, e88, b3, mdO_c, mdO_g0, mdO_k0, mdO_g1, mdO_k1, mdO_g2, mdO_k2, mdO_g3, mdO_k3, mdO_g4, mdO_k4, mdO_g5, mdO_k5, mdO_g6, mdO_k6, mdO_g7, mdO_k7, mdO_g8, mdO_k8, mdO_g9, mdO_k9, mdO_g10, mdO_k10, mdO_g11, mdO_k11, mdO_g12, mdO_k12, mdO_g13, mdO_k13, mdO_g14, mdO_k14, mdO_g15, mdO_k15, mdO_g16, mdO_k16, mdO_g17, mdO_k17, mdO_g18, mdO_k18, mdO_g19, mdO_k19, mdO_g20, mdO_k20, mdO_g21, mdO_k21, mdO_g22, mdO_k22, mdO_g23, mdO_k23, mdO_g24, mdO_k24, mdO_g25, mdO_k25, mdO_g26, mdO_k26, mdO_g27, mdO_k27, mdO_g28, mdO_k28, mdO_g29, mdO_k29, mdO_g30, mdO_k30, mdO_g31, mdO_k31, mdO_g32, mdO_k32, mdO_g33, mdO_k33, mdO_g34, mdO_k34, mdO_g35, mdO_k35, mdO_s0, mdO_s5, mdO_s6, mdO_s7, mdO_s8, mdO_s9, mdO_s10, mdO_s11, mdO_s12, mdO_s13, mdO_s14, mdO_s15, mdO_s19, mdO_s20, mdO_s25, mdO_s26, mdO_s31, mdO_s32, md_1, md_2, md_g71, md_g72, md_g73, md_g74, md_g75, md_g76, md_g77, md_g78, md_g79, md_g80, md_g81, md_g82, md_g83, md_g84, md_g85, md_g86, md_g87, md_g88, md_g89, md_out, md_u71, md_u72, md_u73, md_u74, md_u75, md_u76, md_u77, md_u78, md_u79, md_u80, md_u81, md_u82, md_u83, md_u84, md_u85, md_u86, md_u87, md_u88, md_u89, md_uo, iup_s, iup_n, aup_s, aup_n, ne_eq, not_false_eq_true, sh_0, sh_1, sh_2, sh_3, sh_4, sh_5, sh_8, sh_15, sh_16, sh_24, Int.reducePow, Int.cast_ofNat_Int, w_of, wl_of, ltT, ltF, leT, leF, eqT, eqF, okF_0, okF_s, gF_0, gF_s, consC_o, sF_0, sF_s, clsO_o, inA_i, ldA_i, stA_i, inJ_l, ldJ_l, stJ_l, inR_r, ldR_r, stR_r, tgR_r, lenA_i, lenA_l, lenA_r, lenA_ex, nl_i, nl_o, nl_l, nl_n, wd_n, wd_i, wd_l, wd_o, fit_i, fit_l, fit_o, K_v, K_n, true_and, and_true, Nat.reduceAdd, Nat.reduceLeDiff, Nat.reduceEqDiff, Nat.reduceMul, Nat.reduceLT, reduceIte, true_or, or_true, cmp_lt, cmp_gt, cmp_eq, wb_0, b_01, cmp_lt', cmp_gt', cmp_eq', b_0, b_1, wb_1, Int.reduceSub, Int.reduceToNat, List.getD_cons_succ, List.getD_cons_zero, Int.reduceLE, Int.reduceLT, Int.reduceEq, Int.reduceNeg, Int.reduceAdd, Int.reduceMul, and_self, em_b, ne_eq, not_false_eq_true, not_true_eq_false]
          refine Eq.trans u3' ?_
          simp (disch := omega) only [e_271_184, e_271_185, mdO_c, mdO_g0, mdO_k0, mdO_g1, mdO_k1, mdO_g2, mdO_k2, mdO_g3, mdO_k3, mdO_g4, mdO_k4, mdO_g5, mdO_k5, mdO_g6, mdO_k6, mdO_g7, mdO_k7, mdO_g8, mdO_k8, mdO_g9, mdO_k9, mdO_g10, mdO_k10, mdO_g11, mdO_k11, mdO_g12, mdO_k12, mdO_g13, mdO_k13, mdO_g14, mdO_k14, mdO_g15, mdO_k15, mdO_g16, mdO_k16, mdO_g17, mdO_k17, mdO_g18, mdO_k18, mdO_g19, mdO_k19, mdO_g20, mdO_k20, mdO_g21, mdO_k21, mdO_g22, mdO_k22, mdO_g23, mdO_k23, mdO_g24, mdO_k24, mdO_g25, mdO_k25, mdO_g26, mdO_k26, mdO_g27, mdO_k27, mdO_g28, mdO_k28, mdO_g29, mdO_k29, mdO_g30, mdO_k30, mdO_g31, mdO_k31, mdO_g32, mdO_k32, mdO_g33, mdO_k33, mdO_g34, mdO_k34, mdO_g35, mdO_k35, mdO_s0, mdO_s5, mdO_s6, mdO_s7, mdO_s8, mdO_s9, mdO_s10, mdO_s11, mdO_s12, mdO_s13, mdO_s14, mdO_s15, mdO_s19, mdO_s20, mdO_s25, mdO_s26, mdO_s31, mdO_s32, md_1, md_2, md_g71, md_g72, md_g73, md_g74, md_g75, md_g76, md_g77, md_g78, md_g79, md_g80, md_g81, md_g82, md_g83, md_g84, md_g85, md_g86, md_g87, md_g88, md_g89, md_out, md_u71, md_u72, md_u73, md_u74, md_u75, md_u76, md_u77, md_u78, md_u79, md_u80, md_u81, md_u82, md_u83, md_u84, md_u85, md_u86, md_u87, md_u88, md_u89, md_uo, iup_s, iup_n, aup_s, aup_n, ne_eq, not_false_eq_true, sh_0, sh_1, sh_2, sh_3, sh_4, sh_5, sh_8, sh_15, sh_16, sh_24, Int.reducePow, Int.cast_ofNat_Int, w_of, wl_of, ltT, ltF, leT, leF, eqT, eqF, okF_0, okF_s, gF_0, gF_s, consC_o, sF_0, sF_s, clsO_o, inA_i, ldA_i, stA_i, inJ_l, ldJ_l, stJ_l, inR_r, ldR_r, stR_r, tgR_r, lenA_i, lenA_l, lenA_r, lenA_ex, nl_i, nl_o, nl_l, nl_n, wd_n, wd_i, wd_l, wd_o, fit_i, fit_l, fit_o, K_v, K_n, true_and, and_true, Nat.reduceAdd, Nat.reduceLeDiff, Nat.reduceEqDiff, Nat.reduceMul, Nat.reduceLT, reduceIte, true_or, or_true, cmp_lt, cmp_gt, cmp_eq, wb_0, b_01, cmp_lt', cmp_gt', cmp_eq', b_0, b_1, wb_1, Int.reduceSub, Int.reduceToNat, List.getD_cons_succ, List.getD_cons_zero, Int.reduceLE, Int.reduceLT, Int.reduceEq, Int.reduceNeg, Int.reduceAdd, Int.reduceMul, and_self, em_b, ne_eq, not_false_eq_true, not_true_eq_false]
  · refine ⟨seenC c T t, iup i 0 0, A, Or.inl ⟨q, rfl⟩, q0, fun d Q => ?_⟩
    simp (disch := omega) only [e_271_0, e_271_1, e_271_2, e_271_5, e_271_6, e_271_7, e_271_10, e_271_11, e_271_12, e_271_15, e_271_16, ns, mdO_c, mdO_g0, mdO_k0, mdO_g1, mdO_k1, mdO_g2, mdO_k2, mdO_g3, mdO_k3, mdO_g4, mdO_k4, mdO_g5, mdO_k5, mdO_g6, mdO_k6, mdO_g7, mdO_k7, mdO_g8, mdO_k8, mdO_g9, mdO_k9, mdO_g10, mdO_k10, mdO_g11, mdO_k11, mdO_g12, mdO_k12, mdO_g13, mdO_k13, mdO_g14, mdO_k14, mdO_g15, mdO_k15, mdO_g16, mdO_k16, mdO_g17, mdO_k17, mdO_g18, mdO_k18, mdO_g19, mdO_k19, mdO_g20, mdO_k20, mdO_g21, mdO_k21, mdO_g22, mdO_k22, mdO_g23, mdO_k23, mdO_g24, mdO_k24, mdO_g25, mdO_k25, mdO_g26, mdO_k26, mdO_g27, mdO_k27, mdO_g28, mdO_k28, mdO_g29, mdO_k29, mdO_g30, mdO_k30, mdO_g31, mdO_k31, mdO_g32, mdO_k32, mdO_g33, mdO_k33, mdO_g34, mdO_k34, mdO_g35, mdO_k35, mdO_s0, mdO_s5, mdO_s6, mdO_s7, mdO_s8, mdO_s9, mdO_s10, mdO_s11, mdO_s12, mdO_s13, mdO_s14, mdO_s15, mdO_s19, mdO_s20, mdO_s25, mdO_s26, mdO_s31, mdO_s32, md_1, md_2, md_g71, md_g72, md_g73, md_g74, md_g75, md_g76, md_g77, md_g78, md_g79, md_g80, md_g81, md_g82, md_g83, md_g84, md_g85, md_g86, md_g87, md_g88, md_g89, md_out, md_u71, md_u72, md_u73, md_u74, md_u75, md_u76, md_u77, md_u78, md_u79, md_u80, md_u81, md_u82, md_u83, md_u84, md_u85, md_u86, md_u87, md_u88, md_u89, md_uo, iup_s, iup_n, aup_s, aup_n, ne_eq, not_false_eq_true, sh_0, sh_1, sh_2, sh_3, sh_4, sh_5, sh_8, sh_15, sh_16, sh_24, Int.reducePow, Int.cast_ofNat_Int, w_of, wl_of, ltT, ltF, leT, leF, eqT, eqF, okF_0, okF_s, gF_0, gF_s, consC_o, sF_0, sF_s, clsO_o, inA_i, ldA_i, stA_i, inJ_l, ldJ_l, stJ_l, inR_r, ldR_r, stR_r, tgR_r, lenA_i, lenA_l, lenA_r, lenA_ex, nl_i, nl_o, nl_l, nl_n, wd_n, wd_i, wd_l, wd_o, fit_i, fit_l, fit_o, K_v, K_n, true_and, and_true, Nat.reduceAdd, Nat.reduceLeDiff, Nat.reduceEqDiff, Nat.reduceMul, Nat.reduceLT, reduceIte, true_or, or_true, cmp_lt, cmp_gt, cmp_eq, wb_0, b_01, cmp_lt', cmp_gt', cmp_eq', b_0, b_1, wb_1, Int.reduceSub, Int.reduceToNat, List.getD_cons_succ, List.getD_cons_zero, Int.reduceLE, Int.reduceLT, Int.reduceEq, Int.reduceNeg, Int.reduceAdd, Int.reduceMul, and_self, em_b, ne_eq, not_false_eq_true, not_true_eq_false]
