/-! THE REFERENCE: canKeep, needed -/
theorem needM_B {m b : Nat} (h : m < 19) : needB (deedM m) b = needM m b := by
  unfold needB needM deedM
  by_cases h0 : m = 0
  · subst h0; rfl
  · by_cases h4 : m < 4
    · rw [if_neg h0, if_pos h4, if_neg (by omega), if_pos (by omega), if_pos h4, decide_eq_true (show 0 < m by omega), Bool.true_and, show 9 + m - 10 = m - 1 by omega]
    · rw [if_neg h0, if_neg h4, if_neg (by omega), if_neg (by omega), if_neg h4, decide_eq_true (show 0 < m by omega), Bool.true_and, show (100 + 10 * ((m - 4) / 5) + (m - 4) % 5 - 100) / 10 = (m - 4) / 5 by omega]
theorem surv_m {c : KC} {sky b n : Nat} {x : ST} : surv c sky b (n + 1) x ↔ ∃ m, m < 19 ∧ alwM c sky b x m = true ∧ downB c (toM c sky x m) = false ∧ surv c sky b n (toM c sky x m) := by
  rw [surv_s]
  constructor
  · rintro ⟨y, h1, h2⟩
    obtain ⟨g1, g2, g3⟩ := en_mem.mp h1
    obtain ⟨m, k1, k2, rfl⟩ := nx_mem.mp g1
    refine ⟨m, k1, ?_, g2, h2⟩
    unfold alwM
    rw [← needM_B k1]
    rw [show needB (deedM m) b = false from g3, k2]; rfl
  · rintro ⟨m, h1, h2, h3, h4⟩
    refine ⟨(deedM m, toM c sky x m), en_mem.mpr ⟨nx_mem.mpr ⟨m, h1, alw_can h2, rfl⟩, h3, ?_⟩, h4⟩
    unfold alwM at h2
    rw [Bool.and_eq_true] at h2
    show needB (deedM m) b = false
    rw [needM_B h1]; simpa using h2.1
/-- who is marked behind an hour -/
def mrk (c : KC) (sky b : Nat) (L : List ST) (f : Int → Int) (K : Nat) (M : Nat) (y : ST) : Prop := ∃ (k m : Nat) (x : ST), (k < K ∨ k = K ∧ m < M) ∧ L[k]? = some x ∧ 0 < f k ∧ m < 19 ∧ alwM c sky b x m = true ∧ toM c sky x m = y ∧ downB c y = false
def mrkI (c : KC) (sky b : Nat) (L : List ST) (f g : Int → Int) (K M : Nat) (any : Bool) : Prop := (∀ (t : Nat) y, L[t]? = some y → (g t = 1 ∧ mrk c sky b L f K M y) ∨ (g t = 0 ∧ ¬ mrk c sky b L f K M y)) ∧ (any = true ↔ ∃ t : Nat, t < L.length ∧ g t = 1)
theorem mrk_same {c : KC} {sky b : Nat} {L : List ST} {f g : Int → Int} {K M K' M' : Nat} {any : Bool} (h : mrkI c sky b L f g K M any) (e : ∀ y, mrk c sky b L f K' M' y ↔ mrk c sky b L f K M y) : mrkI c sky b L f g K' M' any := by
  refine ⟨fun t y hy => ?_, h.2⟩
  rcases h.1 t y hy with ⟨h1, h2⟩ | ⟨h1, h2⟩
  · exact Or.inl ⟨h1, (e y).mpr h2⟩
  · exact Or.inr ⟨h1, fun z => h2 ((e y).mp z)⟩
theorem mrk_skip {c : KC} {sky b : Nat} {L : List ST} {f : Int → Int} {k : Nat} (hf : ¬ 0 < f k) (M : Nat) (y : ST) : mrk c sky b L f (k + 1) 0 y ↔ mrk c sky b L f k M y := by
  constructor
  · rintro ⟨k', m, x, h1, h2, h3, h4⟩
    have : k' ≠ k := fun z => hf (z ▸ h3)
    exact ⟨k', m, x, by omega, h2, h3, h4⟩
  · rintro ⟨k', m, x, h1, h2, h3, h4⟩
    have : k' ≠ k := fun z => hf (z ▸ h3)
    exact ⟨k', m, x, by omega, h2, h3, h4⟩
theorem mrk_end {c : KC} {sky b : Nat} {L : List ST} {f : Int → Int} {k : Nat} (y : ST) : mrk c sky b L f (k + 1) 0 y ↔ mrk c sky b L f k 19 y := by
  constructor
  · rintro ⟨k', m, x, h1, h2, h3, h4, h5⟩
    exact ⟨k', m, x, by omega, h2, h3, h4, h5⟩
  · rintro ⟨k', m, x, h1, h2, h3, h4, h5⟩
    exact ⟨k', m, x, by omega, h2, h3, h4, h5⟩
theorem mrk_no {c : KC} {sky b : Nat} {L : List ST} {f : Int → Int} {k m : Nat} {x : ST} (hx : L[k]? = some x) (h : ¬ (alwM c sky b x m = true ∧ downB c (toM c sky x m) = false)) (y : ST) : mrk c sky b L f k (m + 1) y ↔ mrk c sky b L f k m y := by
  constructor
  · rintro ⟨k', m', x', h1, h2, h3, h4, h5, h6, h7⟩
    by_cases q : k' = k ∧ m' = m
    · obtain ⟨rfl, rfl⟩ := q
      rw [hx] at h2
      cases h2
      rw [← h6] at h7
      exact absurd ⟨h5, h7⟩ h
    · exact ⟨k', m', x', by omega, h2, h3, h4, h5, h6, h7⟩
  · rintro ⟨k', m', x', h1, h2⟩
    exact ⟨k', m', x', by omega, h2⟩
theorem mrk_yes {c : KC} {sky b : Nat} {L : List ST} {f g : Int → Int} {F : ST → Int} {k m t : Nat} {x : ST} {any : Bool} (hF : ∀ (j : Nat) x, L[j]? = some x → F x = (j : Int)) (hx : L[k]? = some x) (hf : 0 < f k) (hm : m < 19) (ha : alwM c sky b x m = true) (hd : downB c (toM c sky x m) = false) (ht : L[t]? = some (toM c sky x m)) (h : mrkI c sky b L f g k m any) : mrkI c sky b L f (fset g t 1) k (m + 1) true := by
  have htl := (List.getElem?_eq_some_iff.mp ht).1
  refine ⟨fun t' y hy => ?_, fun _ => ⟨t, htl, fs_same⟩, fun _ => rfl⟩
  by_cases q : t' = t
  · subst q
    rw [ht] at hy
    cases hy
    exact Or.inl ⟨fs_same, k, m, x, Or.inr ⟨rfl, by omega⟩, hx, hf, hm, ha, rfl, hd⟩
  · rw [fs_ne (by omega)]
    have e : mrk c sky b L f k (m + 1) y ↔ mrk c sky b L f k m y := by
      constructor
      · rintro ⟨k', m', x', h1, h2, h3, h4, h5, h6, h7⟩
        by_cases q' : k' = k ∧ m' = m
        · obtain ⟨rfl, rfl⟩ := q'
          rw [hx] at h2
          cases h2
          rw [← h6] at hy
          have a := hF _ _ hy
          have b := hF _ _ ht
          rw [a] at b
          omega
        · exact ⟨k', m', x', by omega, h2, h3, h4, h5, h6, h7⟩
      · rintro ⟨k', m', x', h1, h2⟩
        exact ⟨k', m', x', by omega, h2⟩
    rcases h.1 t' y hy with ⟨h1, h2⟩ | ⟨h1, h2⟩
    · exact Or.inl ⟨h1, e.mpr h2⟩
    · exact Or.inr ⟨h1, fun z => h2 (e.mp z)⟩
theorem r_ckM {h : PH} {c : KC} {sky b k : Nat} {s x : ST} {L : List ST} {i : Nat → Int} {f : Int → Int} {l1 l2 l4 : Int} (hO : okC c) (hx : L[k]? = some x) (ha : 0 < f k) (ha2 : f k < 9223372036854775808) :
    ∀ (r m : Nat) (A : Nat → Int → Int) (any : Bool) (o7 : Option PV), m + r = 19 → ctyR (A 72) c → laidR c sky b false s L i A → A 83 = f → mrkI c sky b L f (A 84) k m any → ∃ (g : Int → Int) (any' : Bool) (l7 : Option PV), mrkI c sky b L f g (k + 1) 0 any' ∧ ∀ d Q, WP (d + 3) 254 42 [some (vr 71), some (vi l1), some (vi l2), some (vi (if any then 1 else 0)), some (vi l4), some (vi k), some (vi m), o7] [] (mdH h i A) Q = WP (d + 3) 254 30 [some (vr 71), some (vi l1), some (vi l2), some (vi (if any' then 1 else 0)), some (vi l4), some (vi ((k + 1 : Nat) : Int)), some (vi 19), l7] [] (mdH h i (aup A 84 g)) Q := by
  have hK := hO.1
  have hkl := (List.getElem?_eq_some_iff.mp hx).1
  intro r
  induction r with
  | zero =>
    intro m A any o7 hm hR hL h83 hI
    have hm' : m = 19 := by omega
    subst hm'
    refine ⟨A 84, any, o7, mrk_same hI (fun y => mrk_end y), fun d Q => ?_⟩
    rw [aup_id]
    rw [e_254_42]
    simp (disch := omega) only [e_254_44, e_254_46, e_254_110, e_254_113, mdO_c, mdO_g0, mdO_k0, mdO_g1, mdO_k1, mdO_g2, mdO_k2, mdO_g3, mdO_k3, mdO_g4, mdO_k4, mdO_g5, mdO_k5, mdO_g6, mdO_k6, mdO_g7, mdO_k7, mdO_g8, mdO_k8, mdO_g9, mdO_k9, mdO_g10, mdO_k10, mdO_g11, mdO_k11, mdO_g12, mdO_k12, mdO_g13, mdO_k13, mdO_g14, mdO_k14, mdO_g15, mdO_k15, mdO_g16, mdO_k16, mdO_g17, mdO_k17, mdO_g18, mdO_k18, mdO_g19, mdO_k19, mdO_g20, mdO_k20, mdO_g21, mdO_k21, mdO_g22, mdO_k22, mdO_g23, mdO_k23, mdO_g24, mdO_k24, mdO_g25, mdO_k25, mdO_g26, mdO_k26, mdO_g27, mdO_k27, mdO_g28, mdO_k28, mdO_g29, mdO_k29, mdO_g30, mdO_k30, mdO_g31, mdO_k31, mdO_g32, mdO_k32, mdO_g33, mdO_k33, mdO_g34, mdO_k34, mdO_g35, mdO_k35, mdO_s0, mdO_s5, mdO_s6, mdO_s7, mdO_s8, mdO_s9, mdO_s10, mdO_s11, mdO_s12, mdO_s13, mdO_s14, mdO_s15, mdO_s19, mdO_s20, mdO_s25, mdO_s26, mdO_s31, mdO_s32, md_1, md_2, md_g71, md_g72, md_g73, md_g74, md_g75, md_g76, md_g77, md_g78, md_g79, md_g80, md_g81, md_g82, md_g83, md_g84, md_g85, md_g86, md_g87, md_g88, md_g89, md_out, md_u71, md_u72, md_u73, md_u74, md_u75, md_u76, md_u77, md_u78, md_u79, md_u80, md_u81, md_u82, md_u83, md_u84, md_u85, md_u86, md_u87, md_u88, md_u89, md_uo, iup_s, iup_n, aup_s, aup_n, ne_eq, not_false_eq_true, sh_0, sh_1, sh_2, sh_3, sh_4, sh_5, sh_8, sh_15, sh_16, sh_24, Int.reducePow, Int.cast_ofNat_Int, w_of, wl_of, ltT, ltF, leT, leF, eqT, eqF, okF_0, okF_s, gF_0, gF_s, consC_o, sF_0, sF_s, clsO_o, inA_i, ldA_i, stA_i, inJ_l, ldJ_l, stJ_l, inR_r, ldR_r, stR_r, tgR_r, lenA_i, lenA_l, lenA_r, lenA_ex, nl_i, nl_o, nl_l, nl_n, wd_n, wd_i, wd_l, wd_o, fit_i, fit_l, fit_o, K_v, K_n, true_and, and_true, Nat.reduceAdd, Nat.reduceLeDiff, Nat.reduceEqDiff, Nat.reduceMul, Nat.reduceLT, reduceIte, true_or, or_true, cmp_lt, cmp_gt, cmp_eq, wb_0, b_01, cmp_lt', cmp_gt', cmp_eq', b_0, b_1, wb_1, Int.reduceSub, Int.reduceToNat, List.getD_cons_succ, List.getD_cons_zero, Int.reduceLE, Int.reduceLT, Int.reduceEq, Int.reduceNeg, Int.reduceAdd, Int.reduceMul, and_self, em_b, ne_eq, not_false_eq_true, not_true_eq_false]
    try rfl
  | succ r ih =>
    intro m A any o7 hm hR hL h83 hI
    have hlen := stkR_len hK hL.1
    have e83 : A 83 k = f k := by rw [h83]
    have e1 : (19 : Int) * (k : Int) + (m : Int) = ((19 * k + m : Nat) : Int) := by omega
    rcases hL.2.2.1 k m hkl (by omega) x hx with ⟨hal, t, h80, ht, -⟩ | ⟨hal, h80⟩
    · have htl := (List.getElem?_eq_some_iff.mp ht).1
      have up := fun (d : Nat) (Q : PQ) => r_isUp (d := d) (h := h) (Q := Q) hK hR hL.1 ht
      by_cases hd : downB c (toM c sky x m) = true
      · simp only [hd, if_true] at up
        obtain ⟨g, any', l7, g1, g2⟩ := ih (m + 1) A any (some (vi t)) (by omega) hR hL h83 (mrk_same hI (fun y => mrk_no hx (fun z => by rw [hd] at z; exact absurd z.2 (by decide)) y))
        refine ⟨g, any', l7, g1, fun d Q => ?_⟩
        rw [← g2 d Q]
        rw [e_254_42]
        simp (disch := omega) only [e_254_44, e_254_46, e_254_49, e_254_50, e_254_53, e_254_55, e_254_56, e_254_57, e_254_58, e_254_61, e_254_62, e_254_65, e_254_67, e_254_69, e_254_70, e_254_72, e_254_73, e_254_74, e_254_76, e_254_78, e_254_79, e_254_82, e_254_83, e_254_85, e_254_88, e_254_91, e_254_94, e_254_95, e_254_98, e_254_100, e_254_101, e_254_102, e_254_103, e_254_104, e_254_107, e1, h80, e83, up, mdO_c, mdO_g0, mdO_k0, mdO_g1, mdO_k1, mdO_g2, mdO_k2, mdO_g3, mdO_k3, mdO_g4, mdO_k4, mdO_g5, mdO_k5, mdO_g6, mdO_k6, mdO_g7, mdO_k7, mdO_g8, mdO_k8, mdO_g9, mdO_k9, mdO_g10, mdO_k10, mdO_g11, mdO_k11, mdO_g12, mdO_k12, mdO_g13, mdO_k13, mdO_g14, mdO_k14, mdO_g15, mdO_k15, mdO_g16, mdO_k16, mdO_g17, mdO_k17, mdO_g18, mdO_k18, mdO_g19, mdO_k19, mdO_g20, mdO_k20, mdO_g21, mdO_k21, mdO_g22, mdO_k22, mdO_g23, mdO_k23, mdO_g24, mdO_k24, mdO_g25, mdO_k25, mdO_g26, mdO_k26, mdO_g27, mdO_k27, mdO_g28, mdO_k28, mdO_g29, mdO_k29, mdO_g30, mdO_k30, mdO_g31, mdO_k31, mdO_g32, mdO_k32, mdO_g33, mdO_k33, mdO_g34, mdO_k34, mdO_g35, mdO_k35, mdO_s0, mdO_s5, mdO_s6, mdO_s7, mdO_s8, mdO_s9, mdO_s10, mdO_s11, mdO_s12, mdO_s13, mdO_s14, mdO_s15, mdO_s19, mdO_s20, mdO_s25, mdO_s26, mdO_s31, mdO_s32, md_1, md_2, md_g71, md_g72, md_g73, md_g74, md_g75, md_g76, md_g77, md_g78, md_g79, md_g80, md_g81, md_g82, md_g83, md_g84, md_g85, md_g86, md_g87, md_g88, md_g89, md_out, md_u71, md_u72, md_u73, md_u74, md_u75, md_u76, md_u77, md_u78, md_u79, md_u80, md_u81, md_u82, md_u83, md_u84, md_u85, md_u86, md_u87, md_u88, md_u89, md_uo, iup_s, iup_n, aup_s, aup_n, ne_eq, not_false_eq_true, sh_0, sh_1, sh_2, sh_3, sh_4, sh_5, sh_8, sh_15, sh_16, sh_24, Int.reducePow, Int.cast_ofNat_Int, w_of, wl_of, ltT, ltF, leT, leF, eqT, eqF, okF_0, okF_s, gF_0, gF_s, consC_o, sF_0, sF_s, clsO_o, inA_i, ldA_i, stA_i, inJ_l, ldJ_l, stJ_l, inR_r, ldR_r, stR_r, tgR_r, lenA_i, lenA_l, lenA_r, lenA_ex, nl_i, nl_o, nl_l, nl_n, wd_n, wd_i, wd_l, wd_o, fit_i, fit_l, fit_o, K_v, K_n, true_and, and_true, Nat.reduceAdd, Nat.reduceLeDiff, Nat.reduceEqDiff, Nat.reduceMul, Nat.reduceLT, reduceIte, true_or, or_true, cmp_lt, cmp_gt, cmp_eq, wb_0, b_01, cmp_lt', cmp_gt', cmp_eq', b_0, b_1, wb_1, Int.reduceSub, Int.reduceToNat, List.getD_cons_succ, List.getD_cons_zero, Int.reduceLE, Int.reduceLT, Int.reduceEq, Int.reduceNeg, Int.reduceAdd, Int.reduceMul, and_self, em_b, ne_eq, not_false_eq_true, not_true_eq_false]
        try rfl
      · have hd' : downB c (toM c sky x m) = false := by simpa using hd
        simp only [hd', if_false, Bool.false_eq_true] at up
        obtain ⟨g, any', l7, g1, g2⟩ := ih (m + 1) (aup A 84 (fset (A 84) t 1)) true (some (vi t)) (by omega) (ctyR_x hR (aup_n (by omega))) (laidR_x hL rfl (aup_n (by omega)) (aup_n (by omega)) (aup_n (by omega))) (by rw [aup_n (by omega)]; exact h83) (by rw [aup_s]; exact mrk_yes (F := fun x => A 82 (encR x)) (fun j x hx => (hL.1.2.2.1 j x hx).2) hx ha (by omega) hal hd' ht hI)
        refine ⟨g, any', l7, g1, fun d Q => ?_⟩
        have g2' := g2 d Q
        rw [aup_aup] at g2'
        rw [← g2']
        rw [e_254_42]
        simp (disch := omega) only [e_254_44, e_254_46, e_254_49, e_254_50, e_254_53, e_254_55, e_254_56, e_254_57, e_254_58, e_254_61, e_254_62, e_254_65, e_254_67, e_254_69, e_254_70, e_254_72, e_254_73, e_254_74, e_254_76, e_254_78, e_254_79, e_254_82, e_254_83, e_254_85, e_254_88, e_254_91, e_254_94, e_254_95, e_254_98, e_254_100, e_254_101, e_254_102, e_254_103, e_254_104, e_254_107, e1, h80, e83, up, mdO_c, mdO_g0, mdO_k0, mdO_g1, mdO_k1, mdO_g2, mdO_k2, mdO_g3, mdO_k3, mdO_g4, mdO_k4, mdO_g5, mdO_k5, mdO_g6, mdO_k6, mdO_g7, mdO_k7, mdO_g8, mdO_k8, mdO_g9, mdO_k9, mdO_g10, mdO_k10, mdO_g11, mdO_k11, mdO_g12, mdO_k12, mdO_g13, mdO_k13, mdO_g14, mdO_k14, mdO_g15, mdO_k15, mdO_g16, mdO_k16, mdO_g17, mdO_k17, mdO_g18, mdO_k18, mdO_g19, mdO_k19, mdO_g20, mdO_k20, mdO_g21, mdO_k21, mdO_g22, mdO_k22, mdO_g23, mdO_k23, mdO_g24, mdO_k24, mdO_g25, mdO_k25, mdO_g26, mdO_k26, mdO_g27, mdO_k27, mdO_g28, mdO_k28, mdO_g29, mdO_k29, mdO_g30, mdO_k30, mdO_g31, mdO_k31, mdO_g32, mdO_k32, mdO_g33, mdO_k33, mdO_g34, mdO_k34, mdO_g35, mdO_k35, mdO_s0, mdO_s5, mdO_s6, mdO_s7, mdO_s8, mdO_s9, mdO_s10, mdO_s11, mdO_s12, mdO_s13, mdO_s14, mdO_s15, mdO_s19, mdO_s20, mdO_s25, mdO_s26, mdO_s31, mdO_s32, md_1, md_2, md_g71, md_g72, md_g73, md_g74, md_g75, md_g76, md_g77, md_g78, md_g79, md_g80, md_g81, md_g82, md_g83, md_g84, md_g85, md_g86, md_g87, md_g88, md_g89, md_out, md_u71, md_u72, md_u73, md_u74, md_u75, md_u76, md_u77, md_u78, md_u79, md_u80, md_u81, md_u82, md_u83, md_u84, md_u85, md_u86, md_u87, md_u88, md_u89, md_uo, iup_s, iup_n, aup_s, aup_n, ne_eq, not_false_eq_true, sh_0, sh_1, sh_2, sh_3, sh_4, sh_5, sh_8, sh_15, sh_16, sh_24, Int.reducePow, Int.cast_ofNat_Int, w_of, wl_of, ltT, ltF, leT, leF, eqT, eqF, okF_0, okF_s, gF_0, gF_s, consC_o, sF_0, sF_s, clsO_o, inA_i, ldA_i, stA_i, inJ_l, ldJ_l, stJ_l, inR_r, ldR_r, stR_r, tgR_r, lenA_i, lenA_l, lenA_r, lenA_ex, nl_i, nl_o, nl_l, nl_n, wd_n, wd_i, wd_l, wd_o, fit_i, fit_l, fit_o, K_v, K_n, true_and, and_true, Nat.reduceAdd, Nat.reduceLeDiff, Nat.reduceEqDiff, Nat.reduceMul, Nat.reduceLT, reduceIte, true_or, or_true, cmp_lt, cmp_gt, cmp_eq, wb_0, b_01, cmp_lt', cmp_gt', cmp_eq', b_0, b_1, wb_1, Int.reduceSub, Int.reduceToNat, List.getD_cons_succ, List.getD_cons_zero, Int.reduceLE, Int.reduceLT, Int.reduceEq, Int.reduceNeg, Int.reduceAdd, Int.reduceMul, and_self, em_b, ne_eq, not_false_eq_true, not_true_eq_false]
        try rfl
    · obtain ⟨g, any', l7, g1, g2⟩ := ih (m + 1) A any (some (vi (-1))) (by omega) hR hL h83 (mrk_same hI (fun y => mrk_no hx (fun z => by rw [hal] at z; exact absurd z.1 (by decide)) y))
      refine ⟨g, any', l7, g1, fun d Q => ?_⟩
      rw [← g2 d Q]
      rw [e_254_42]
      simp (disch := omega) only [e_254_44, e_254_46, e_254_49, e_254_50, e_254_53, e_254_55, e_254_56, e_254_57, e_254_58, e_254_61, e_254_62, e_254_65, e_254_67, e_254_69, e_254_70, e_254_72, e_254_73, e_254_74, e_254_76, e_254_78, e_254_79, e_254_82, e_254_83, e_254_85, e_254_88, e_254_91, e_254_94, e_254_95, e_254_98, e_254_100, e_254_101, e_254_102, e_254_103, e_254_104, e_254_107, e1, h80, e83, mdO_c, mdO_g0, mdO_k0, mdO_g1, mdO_k1, mdO_g2, mdO_k2, mdO_g3, mdO_k3, mdO_g4, mdO_k4, mdO_g5, mdO_k5, mdO_g6, mdO_k6, mdO_g7, mdO_k7, mdO_g8, mdO_k8, mdO_g9, mdO_k9, mdO_g10, mdO_k10, mdO_g11, mdO_k11, mdO_g12, mdO_k12, mdO_g13, mdO_k13, mdO_g14, mdO_k14, mdO_g15, mdO_k15, mdO_g16, mdO_k16, mdO_g17, mdO_k17, mdO_g18, mdO_k18, mdO_g19, mdO_k19, mdO_g20, mdO_k20, mdO_g21, mdO_k21, mdO_g22, mdO_k22, mdO_g23, mdO_k23, mdO_g24, mdO_k24, mdO_g25, mdO_k25, mdO_g26, mdO_k26, mdO_g27, mdO_k27, mdO_g28, mdO_k28, mdO_g29, mdO_k29, mdO_g30, mdO_k30, mdO_g31, mdO_k31, mdO_g32, mdO_k32, mdO_g33, mdO_k33, mdO_g34, mdO_k34, mdO_g35, mdO_k35, mdO_s0, mdO_s5, mdO_s6, mdO_s7, mdO_s8, mdO_s9, mdO_s10, mdO_s11, mdO_s12, mdO_s13, mdO_s14, mdO_s15, mdO_s19, mdO_s20, mdO_s25, mdO_s26, mdO_s31, mdO_s32, md_1, md_2, md_g71, md_g72, md_g73, md_g74, md_g75, md_g76, md_g77, md_g78, md_g79, md_g80, md_g81, md_g82, md_g83, md_g84, md_g85, md_g86, md_g87, md_g88, md_g89, md_out, md_u71, md_u72, md_u73, md_u74, md_u75, md_u76, md_u77, md_u78, md_u79, md_u80, md_u81, md_u82, md_u83, md_u84, md_u85, md_u86, md_u87, md_u88, md_u89, md_uo, iup_s, iup_n, aup_s, aup_n, ne_eq, not_false_eq_true, sh_0, sh_1, sh_2, sh_3, sh_4, sh_5, sh_8, sh_15, sh_16, sh_24, Int.reducePow, Int.cast_ofNat_Int, w_of, wl_of, ltT, ltF, leT, leF, eqT, eqF, okF_0, okF_s, gF_0, gF_s, consC_o, sF_0, sF_s, clsO_o, inA_i, ldA_i, stA_i, inJ_l, ldJ_l, stJ_l, inR_r, ldR_r, stR_r, tgR_r, lenA_i, lenA_l, lenA_r, lenA_ex, nl_i, nl_o, nl_l, nl_n, wd_n, wd_i, wd_l, wd_o, fit_i, fit_l, fit_o, K_v, K_n, true_and, and_true, Nat.reduceAdd, Nat.reduceLeDiff, Nat.reduceEqDiff, Nat.reduceMul, Nat.reduceLT, reduceIte, true_or, or_true, cmp_lt, cmp_gt, cmp_eq, wb_0, b_01, cmp_lt', cmp_gt', cmp_eq', b_0, b_1, wb_1, Int.reduceSub, Int.reduceToNat, List.getD_cons_succ, List.getD_cons_zero, Int.reduceLE, Int.reduceLT, Int.reduceEq, Int.reduceNeg, Int.reduceAdd, Int.reduceMul, and_self, em_b, ne_eq, not_false_eq_true, not_true_eq_false]
      try rfl
theorem r_ckK {h : PH} {c : KC} {sky b : Nat} {s : ST} {L : List ST} {i : Nat → Int} {f : Int → Int} {l1 l2 l4 : Int} (hO : okC c) (hf : ∀ k : Nat, k < L.length → 0 ≤ f k ∧ f k < 9223372036854775808) :
    ∀ (r k : Nat) (A : Nat → Int → Int) (any : Bool) (o6 o7 : Option PV), k + r = L.length → ctyR (A 72) c → laidR c sky b false s L i A → A 83 = f → mrkI c sky b L f (A 84) k 0 any → ∃ (g : Int → Int) (any' : Bool) (l6 l7 : Option PV), mrkI c sky b L f g L.length 0 any' ∧ ∀ d Q, WP (d + 3) 254 30 [some (vr 71), some (vi l1), some (vi l2), some (vi (if any then 1 else 0)), some (vi l4), some (vi k), o6, o7] [] (mdH h i A) Q = WP (d + 3) 254 116 [some (vr 71), some (vi l1), some (vi l2), some (vi (if any' then 1 else 0)), some (vi l4), some (vi L.length), l6, l7] [] (mdH h i (aup A 84 g)) Q := by
  have hK := hO.1
  intro r
  induction r with
  | zero =>
    intro k A any o6 o7 hk hR hL h83 hI
    have hk' : k = L.length := by omega
    subst hk'
    have h25 := hL.1.1
    have hlen := stkR_len hK hL.1
    refine ⟨A 84, any, o6, o7, hI, fun d Q => ?_⟩
    rw [aup_id]
    rw [e_254_30]
    simp (disch := omega) only [e_254_32, e_254_33, e_254_36, h25, mdO_c, mdO_g0, mdO_k0, mdO_g1, mdO_k1, mdO_g2, mdO_k2, mdO_g3, mdO_k3, mdO_g4, mdO_k4, mdO_g5, mdO_k5, mdO_g6, mdO_k6, mdO_g7, mdO_k7, mdO_g8, mdO_k8, mdO_g9, mdO_k9, mdO_g10, mdO_k10, mdO_g11, mdO_k11, mdO_g12, mdO_k12, mdO_g13, mdO_k13, mdO_g14, mdO_k14, mdO_g15, mdO_k15, mdO_g16, mdO_k16, mdO_g17, mdO_k17, mdO_g18, mdO_k18, mdO_g19, mdO_k19, mdO_g20, mdO_k20, mdO_g21, mdO_k21, mdO_g22, mdO_k22, mdO_g23, mdO_k23, mdO_g24, mdO_k24, mdO_g25, mdO_k25, mdO_g26, mdO_k26, mdO_g27, mdO_k27, mdO_g28, mdO_k28, mdO_g29, mdO_k29, mdO_g30, mdO_k30, mdO_g31, mdO_k31, mdO_g32, mdO_k32, mdO_g33, mdO_k33, mdO_g34, mdO_k34, mdO_g35, mdO_k35, mdO_s0, mdO_s5, mdO_s6, mdO_s7, mdO_s8, mdO_s9, mdO_s10, mdO_s11, mdO_s12, mdO_s13, mdO_s14, mdO_s15, mdO_s19, mdO_s20, mdO_s25, mdO_s26, mdO_s31, mdO_s32, md_1, md_2, md_g71, md_g72, md_g73, md_g74, md_g75, md_g76, md_g77, md_g78, md_g79, md_g80, md_g81, md_g82, md_g83, md_g84, md_g85, md_g86, md_g87, md_g88, md_g89, md_out, md_u71, md_u72, md_u73, md_u74, md_u75, md_u76, md_u77, md_u78, md_u79, md_u80, md_u81, md_u82, md_u83, md_u84, md_u85, md_u86, md_u87, md_u88, md_u89, md_uo, iup_s, iup_n, aup_s, aup_n, ne_eq, not_false_eq_true, sh_0, sh_1, sh_2, sh_3, sh_4, sh_5, sh_8, sh_15, sh_16, sh_24, Int.reducePow, Int.cast_ofNat_Int, w_of, wl_of, ltT, ltF, leT, leF, eqT, eqF, okF_0, okF_s, gF_0, gF_s, consC_o, sF_0, sF_s, clsO_o, inA_i, ldA_i, stA_i, inJ_l, ldJ_l, stJ_l, inR_r, ldR_r, stR_r, tgR_r, lenA_i, lenA_l, lenA_r, lenA_ex, nl_i, nl_o, nl_l, nl_n, wd_n, wd_i, wd_l, wd_o, fit_i, fit_l, fit_o, K_v, K_n, true_and, and_true, Nat.reduceAdd, Nat.reduceLeDiff, Nat.reduceEqDiff, Nat.reduceMul, Nat.reduceLT, reduceIte, true_or, or_true, cmp_lt, cmp_gt, cmp_eq, wb_0, b_01, cmp_lt', cmp_gt', cmp_eq', b_0, b_1, wb_1, Int.reduceSub, Int.reduceToNat, List.getD_cons_succ, List.getD_cons_zero, Int.reduceLE, Int.reduceLT, Int.reduceEq, Int.reduceNeg, Int.reduceAdd, Int.reduceMul, and_self, em_b, ne_eq, not_false_eq_true, not_true_eq_false]
  | succ r ih =>
    intro k A any o6 o7 hk hR hL h83 hI
    have hkl : k < L.length := by omega
    have h25 := hL.1.1
    have hlen := stkR_len hK hL.1
    have hx : L[k]? = some L[k] := List.getElem?_eq_getElem hkl
    generalize L[k] = x at hx
    have hfk := hf k hkl
    by_cases q : f k = 0
    · obtain ⟨g, any', l6, l7, g1, g2⟩ := ih (k + 1) A any (some (vi 0)) o7 (by omega) hR hL h83 (mrk_same hI (fun y => mrk_skip (by omega) 0 y))
      refine ⟨g, any', l6, l7, g1, fun d Q => ?_⟩
      have e83 : A 83 k = 0 := by rw [h83]; exact q
      rw [← g2 d Q]
      rw [e_254_30]
      simp (disch := omega) only [e_254_32, e_254_33, e_254_36, e_254_39, e_254_40, h25, mdO_c, mdO_g0, mdO_k0, mdO_g1, mdO_k1, mdO_g2, mdO_k2, mdO_g3, mdO_k3, mdO_g4, mdO_k4, mdO_g5, mdO_k5, mdO_g6, mdO_k6, mdO_g7, mdO_k7, mdO_g8, mdO_k8, mdO_g9, mdO_k9, mdO_g10, mdO_k10, mdO_g11, mdO_k11, mdO_g12, mdO_k12, mdO_g13, mdO_k13, mdO_g14, mdO_k14, mdO_g15, mdO_k15, mdO_g16, mdO_k16, mdO_g17, mdO_k17, mdO_g18, mdO_k18, mdO_g19, mdO_k19, mdO_g20, mdO_k20, mdO_g21, mdO_k21, mdO_g22, mdO_k22, mdO_g23, mdO_k23, mdO_g24, mdO_k24, mdO_g25, mdO_k25, mdO_g26, mdO_k26, mdO_g27, mdO_k27, mdO_g28, mdO_k28, mdO_g29, mdO_k29, mdO_g30, mdO_k30, mdO_g31, mdO_k31, mdO_g32, mdO_k32, mdO_g33, mdO_k33, mdO_g34, mdO_k34, mdO_g35, mdO_k35, mdO_s0, mdO_s5, mdO_s6, mdO_s7, mdO_s8, mdO_s9, mdO_s10, mdO_s11, mdO_s12, mdO_s13, mdO_s14, mdO_s15, mdO_s19, mdO_s20, mdO_s25, mdO_s26, mdO_s31, mdO_s32, md_1, md_2, md_g71, md_g72, md_g73, md_g74, md_g75, md_g76, md_g77, md_g78, md_g79, md_g80, md_g81, md_g82, md_g83, md_g84, md_g85, md_g86, md_g87, md_g88, md_g89, md_out, md_u71, md_u72, md_u73, md_u74, md_u75, md_u76, md_u77, md_u78, md_u79, md_u80, md_u81, md_u82, md_u83, md_u84, md_u85, md_u86, md_u87, md_u88, md_u89, md_uo, iup_s, iup_n, aup_s, aup_n, ne_eq, not_false_eq_true, sh_0, sh_1, sh_2, sh_3, sh_4, sh_5, sh_8, sh_15, sh_16, sh_24, Int.reducePow, Int.cast_ofNat_Int, w_of, wl_of, ltT, ltF, leT, leF, eqT, eqF, okF_0, okF_s, gF_0, gF_s, consC_o, sF_0, sF_s, clsO_o, inA_i, ldA_i, stA_i, inJ_l, ldJ_l, stJ_l, inR_r, ldR_r, stR_r, tgR_r, lenA_i, lenA_l, lenA_r, lenA_ex, nl_i, nl_o, nl_l, nl_n, wd_n, wd_i, wd_l, wd_o, fit_i, fit_l, fit_o, K_v, K_n, true_and, and_true, Nat.reduceAdd, Nat.reduceLeDiff, Nat.reduceEqDiff, Nat.reduceMul, Nat.reduceLT, reduceIte, true_or, or_true, cmp_lt, cmp_gt, cmp_eq, wb_0, b_01, cmp_lt', cmp_gt', cmp_eq', b_0, b_1, wb_1, Int.reduceSub, Int.reduceToNat, List.getD_cons_succ, List.getD_cons_zero, Int.reduceLE, Int.reduceLT, Int.reduceEq, Int.reduceNeg, Int.reduceAdd, Int.reduceMul, and_self, em_b, ne_eq, not_false_eq_true, not_true_eq_false]
      rw [e_254_42]
      simp (disch := omega) only [e_254_44, e_254_46, e_254_49, e_254_50, e_254_53, e_254_55, e_254_56, e_254_57, e_254_58, e_254_110, e_254_113, e83, mdO_c, mdO_g0, mdO_k0, mdO_g1, mdO_k1, mdO_g2, mdO_k2, mdO_g3, mdO_k3, mdO_g4, mdO_k4, mdO_g5, mdO_k5, mdO_g6, mdO_k6, mdO_g7, mdO_k7, mdO_g8, mdO_k8, mdO_g9, mdO_k9, mdO_g10, mdO_k10, mdO_g11, mdO_k11, mdO_g12, mdO_k12, mdO_g13, mdO_k13, mdO_g14, mdO_k14, mdO_g15, mdO_k15, mdO_g16, mdO_k16, mdO_g17, mdO_k17, mdO_g18, mdO_k18, mdO_g19, mdO_k19, mdO_g20, mdO_k20, mdO_g21, mdO_k21, mdO_g22, mdO_k22, mdO_g23, mdO_k23, mdO_g24, mdO_k24, mdO_g25, mdO_k25, mdO_g26, mdO_k26, mdO_g27, mdO_k27, mdO_g28, mdO_k28, mdO_g29, mdO_k29, mdO_g30, mdO_k30, mdO_g31, mdO_k31, mdO_g32, mdO_k32, mdO_g33, mdO_k33, mdO_g34, mdO_k34, mdO_g35, mdO_k35, mdO_s0, mdO_s5, mdO_s6, mdO_s7, mdO_s8, mdO_s9, mdO_s10, mdO_s11, mdO_s12, mdO_s13, mdO_s14, mdO_s15, mdO_s19, mdO_s20, mdO_s25, mdO_s26, mdO_s31, mdO_s32, md_1, md_2, md_g71, md_g72, md_g73, md_g74, md_g75, md_g76, md_g77, md_g78, md_g79, md_g80, md_g81, md_g82, md_g83, md_g84, md_g85, md_g86, md_g87, md_g88, md_g89, md_out, md_u71, md_u72, md_u73, md_u74, md_u75, md_u76, md_u77, md_u78, md_u79, md_u80, md_u81, md_u82, md_u83, md_u84, md_u85, md_u86, md_u87, md_u88, md_u89, md_uo, iup_s, iup_n, aup_s, aup_n, ne_eq, not_false_eq_true, sh_0, sh_1, sh_2, sh_3, sh_4, sh_5, sh_8, sh_15, sh_16, sh_24, Int.reducePow, Int.cast_ofNat_Int, w_of, wl_of, ltT, ltF, leT, leF, eqT, eqF, okF_0, okF_s, gF_0, gF_s, consC_o, sF_0, sF_s, clsO_o, inA_i, ldA_i, stA_i, inJ_l, ldJ_l, stJ_l, inR_r, ldR_r, stR_r, tgR_r, lenA_i, lenA_l, lenA_r, lenA_ex, nl_i, nl_o, nl_l, nl_n, wd_n, wd_i, wd_l, wd_o, fit_i, fit_l, fit_o, K_v, K_n, true_and, and_true, Nat.reduceAdd, Nat.reduceLeDiff, Nat.reduceEqDiff, Nat.reduceMul, Nat.reduceLT, reduceIte, true_or, or_true, cmp_lt, cmp_gt, cmp_eq, wb_0, b_01, cmp_lt', cmp_gt', cmp_eq', b_0, b_1, wb_1, Int.reduceSub, Int.reduceToNat, List.getD_cons_succ, List.getD_cons_zero, Int.reduceLE, Int.reduceLT, Int.reduceEq, Int.reduceNeg, Int.reduceAdd, Int.reduceMul, and_self, em_b, ne_eq, not_false_eq_true, not_true_eq_false]
      try rfl
    · obtain ⟨g0, any0, n7, k1, k2⟩ := r_ckM (h := h) (c := c) (sky := sky) (b := b) (s := s) (i := i) (l1 := l1) (l2 := l2) (l4 := l4) hO hx (show 0 < f k by omega) hfk.2 19 0 A any o7 (by omega) hR hL h83 hI
      obtain ⟨g, any', l6, l7, g1, g2⟩ := ih (k + 1) (aup A 84 g0) any0 (some (vi 19)) n7 (by omega) (ctyR_x hR (aup_n (by omega))) (laidR_x hL rfl (aup_n (by omega)) (aup_n (by omega)) (aup_n (by omega))) (by rw [aup_n (by omega)]; exact h83) (by rw [aup_s]; exact k1)
      refine ⟨g, any', l6, l7, g1, fun d Q => ?_⟩
      have g2' := g2 d Q
      rw [aup_aup] at g2'
      have k2' := k2 d Q
      rw [nc0] at k2'
      rw [← g2', ← k2']
      rw [e_254_30]
      simp (disch := omega) only [e_254_32, e_254_33, e_254_36, e_254_39, e_254_40, h25, mdO_c, mdO_g0, mdO_k0, mdO_g1, mdO_k1, mdO_g2, mdO_k2, mdO_g3, mdO_k3, mdO_g4, mdO_k4, mdO_g5, mdO_k5, mdO_g6, mdO_k6, mdO_g7, mdO_k7, mdO_g8, mdO_k8, mdO_g9, mdO_k9, mdO_g10, mdO_k10, mdO_g11, mdO_k11, mdO_g12, mdO_k12, mdO_g13, mdO_k13, mdO_g14, mdO_k14, mdO_g15, mdO_k15, mdO_g16, mdO_k16, mdO_g17, mdO_k17, mdO_g18, mdO_k18, mdO_g19, mdO_k19, mdO_g20, mdO_k20, mdO_g21, mdO_k21, mdO_g22, mdO_k22, mdO_g23, mdO_k23, mdO_g24, mdO_k24, mdO_g25, mdO_k25, mdO_g26, mdO_k26, mdO_g27, mdO_k27, mdO_g28, mdO_k28, mdO_g29, mdO_k29, mdO_g30, mdO_k30, mdO_g31, mdO_k31, mdO_g32, mdO_k32, mdO_g33, mdO_k33, mdO_g34, mdO_k34, mdO_g35, mdO_k35, mdO_s0, mdO_s5, mdO_s6, mdO_s7, mdO_s8, mdO_s9, mdO_s10, mdO_s11, mdO_s12, mdO_s13, mdO_s14, mdO_s15, mdO_s19, mdO_s20, mdO_s25, mdO_s26, mdO_s31, mdO_s32, md_1, md_2, md_g71, md_g72, md_g73, md_g74, md_g75, md_g76, md_g77, md_g78, md_g79, md_g80, md_g81, md_g82, md_g83, md_g84, md_g85, md_g86, md_g87, md_g88, md_g89, md_out, md_u71, md_u72, md_u73, md_u74, md_u75, md_u76, md_u77, md_u78, md_u79, md_u80, md_u81, md_u82, md_u83, md_u84, md_u85, md_u86, md_u87, md_u88, md_u89, md_uo, iup_s, iup_n, aup_s, aup_n, ne_eq, not_false_eq_true, sh_0, sh_1, sh_2, sh_3, sh_4, sh_5, sh_8, sh_15, sh_16, sh_24, Int.reducePow, Int.cast_ofNat_Int, w_of, wl_of, ltT, ltF, leT, leF, eqT, eqF, okF_0, okF_s, gF_0, gF_s, consC_o, sF_0, sF_s, clsO_o, inA_i, ldA_i, stA_i, inJ_l, ldJ_l, stJ_l, inR_r, ldR_r, stR_r, tgR_r, lenA_i, lenA_l, lenA_r, lenA_ex, nl_i, nl_o, nl_l, nl_n, wd_n, wd_i, wd_l, wd_o, fit_i, fit_l, fit_o, K_v, K_n, true_and, and_true, Nat.reduceAdd, Nat.reduceLeDiff, Nat.reduceEqDiff, Nat.reduceMul, Nat.reduceLT, reduceIte, true_or, or_true, cmp_lt, cmp_gt, cmp_eq, wb_0, b_01, cmp_lt', cmp_gt', cmp_eq', b_0, b_1, wb_1, Int.reduceSub, Int.reduceToNat, List.getD_cons_succ, List.getD_cons_zero, Int.reduceLE, Int.reduceLT, Int.reduceEq, Int.reduceNeg, Int.reduceAdd, Int.reduceMul, and_self, em_b, ne_eq, not_false_eq_true, not_true_eq_false]
