/-! THE CLASS: the Beast, all sweeps; meeting -/
def bfI (c : KC) (sky : Nat) (W : Int → Int) (x : ST) : Prop := (W (encC c x) = 2147483647 ∧ ∀ n, survB c sky n x) ∨ ∃ v : Nat, W (encC c x) = ((v + 1 : Nat) : Int) ∧ valB c sky x v ∧ v < 24000
theorem bf_end {c : KC} {sky k : Nat} {M : List ST} (hcl : clsB c sky M) (hs : ∀ x, x ∈ M → survB c sky k x → survB c sky (k + 1) x) : ∀ m x, x ∈ M → survB c sky k x → survB c sky m x := by
  intro m
  induction m with
  | zero => intro x _ _; trivial
  | succ m ih =>
    intro x hx hk
    obtain ⟨y, y1, y2, y3, y4⟩ := survB_s.mp (hs x hx hk)
    obtain ⟨m1, m2⟩ := hcl x hx y y1 y2
    exact survB_s.mpr ⟨y, y1, y2, ih _ m1 y3, fun p hp => ih _ (m2 p hp) (y4 p hp)⟩
theorem Be_all {ow : Nat → Nat} {ca : Nat} {c : KC} {sky e n nd wA dl dx : Nat} {pm : PV} {i : Nat → Int} {fl : Int → Int} {M : List ST} {x2 : Int} {x3 : Int} (hO : okC c) (hn : szC c ≤ n) (hn1 : n ≤ 24000) (hn2 : szC c ≤ nd) (hn3 : nd ≤ 24000) (ow6 : ow wA = 6) (ox : ow dx = 2) (ol : ow dl = 2) (q1 : 59 < wA) (q2 : 34 < dx) (q3 : 34 < dl) (q4 : dl ≠ dx) (hM : ∀ x, x ∈ M → okS c x) (hMn : (M.map (encC c)).Nodup) (hMl : M.length ≤ szC c) (hP : pathA c M fl) (hcl : clsB c sky M) (hi : i 4 = (M.length : Int)) :
    ∀ (r k : Nat) (h : PH) (W O : Int → Int), k + r = 24001 → owF ow h → HoP ow h ca c sky e → hp h 34 = dkO (vr dl) (vr dx) pm → hp h 59 = beO i (vr ca) (vr wA) → hp h wA = aI 0 n W → hp h dl = aI 0 nd fl → hp h dx = aI 0 nd O → (∀ x, x ∈ M → bvI c sky W k x) → (∀ x, okS c x → ¬ x ∈ M → W (encC c x) = 0) → witO c sky M O → (k = 0 ∨ ∃ x, x ∈ M ∧ survB c sky (k - 1) x ∧ ¬ survB c sky k x) →
    ∃ (h' : PH) (W' O' : Int → Int), chx ow [wA, dx] h h' ∧ HoP ow h' ca c sky e ∧ hp h' wA = aI 0 n W' ∧ hp h' dx = aI 0 nd O' ∧ (∀ x, x ∈ M → bfI c sky W' x) ∧ (∀ x, okS c x → ¬ x ∈ M → W' (encC c x) = 0) ∧ ∀ d Q, WP (d + 11) 3 140 [some (vr 59), some (vr 27), some (vi x2), some (vi x3), some (vi 1), some (vi ((k + 1 : Nat) : Int))] [] h Q = Q none h' := by
  have hK := hO.1
  have h24 := szC_le hK
  intro r
  induction r with
  | zero =>
    intro k h W O hk hF hH h34 h59 hw hfl hdx hI hz hwit hch
    rcases hch with z | ⟨x, x1, x2, x3⟩
    · omega
    · exact absurd (survB_stab hK (hM x x1) (survB_le (by omega) x2) k) x3
  | succ r ih =>
    intro k h W O hk hF hH h34 h59 hw hfl hdx hI hz hwit hch
    have t59 : ow 59 = 6 := hF.2 59 (by omega)
    have t34 := tg_34 hF
    have lw : dl ≠ wA := fun z => by rw [z, ow6] at ol; omega
    have x59 : dx ≠ 59 := fun z => by rw [z, t59] at ox; omega
    obtain ⟨h1, W1, O1, ch, b1, b2, b3, b4, b5, b6, b7, b8, b9⟩ := Be_sLp (ow := ow) (i := i) (pm := pm) (k := k) hO hn hn1 hn2 hn3 (by omega) ow6 ox ol q1 q2 q3 q4 hM hMn hMl hP hcl hi M.length 0 h W O 0 none none (by omega) hF hH h34 h59 hw hfl hdx (fun q x hq => by omega) (fun q x _ hqx => hI x (List.mem_of_getElem? hqx)) hz hwit (Or.inl ⟨rfl, fun q x hq => by omega⟩)
    have sw : ∀ d Q, WP (d + 10) 7 0 [some (vr 59), some (vr 27), some (vi ((k + 1 : Nat) : Int)), none, none, none, none] [] h Q = Q (some (vi ch)) h1 := fun d Q => by
      have := b9 d Q
      rw [nc0] at this
      rw [← this]
      simp (disch := omega) only [e_7_0, e_7_1, e_7_2, e_7_3, beO_c, beO_g0, beO_k0, beO_g1, beO_k1, beO_s1, beO_g2, beO_k2, beO_s2, beO_g3, beO_k3, beO_s3, beO_g4, beO_k4, beO_s4, dkO_c, dkO_g0, dkO_k0, dkO_s0, dkO_g1, dkO_k1, dkO_s1, dkO_g2, dkO_k2, dkO_s2, hoO_c, hoO_g0, hoO_k0, hoO_s0, hoO_g1, hoO_k1, hoO_s1, hoO_g2, hoO_k2, hoO_s2, hoO_g3, hoO_k3, hoO_g4, hoO_k4, hoO_g5, hoO_k5, hoO_g6, hoO_k6, hoO_g7, hoO_k7, hoO_g8, hoO_k8, hoO_g9, hoO_k9, hoO_s9, iup_s, iup_n, hp_up1, hp_upn, ne_eq, not_false_eq_true, sh_0, sh_1, sh_2, sh_3, sh_4, sh_5, sh_8, sh_15, sh_16, sh_24, Int.reducePow, Int.cast_ofNat_Int, w_of, wl_of, ltT, ltF, leT, leF, eqT, eqF, okF_0, okF_s, gF_0, gF_s, consC_o, sF_0, sF_s, clsO_o, inA_i, ldA_i, stA_i, inJ_l, ldJ_l, stJ_l, inR_r, ldR_r, stR_r, tgR_r, lenA_i, lenA_l, lenA_r, lenA_ex, nl_i, nl_o, nl_l, nl_n, wd_n, wd_i, wd_l, wd_o, fit_i, fit_l, fit_o, K_v, K_n, true_and, and_true, Nat.reduceAdd, Nat.reduceLeDiff, Nat.reduceEqDiff, Nat.reduceMul, Nat.reduceLT, reduceIte, true_or, or_true, cmp_lt, cmp_gt, cmp_eq, wb_0, b_01, cmp_lt', cmp_gt', cmp_eq', b_0, b_1, wb_1, Int.reduceSub, Int.reduceToNat, List.getD_cons_succ, List.getD_cons_zero, Int.reduceLE, Int.reduceLT, Int.reduceEq, Int.reduceNeg, Int.reduceAdd, Int.reduceMul, and_self, em_b, ne_eq, not_false_eq_true, not_true_eq_false]
      try rfl
    have e34 : hp h1 34 = dkO (vr dl) (vr dx) pm := by rw [b1.2.2 34 (by rw [t34]; decide) (by simp; omega)]; exact h34
    have e59 : hp h1 59 = beO i (vr ca) (vr wA) := by rw [b1.2.2 59 (by rw [t59]; decide) (by simp; omega)]; exact h59
    have el : hp h1 dl = aI 0 nd fl := by rw [b1.2.2 dl (by rw [ol]; decide) (by simp; exact ⟨lw, q4⟩)]; exact hfl
    have ek : ((k + 1 : Nat) : Int) + 1 = ((k + 1 + 1 : Nat) : Int) := by omega
    have sw' := fun (d : Nat) (Q : PQ) => sw d Q
    rcases b8 with ⟨z1, z2⟩ | ⟨z1, x, z2, z3, z4⟩
    · subst z1
      refine ⟨h1, W1, O1, b1, b2, b3, b4, fun x hx => ?_, b6, fun d Q => ?_⟩
      · rcases b5 x hx with ⟨y1, y2⟩ | ⟨v, y1, y2, y3⟩
        · exact Or.inl ⟨y1, fun m => bf_end hcl z2 m x hx (survB_le (by omega) y2)⟩
        · have := valB_lt hK (hM x hx) y2
          exact Or.inr ⟨v, y1, y2, by omega⟩
      · simp (disch := omega) only [e_3_140, e_3_142, e_3_144, e_3_147, e_3_149, e_3_152, e_3_153, e_3_154, e_3_156, e_3_159, e_3_161, e_3_164, e_3_167, h59, sw', true_and, beO_c, beO_g0, beO_k0, beO_g1, beO_k1, beO_s1, beO_g2, beO_k2, beO_s2, beO_g3, beO_k3, beO_s3, beO_g4, beO_k4, beO_s4, dkO_c, dkO_g0, dkO_k0, dkO_s0, dkO_g1, dkO_k1, dkO_s1, dkO_g2, dkO_k2, dkO_s2, hoO_c, hoO_g0, hoO_k0, hoO_s0, hoO_g1, hoO_k1, hoO_s1, hoO_g2, hoO_k2, hoO_s2, hoO_g3, hoO_k3, hoO_g4, hoO_k4, hoO_g5, hoO_k5, hoO_g6, hoO_k6, hoO_g7, hoO_k7, hoO_g8, hoO_k8, hoO_g9, hoO_k9, hoO_s9, iup_s, iup_n, hp_up1, hp_upn, ne_eq, not_false_eq_true, sh_0, sh_1, sh_2, sh_3, sh_4, sh_5, sh_8, sh_15, sh_16, sh_24, Int.reducePow, Int.cast_ofNat_Int, w_of, wl_of, ltT, ltF, leT, leF, eqT, eqF, okF_0, okF_s, gF_0, gF_s, consC_o, sF_0, sF_s, clsO_o, inA_i, ldA_i, stA_i, inJ_l, ldJ_l, stJ_l, inR_r, ldR_r, stR_r, tgR_r, lenA_i, lenA_l, lenA_r, lenA_ex, nl_i, nl_o, nl_l, nl_n, wd_n, wd_i, wd_l, wd_o, fit_i, fit_l, fit_o, K_v, K_n, true_and, and_true, Nat.reduceAdd, Nat.reduceLeDiff, Nat.reduceEqDiff, Nat.reduceMul, Nat.reduceLT, reduceIte, true_or, or_true, cmp_lt, cmp_gt, cmp_eq, wb_0, b_01, cmp_lt', cmp_gt', cmp_eq', b_0, b_1, wb_1, Int.reduceSub, Int.reduceToNat, List.getD_cons_succ, List.getD_cons_zero, Int.reduceLE, Int.reduceLT, Int.reduceEq, Int.reduceNeg, Int.reduceAdd, Int.reduceMul, and_self, em_b, ne_eq, not_false_eq_true, not_true_eq_false]
        try rfl
    · subst z1
      obtain ⟨h', W', O', c1, c2, c3, c4, c5, c6, c7⟩ := ih (k + 1) h1 W1 O1 (by omega) ⟨by rw [b1.1]; exact hF.1, hF.2⟩ b2 e34 e59 b3 el b4 b5 b6 b7 (Or.inr ⟨x, z2, by rw [show k + 1 - 1 = k by omega]; exact z3, z4⟩)
      refine ⟨h', W', O', chx_t b1 c1, c2, c3, c4, c5, c6, fun d Q => ?_⟩
      rw [← c7 d Q]
      rw [e_3_140]
      simp (disch := omega) only [e_3_142, e_3_144, e_3_147, e_3_149, e_3_152, e_3_153, e_3_154, e_3_156, e_3_159, e_3_161, e_3_164, h59, sw', ek, true_and, beO_c, beO_g0, beO_k0, beO_g1, beO_k1, beO_s1, beO_g2, beO_k2, beO_s2, beO_g3, beO_k3, beO_s3, beO_g4, beO_k4, beO_s4, dkO_c, dkO_g0, dkO_k0, dkO_s0, dkO_g1, dkO_k1, dkO_s1, dkO_g2, dkO_k2, dkO_s2, hoO_c, hoO_g0, hoO_k0, hoO_s0, hoO_g1, hoO_k1, hoO_s1, hoO_g2, hoO_k2, hoO_s2, hoO_g3, hoO_k3, hoO_g4, hoO_k4, hoO_g5, hoO_k5, hoO_g6, hoO_k6, hoO_g7, hoO_k7, hoO_g8, hoO_k8, hoO_g9, hoO_k9, hoO_s9, iup_s, iup_n, hp_up1, hp_upn, ne_eq, not_false_eq_true, sh_0, sh_1, sh_2, sh_3, sh_4, sh_5, sh_8, sh_15, sh_16, sh_24, Int.reducePow, Int.cast_ofNat_Int, w_of, wl_of, ltT, ltF, leT, leF, eqT, eqF, okF_0, okF_s, gF_0, gF_s, consC_o, sF_0, sF_s, clsO_o, inA_i, ldA_i, stA_i, inJ_l, ldJ_l, stJ_l, inR_r, ldR_r, stR_r, tgR_r, lenA_i, lenA_l, lenA_r, lenA_ex, nl_i, nl_o, nl_l, nl_n, wd_n, wd_i, wd_l, wd_o, fit_i, fit_l, fit_o, K_v, K_n, true_and, and_true, Nat.reduceAdd, Nat.reduceLeDiff, Nat.reduceEqDiff, Nat.reduceMul, Nat.reduceLT, reduceIte, true_or, or_true, cmp_lt, cmp_gt, cmp_eq, wb_0, b_01, cmp_lt', cmp_gt', cmp_eq', b_0, b_1, wb_1, Int.reduceSub, Int.reduceToNat, List.getD_cons_succ, List.getD_cons_zero, Int.reduceLE, Int.reduceLT, Int.reduceEq, Int.reduceNeg, Int.reduceAdd, Int.reduceMul, and_self, em_b, ne_eq, not_false_eq_true, not_true_eq_false]
      try rfl
/-- those met so far -/
def mtI (c : KC) (W : Int → Int) (M : List ST) : Prop := (∀ x, okS c x → (x ∈ M ∧ W (encC c x) = 2147483647) ∨ (¬ x ∈ M ∧ W (encC c x) = 0)) ∧ (∀ x, x ∈ M → okS c x) ∧ (M.map (encC c)).Nodup
theorem mt_len {c : KC} {W : Int → Int} {M : List ST} (hK : okK c) (h : mtI c W M) : M.length ≤ szC c := by
  have := nodup_le (n := szC c) h.2.2 (fun x hx => by
    obtain ⟨y, y1, y2⟩ := List.mem_map.mp hx
    rw [← y2]; exact encC_lt hK (h.2.1 y y1))
  rwa [List.length_map] at this
theorem mt_new {c : KC} {W : Int → Int} {M : List ST} {y : ST} (hK : okK c) (h : mtI c W M) (hy : okS c y) (h0 : W (encC c y) = 0) : mtI c (fset W (encC c y : Nat) 2147483647) (M ++ [y]) := by
  obtain ⟨h1, h2, h3⟩ := h
  have hny : ¬ y ∈ M := fun z => by
    rcases h1 y hy with ⟨-, w⟩ | ⟨w, -⟩
    · omega
    · exact w z
  refine ⟨fun x hx => ?_, fun x hx => ?_, ?_⟩
  · by_cases e : (encC c x : Int) = (encC c y : Nat)
    · have ex : x = y := encC_inj hK hx hy (by omega)
      subst ex
      exact Or.inl ⟨by simp, fs_same⟩
    · rw [fs_ne e]
      have hne : x ≠ y := fun z => e (by rw [z])
      rcases h1 x hx with ⟨w1, w2⟩ | ⟨w1, w2⟩
      · exact Or.inl ⟨List.mem_append.mpr (Or.inl w1), w2⟩
      · refine Or.inr ⟨fun z => ?_, w2⟩
        rcases List.mem_append.mp z with z | z
        · exact w1 z
        · exact hne (List.mem_singleton.mp z)
  · rcases List.mem_append.mp hx with z | z
    · exact h2 x z
    · rw [List.mem_singleton.mp z]; exact hy
  · rw [List.map_append, List.nodup_append]
    refine ⟨h3, by simp, fun a ha b hb => ?_⟩
    obtain ⟨x, x1, x2⟩ := List.mem_map.mp ha
    simp at hb
    rw [← x2, hb]
    exact fun z => hny (by rw [← encC_inj hK (h2 x x1) hy z]; exact x1)
def MtS (c : KC) (h : PH) (ca sky dl dx wA n nd : Nat) (pm : PV) (M : List ST) : Prop := ∃ (i : Nat → Int) (W fl : Int → Int), hp h 34 = dkO (vr dl) (vr dx) pm ∧ hp h 59 = beO i (vr ca) (vr wA) ∧ i 4 = (M.length : Int) ∧ i 2 = (sky : Int) ∧ hp h wA = aI 0 n W ∧ hp h dl = aI 0 nd fl ∧ pathA c M fl ∧ mtI c W M
theorem Be_meet {ow : Nat → Nat} {h : PH} {c : KC} {ca sky dl dx wA n nd : Nat} {pm : PV} {M : List ST} {y : ST} (hK : okK c) (hF : owF ow h) (hn : szC c ≤ n) (hn1 : n ≤ 24000) (hn2 : szC c ≤ nd) (hn3 : nd ≤ 24000) (ow6 : ow wA = 6) (ol : ow dl = 2) (q1 : 59 < wA) (q3 : 34 < dl) (hS : MtS c h ca sky dl dx wA n nd pm M) (hy : okS c y) :
    ∃ (h' : PH) (E : List ST), chs [59, wA, dl] h h' ∧ MtS c h' ca sky dl dx wA n nd pm (M ++ E) ∧ y ∈ M ++ E ∧ ∀ d Q, WP d 4 0 [some (vr 59), some (vi (encC c y))] [] h Q = Q none h' := by
  have h24 := szC_le hK
  have hyl := encC_lt hK hy
  have hS' := hS
  obtain ⟨i, W, fl, s1, s2, s3, s4, s5, s6, s7, s8⟩ := hS
  have t59 : ow 59 = 6 := hF.2 59 (by omega)
  rcases s8.1 y hy with ⟨w1, w2⟩ | ⟨w1, w2⟩
  · refine ⟨h, [], chs_r, by rw [List.append_nil]; exact hS', by rw [List.append_nil]; exact w1, fun d Q => ?_⟩
    simp (disch := omega) only [e_4_0, e_4_1, e_4_4, e_4_5, e_4_6, e_4_9, e_4_10, e_4_13, e_4_14, e_4_17, e_4_20, e_4_21, e_4_24, e_4_25, e_4_28, e_4_29, e_4_31, e_4_32, e_4_33, e_4_36, e_4_39, e_4_40, e_4_43, e_4_44, e_4_45, e_4_46i, e_4_46a, e_4_47, e_4_50, e_4_51, e_4_52, e_4_55, s2, s5, w2, true_and, beO_c, beO_g0, beO_k0, beO_g1, beO_k1, beO_s1, beO_g2, beO_k2, beO_s2, beO_g3, beO_k3, beO_s3, beO_g4, beO_k4, beO_s4, dkO_c, dkO_g0, dkO_k0, dkO_s0, dkO_g1, dkO_k1, dkO_s1, dkO_g2, dkO_k2, dkO_s2, hoO_c, hoO_g0, hoO_k0, hoO_s0, hoO_g1, hoO_k1, hoO_s1, hoO_g2, hoO_k2, hoO_s2, hoO_g3, hoO_k3, hoO_g4, hoO_k4, hoO_g5, hoO_k5, hoO_g6, hoO_k6, hoO_g7, hoO_k7, hoO_g8, hoO_k8, hoO_g9, hoO_k9, hoO_s9, iup_s, iup_n, hp_up1, hp_upn, ne_eq, not_false_eq_true, sh_0, sh_1, sh_2, sh_3, sh_4, sh_5, sh_8, sh_15, sh_16, sh_24, Int.reducePow, Int.cast_ofNat_Int, w_of, wl_of, ltT, ltF, leT, leF, eqT, eqF, okF_0, okF_s, gF_0, gF_s, consC_o, sF_0, sF_s, clsO_o, inA_i, ldA_i, stA_i, inJ_l, ldJ_l, stJ_l, inR_r, ldR_r, stR_r, tgR_r, lenA_i, lenA_l, lenA_r, lenA_ex, nl_i, nl_o, nl_l, nl_n, wd_n, wd_i, wd_l, wd_o, fit_i, fit_l, fit_o, K_v, K_n, true_and, and_true, Nat.reduceAdd, Nat.reduceLeDiff, Nat.reduceEqDiff, Nat.reduceMul, Nat.reduceLT, reduceIte, true_or, or_true, cmp_lt, cmp_gt, cmp_eq, wb_0, b_01, cmp_lt', cmp_gt', cmp_eq', b_0, b_1, wb_1, Int.reduceSub, Int.reduceToNat, List.getD_cons_succ, List.getD_cons_zero, Int.reduceLE, Int.reduceLT, Int.reduceEq, Int.reduceNeg, Int.reduceAdd, Int.reduceMul, and_self, em_b, ne_eq, not_false_eq_true, not_true_eq_false]
    try rfl
  · have hm := mt_new hK s8 hy w2
    have hl := mt_len hK hm
    rw [List.length_append] at hl
    simp only [List.length_singleton] at hl
    have l59 : dl ≠ 59 := fun z => by rw [z, t59] at ol; omega
    have lw : dl ≠ wA := fun z => by rw [z, ow6] at ol; omega
    have hch : chs [59, wA, dl] h (hup (hup (hup h wA (aI 0 n (fset W (encC c y : Nat) 2147483647))) dl (aI 0 nd (fset fl (M.length : Nat) (encC c y)))) 59 (beO (iup i 4 ((M.length : Int) + 1)) (vr ca) (vr wA))) := chs_t (chs_t (chs_up (by simp)) (chs_up (by simp))) (chs_up (by simp))
    refine ⟨_, [y], hch, ⟨iup i 4 ((M.length : Int) + 1), _, _, by rw [hch.2.2 34 (by simp; omega)]; exact s1, hp_up1, by rw [iup_s, List.length_append]; rfl, by rw [iup_n (by omega)]; exact s4, by rw [hp_upn (by omega), hp_upn (fun z => lw z.symm), hp_up1], by rw [hp_upn l59, hp_up1], path_push s7, hm⟩, by simp, fun d Q => ?_⟩
    have w10 : 10 ≤ wA := by omega
    have l10 : 10 ≤ dl := by omega
    have n59 : 59 ≠ dl := fun z => l59 z.symm
    simp (disch := omega) only [e_4_0, e_4_1, e_4_4, e_4_5, e_4_6, e_4_9, e_4_10, e_4_13, e_4_14, e_4_17, e_4_20, e_4_21, e_4_24, e_4_25, e_4_28, e_4_29, e_4_31, e_4_32, e_4_33, e_4_36, e_4_39, e_4_40, e_4_43, e_4_44, e_4_45, e_4_46i, e_4_46a, e_4_47, e_4_50, e_4_51, e_4_52, e_4_55, s1, s2, s3, s5, s6, w2, w10, l10, n59, true_and, beO_c, beO_g0, beO_k0, beO_g1, beO_k1, beO_s1, beO_g2, beO_k2, beO_s2, beO_g3, beO_k3, beO_s3, beO_g4, beO_k4, beO_s4, dkO_c, dkO_g0, dkO_k0, dkO_s0, dkO_g1, dkO_k1, dkO_s1, dkO_g2, dkO_k2, dkO_s2, hoO_c, hoO_g0, hoO_k0, hoO_s0, hoO_g1, hoO_k1, hoO_s1, hoO_g2, hoO_k2, hoO_s2, hoO_g3, hoO_k3, hoO_g4, hoO_k4, hoO_g5, hoO_k5, hoO_g6, hoO_k6, hoO_g7, hoO_k7, hoO_g8, hoO_k8, hoO_g9, hoO_k9, hoO_s9, iup_s, iup_n, hp_up1, hp_upn, ne_eq, not_false_eq_true, sh_0, sh_1, sh_2, sh_3, sh_4, sh_5, sh_8, sh_15, sh_16, sh_24, Int.reducePow, Int.cast_ofNat_Int, w_of, wl_of, ltT, ltF, leT, leF, eqT, eqF, okF_0, okF_s, gF_0, gF_s, consC_o, sF_0, sF_s, clsO_o, inA_i, ldA_i, stA_i, inJ_l, ldJ_l, stJ_l, inR_r, ldR_r, stR_r, tgR_r, lenA_i, lenA_l, lenA_r, lenA_ex, nl_i, nl_o, nl_l, nl_n, wd_n, wd_i, wd_l, wd_o, fit_i, fit_l, fit_o, K_v, K_n, true_and, and_true, Nat.reduceAdd, Nat.reduceLeDiff, Nat.reduceEqDiff, Nat.reduceMul, Nat.reduceLT, reduceIte, true_or, or_true, cmp_lt, cmp_gt, cmp_eq, wb_0, b_01, cmp_lt', cmp_gt', cmp_eq', b_0, b_1, wb_1, Int.reduceSub, Int.reduceToNat, List.getD_cons_succ, List.getD_cons_zero, Int.reduceLE, Int.reduceLT, Int.reduceEq, Int.reduceNeg, Int.reduceAdd, Int.reduceMul, and_self, em_b, ne_eq, not_false_eq_true, not_true_eq_false]
    try rfl
