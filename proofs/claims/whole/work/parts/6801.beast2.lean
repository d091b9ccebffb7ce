/-! THE CLASS: the Beast, a sweep -/
def bvI (c : KC) (sky : Nat) (W : Int → Int) (n : Nat) (x : ST) : Prop := (W (encC c x) = 2147483647 ∧ survB c sky n x) ∨ ∃ v : Nat, W (encC c x) = ((v + 1 : Nat) : Int) ∧ valB c sky x v ∧ v < n
theorem bv_ge {c : KC} {sky : Nat} {W : Int → Int} {k : Nat} {x : ST} (hk : k < 1000000) (h : bvI c sky W (k + 1) x ∨ bvI c sky W k x) : ((k + 1 : Nat) : Int) ≤ W (encC c x) ↔ survB c sky k x := by
  rcases h with (⟨h1, h2⟩ | ⟨v, h1, h2, h3⟩) | (⟨h1, h2⟩ | ⟨v, h1, h2, h3⟩)
  · exact ⟨fun _ => survB_le (by omega) h2, fun _ => by rw [h1]; omega⟩
  · constructor
    · intro z
      exact survB_le (n := v) (by omega) h2.1
    · intro z
      by_cases q : v = k
      · omega
      · exact absurd (survB_le (by omega) z) h2.2
  · exact ⟨fun _ => h2, fun _ => by rw [h1]; omega⟩
  · constructor
    · intro z
      omega
    · intro z
      exact absurd (survB_le (by omega) z) h2.2
/-- a set of stands that holds what can come of them against the beast -/
def clsB (c : KC) (sky : Nat) (M : List ST) : Prop := ∀ x, x ∈ M → ∀ y, y ∈ nx c sky x → 2 ≤ bearS c y.2 → y.2 ∈ M ∧ ∀ p, p < kN c → weakS y.2 p ∈ M
theorem hld_sv {c : KC} {sky : Nat} {W : Int → Int} {k : Nat} {M : List ST} {x : ST} {y : Nat × ST} (hk : k < 1000000) (hM : clsB c sky M) (hx : x ∈ M) (hy : y ∈ nx c sky x) (hI : ∀ z, z ∈ M → bvI c sky W (k + 1) z ∨ bvI c sky W k z) : hldP c W y.2 ((k + 1 : Nat) : Int) ↔ (2 ≤ bearS c y.2 ∧ survB c sky k y.2 ∧ ∀ p, p < kN c → survB c sky k (weakS y.2 p)) := by
  constructor
  · rintro ⟨h1, h2, h3⟩
    obtain ⟨m1, m2⟩ := hM x hx y hy h1
    exact ⟨h1, (bv_ge hk (hI _ m1)).mp h2, fun p hp => (bv_ge hk (hI _ (m2 p hp))).mp (h3 p hp)⟩
  · rintro ⟨h1, h2, h3⟩
    obtain ⟨m1, m2⟩ := hM x hx y hy h1
    exact ⟨h1, (bv_ge hk (hI _ m1)).mpr h2, fun p hp => (bv_ge hk (hI _ (m2 p hp))).mpr (h3 p hp)⟩
theorem bv_b {c : KC} {sky : Nat} {W : Int → Int} {n : Nat} {x : ST} (hn : n < 1000000) (h : bvI c sky W n x) : 0 ≤ W (encC c x) ∧ W (encC c x) ≤ 2147483647 := by
  rcases h with ⟨h1, h2⟩ | ⟨v, h1, h2, h3⟩ <;> omega
def witO (c : KC) (sky : Nat) (M : List ST) (O : Int → Int) : Prop := ∀ x, x ∈ M → O (encC c x) = -1 ∨ ∃ y, y ∈ nx c sky x ∧ O (encC c x) = (encC c y.2 : Int)
theorem Be_sLp {ow : Nat → Nat} {ca : Nat} {c : KC} {sky e n nd wA dl dx k : Nat} {pm : PV} {i : Nat → Int} {fl : Int → Int} {M : List ST} (hO : okC c) (hn : szC c ≤ n) (hn1 : n ≤ 24000) (hn2 : szC c ≤ nd) (hn3 : nd ≤ 24000) (hk : k < 100000) (ow6 : ow wA = 6) (ox : ow dx = 2) (ol : ow dl = 2) (q1 : 59 < wA) (q2 : 34 < dx) (q3 : 34 < dl) (q4 : dl ≠ dx) (hM : ∀ x, x ∈ M → okS c x) (hMn : (M.map (encC c)).Nodup) (hMl : M.length ≤ szC c) (hP : pathA c M fl) (hcl : clsB c sky M) (hi : i 4 = (M.length : Int)) :
    ∀ (r j : Nat) (h : PH) (W O : Int → Int) (ch : Int) (o5 o6 : Option PV), j + r = M.length → owF ow h → HoP ow h ca c sky e → hp h 34 = dkO (vr dl) (vr dx) pm → hp h 59 = beO i (vr ca) (vr wA) → hp h wA = aI 0 n W → hp h dl = aI 0 nd fl → hp h dx = aI 0 nd O → (∀ (q : Nat) x, q < j → M[q]? = some x → bvI c sky W (k + 1) x) → (∀ (q : Nat) x, j ≤ q → M[q]? = some x → bvI c sky W k x) → (∀ x, okS c x → ¬ x ∈ M → W (encC c x) = 0) → witO c sky M O → ((ch = 0 ∧ ∀ (q : Nat) x, q < j → M[q]? = some x → survB c sky k x → survB c sky (k + 1) x) ∨ (ch = 1 ∧ ∃ x, x ∈ M ∧ survB c sky k x ∧ ¬ survB c sky (k + 1) x)) →
    ∃ (h' : PH) (W' O' : Int → Int) (ch' : Int), chx ow [wA, dx] h h' ∧ HoP ow h' ca c sky e ∧ hp h' wA = aI 0 n W' ∧ hp h' dx = aI 0 nd O' ∧ (∀ x, x ∈ M → bvI c sky W' (k + 1) x) ∧ (∀ x, okS c x → ¬ x ∈ M → W' (encC c x) = 0) ∧ witO c sky M O' ∧ ((ch' = 0 ∧ ∀ x, x ∈ M → survB c sky k x → survB c sky (k + 1) x) ∨ (ch' = 1 ∧ ∃ x, x ∈ M ∧ survB c sky k x ∧ ¬ survB c sky (k + 1) x)) ∧ ∀ d Q, WP (d + 10) 7 5 [some (vr 59), some (vr 27), some (vi ((k + 1 : Nat) : Int)), some (vi ch), some (vi j), o5, o6] [] h Q = Q (some (vi ch')) h' := by
  have hK := hO.1
  have h24 := szC_le hK
  intro r
  induction r with
  | zero =>
    intro j h W O ch o5 o6 hj hF hH h34 h59 hw hfl hdx hI1 hI2 hz hwit hch
    have ej : j = M.length := by omega
    subst ej
    refine ⟨h, W, O, ch, chx_r, hH, hw, hdx, fun x hx => ?_, hz, hwit, ?_, fun d Q => ?_⟩
    · obtain ⟨q, hq⟩ := List.getElem?_of_mem hx
      exact hI1 q x (List.getElem?_eq_some_iff.mp hq).1 hq
    · rcases hch with ⟨z1, z2⟩ | z
      · refine Or.inl ⟨z1, fun x hx => ?_⟩
        obtain ⟨q, hq⟩ := List.getElem?_of_mem hx
        exact z2 q x (List.getElem?_eq_some_iff.mp hq).1 hq
      · exact Or.inr z
    · rcases hch with ⟨z1, z2⟩ | ⟨z1, z2⟩
      · subst z1
        rw [e_7_5]
        simp (disch := omega) only [e_7_7, e_7_8, e_7_11, e_7_114, e_7_115, h59, hi, true_and, beO_c, beO_g0, beO_k0, beO_g1, beO_k1, beO_s1, beO_g2, beO_k2, beO_s2, beO_g3, beO_k3, beO_s3, beO_g4, beO_k4, beO_s4, dkO_c, dkO_g0, dkO_k0, dkO_s0, dkO_g1, dkO_k1, dkO_s1, dkO_g2, dkO_k2, dkO_s2, hoO_c, hoO_g0, hoO_k0, hoO_s0, hoO_g1, hoO_k1, hoO_s1, hoO_g2, hoO_k2, hoO_s2, hoO_g3, hoO_k3, hoO_g4, hoO_k4, hoO_g5, hoO_k5, hoO_g6, hoO_k6, hoO_g7, hoO_k7, hoO_g8, hoO_k8, hoO_g9, hoO_k9, hoO_s9, iup_s, iup_n, hp_up1, hp_upn, ne_eq, not_false_eq_true, sh_0, sh_1, sh_2, sh_3, sh_4, sh_5, sh_8, sh_15, sh_16, sh_24, Int.reducePow, Int.cast_ofNat_Int, w_of, wl_of, ltT, ltF, leT, leF, eqT, eqF, okF_0, okF_s, gF_0, gF_s, consC_o, sF_0, sF_s, clsO_o, inA_i, ldA_i, stA_i, inJ_l, ldJ_l, stJ_l, inR_r, ldR_r, stR_r, tgR_r, lenA_i, lenA_l, lenA_r, lenA_ex, nl_i, nl_o, nl_l, nl_n, wd_n, wd_i, wd_l, wd_o, fit_i, fit_l, fit_o, K_v, K_n, true_and, and_true, Nat.reduceAdd, Nat.reduceLeDiff, Nat.reduceEqDiff, Nat.reduceMul, Nat.reduceLT, reduceIte, true_or, or_true, cmp_lt, cmp_gt, cmp_eq, wb_0, b_01, cmp_lt', cmp_gt', cmp_eq', b_0, b_1, wb_1, Int.reduceSub, Int.reduceToNat, List.getD_cons_succ, List.getD_cons_zero, Int.reduceLE, Int.reduceLT, Int.reduceEq, Int.reduceNeg, Int.reduceAdd, Int.reduceMul, and_self, em_b, ne_eq, not_false_eq_true, not_true_eq_false]
        try rfl
      · subst z1
        rw [e_7_5]
        simp (disch := omega) only [e_7_7, e_7_8, e_7_11, e_7_114, e_7_115, h59, hi, true_and, beO_c, beO_g0, beO_k0, beO_g1, beO_k1, beO_s1, beO_g2, beO_k2, beO_s2, beO_g3, beO_k3, beO_s3, beO_g4, beO_k4, beO_s4, dkO_c, dkO_g0, dkO_k0, dkO_s0, dkO_g1, dkO_k1, dkO_s1, dkO_g2, dkO_k2, dkO_s2, hoO_c, hoO_g0, hoO_k0, hoO_s0, hoO_g1, hoO_k1, hoO_s1, hoO_g2, hoO_k2, hoO_s2, hoO_g3, hoO_k3, hoO_g4, hoO_k4, hoO_g5, hoO_k5, hoO_g6, hoO_k6, hoO_g7, hoO_k7, hoO_g8, hoO_k8, hoO_g9, hoO_k9, hoO_s9, iup_s, iup_n, hp_up1, hp_upn, ne_eq, not_false_eq_true, sh_0, sh_1, sh_2, sh_3, sh_4, sh_5, sh_8, sh_15, sh_16, sh_24, Int.reducePow, Int.cast_ofNat_Int, w_of, wl_of, ltT, ltF, leT, leF, eqT, eqF, okF_0, okF_s, gF_0, gF_s, consC_o, sF_0, sF_s, clsO_o, inA_i, ldA_i, stA_i, inJ_l, ldJ_l, stJ_l, inR_r, ldR_r, stR_r, tgR_r, lenA_i, lenA_l, lenA_r, lenA_ex, nl_i, nl_o, nl_l, nl_n, wd_n, wd_i, wd_l, wd_o, fit_i, fit_l, fit_o, K_v, K_n, true_and, and_true, Nat.reduceAdd, Nat.reduceLeDiff, Nat.reduceEqDiff, Nat.reduceMul, Nat.reduceLT, reduceIte, true_or, or_true, cmp_lt, cmp_gt, cmp_eq, wb_0, b_01, cmp_lt', cmp_gt', cmp_eq', b_0, b_1, wb_1, Int.reduceSub, Int.reduceToNat, List.getD_cons_succ, List.getD_cons_zero, Int.reduceLE, Int.reduceLT, Int.reduceEq, Int.reduceNeg, Int.reduceAdd, Int.reduceMul, and_self, em_b, ne_eq, not_false_eq_true, not_true_eq_false]
        try rfl
  | succ r ih =>
    intro j h W O ch o5 o6 hj hF hH h34 h59 hw hfl hdx hI1 hI2 hz hwit hch
    have hx : M[j]? = some M[j] := List.getElem?_eq_getElem (by omega)
    generalize M[j] = x at hx
    have hxm := List.mem_of_getElem? hx
    have hxo := hM x hxm
    have hxl := encC_lt hK hxo
    have hfx := hP j x hx
    have hbx := hI2 j x (Nat.le_refl _) hx
    have hall : ∀ z, z ∈ M → bvI c sky W (k + 1) z ∨ bvI c sky W k z := fun z hz => by
      obtain ⟨q, hq⟩ := List.getElem?_of_mem hz
      by_cases w : q < j
      · exact Or.inl (hI1 q z w hq)
      · exact Or.inr (hI2 q z (by omega) hq)
    have hWok : wOK c W := fun z hzo => by
      by_cases w : z ∈ M
      · rcases hall z w with y | y
        · exact bv_b (by omega) y
        · exact bv_b (by omega) y
      · rw [hz z hzo w]; omega
    have hne : ∀ (q : Nat) z, q ≠ j → M[q]? = some z → encC c z ≠ encC c x := fun q z hq hqz e => by
      have ez : z = x := encC_inj hK (hM z (List.mem_of_getElem? hqz)) hxo e
      subst ez
      have l1 := (List.getElem?_eq_some_iff.mp hqz)
      have l2 := (List.getElem?_eq_some_iff.mp hx)
      obtain ⟨l1a, l1b⟩ := l1
      obtain ⟨l2a, l2b⟩ := l2
      have hnd := hMn
      rw [List.nodup_iff_pairwise_ne, List.pairwise_iff_getElem] at hnd
      by_cases w : q < j
      · exact hnd q j (by rw [List.length_map]; exact l1a) (by rw [List.length_map]; exact l2a) w (by rw [List.getElem_map, List.getElem_map, l1b, l2b])
      · exact hnd j q (by rw [List.length_map]; exact l2a) (by rw [List.length_map]; exact l1a) (by omega) (by rw [List.getElem_map, List.getElem_map, l1b, l2b])
    have ej : (j : Int) + 1 = ((j + 1 : Nat) : Int) := by omega
    have hxb := hWok x hxo
    have t59 : ow 59 = 6 := hF.2 59 (by omega)
    have t34 := tg_34 hF
    obtain ⟨hKC⟩ : Nonempty (KCty ow h ca c) := by obtain ⟨_, _, _, _, _, _, _, _, _, _, a9⟩ := hH; exact ⟨a9⟩
    -- what holds when the stand's worth stays
    have same : ∀ W1 : Int → Int, (∀ z, okS c z → W1 (encC c z) = W (encC c z)) → bvI c sky W (k + 1) x → (∀ (q : Nat) z, q < j + 1 → M[q]? = some z → bvI c sky W (k + 1) z) := fun W1 _ hb q z hq hqz => by
      by_cases w : q = j
      · rw [w, hx] at hqz
        have ez : x = z := Option.some.inj hqz
        rw [← ez]; exact hb
      · exact hI1 q z (by omega) hqz
    have chs' : (survB c sky k x → survB c sky (k + 1) x) → ((ch = 0 ∧ ∀ (q : Nat) z, q < j + 1 → M[q]? = some z → survB c sky k z → survB c sky (k + 1) z) ∨ (ch = 1 ∧ ∃ x, x ∈ M ∧ survB c sky k x ∧ ¬ survB c sky (k + 1) x)) := fun hs => by
      rcases hch with ⟨z1, z2⟩ | z
      · refine Or.inl ⟨z1, fun q z hq hqz => ?_⟩
        by_cases w : q = j
        · rw [w, hx] at hqz
          have ez : x = z := Option.some.inj hqz
          rw [← ez]; exact hs
        · exact z2 q z (by omega) hqz
      · exact Or.inr z
    by_cases he : W (encC c x) = 2147483647
    · have hsk : survB c sky k x := by
        rcases hbx with ⟨z1, z2⟩ | ⟨v, z1, z2, z3⟩
        · exact z2
        · omega
      have hu : 0 ≤ ((k + 1 : Nat) : Int) ∧ ((k + 1 : Nat) : Int) ≤ 2147483647 := by omega
      -- does the witness hold
      by_cases hwt : ∃ y, y ∈ nx c sky x ∧ O (encC c x) = (encC c y.2 : Int) ∧ hldP c W y.2 ((k + 1 : Nat) : Int)
      · obtain ⟨y, y1, y2, y3⟩ := hwt
        have hsv := (hld_sv (by omega) hcl hxm y1 hall).mp y3
        have hs1 : survB c sky (k + 1) x := survB_s.mpr ⟨y, y1, hsv⟩
        obtain ⟨h', W', O', ch', b1, b2, b3, b4, b5, b6, b7, b8, b9⟩ := ih (j + 1) h W O ch (some (vi (encC c x))) (some (vi (encC c y.2))) (by omega) hF hH h34 h59 hw hfl hdx (same W (fun _ _ => rfl) (Or.inl ⟨he, hs1⟩)) (fun q z hq hqz => hI2 q z (by omega) hqz) hz hwit (chs' (fun _ => hs1))
        refine ⟨h', W', O', ch', b1, b2, b3, b4, b5, b6, b7, b8, fun d Q => ?_⟩
        rw [← b9 d Q]
        have hyo := nx_ok hxo y1
        have hyl := encC_lt hK hyo
        have hh := fun (d : Nat) (Q : PQ) => Be_holds hK hKC.1 hyo h59 hw hn hn1 hWok hu d Q
        simp only [prB_T y3, if_true] at hh
        rw [e_7_5]
        simp (disch := omega) only [e_7_7, e_7_8, e_7_11, e_7_14, e_7_15, e_7_18, e_7_21, e_7_23, e_7_24, e_7_26, e_7_27, e_7_30, e_7_33, e_7_35, e_7_36, e_7_38, e_7_39, e_7_42, e_7_44, e_7_45, e_7_47, e_7_50, e_7_52, e_7_53, e_7_56, e_7_57, e_7_59, e_7_60, e_7_63, e_7_108, e_7_111, h34, h59, hi, hw, hfl, hdx, hfx, he, y2, hh, ej, true_and, beO_c, beO_g0, beO_k0, beO_g1, beO_k1, beO_s1, beO_g2, beO_k2, beO_s2, beO_g3, beO_k3, beO_s3, beO_g4, beO_k4, beO_s4, dkO_c, dkO_g0, dkO_k0, dkO_s0, dkO_g1, dkO_k1, dkO_s1, dkO_g2, dkO_k2, dkO_s2, hoO_c, hoO_g0, hoO_k0, hoO_s0, hoO_g1, hoO_k1, hoO_s1, hoO_g2, hoO_k2, hoO_s2, hoO_g3, hoO_k3, hoO_g4, hoO_k4, hoO_g5, hoO_k5, hoO_g6, hoO_k6, hoO_g7, hoO_k7, hoO_g8, hoO_k8, hoO_g9, hoO_k9, hoO_s9, iup_s, iup_n, hp_up1, hp_upn, ne_eq, not_false_eq_true, sh_0, sh_1, sh_2, sh_3, sh_4, sh_5, sh_8, sh_15, sh_16, sh_24, Int.reducePow, Int.cast_ofNat_Int, w_of, wl_of, ltT, ltF, leT, leF, eqT, eqF, okF_0, okF_s, gF_0, gF_s, consC_o, sF_0, sF_s, clsO_o, inA_i, ldA_i, stA_i, inJ_l, ldJ_l, stJ_l, inR_r, ldR_r, stR_r, tgR_r, lenA_i, lenA_l, lenA_r, lenA_ex, nl_i, nl_o, nl_l, nl_n, wd_n, wd_i, wd_l, wd_o, fit_i, fit_l, fit_o, K_v, K_n, true_and, and_true, Nat.reduceAdd, Nat.reduceLeDiff, Nat.reduceEqDiff, Nat.reduceMul, Nat.reduceLT, reduceIte, true_or, or_true, cmp_lt, cmp_gt, cmp_eq, wb_0, b_01, cmp_lt', cmp_gt', cmp_eq', b_0, b_1, wb_1, Int.reduceSub, Int.reduceToNat, List.getD_cons_succ, List.getD_cons_zero, Int.reduceLE, Int.reduceLT, Int.reduceEq, Int.reduceNeg, Int.reduceAdd, Int.reduceMul, and_self, em_b, ne_eq, not_false_eq_true, not_true_eq_false]
        try rfl
      · obtain ⟨g, w, g1, g2, g3, g4⟩ := Be_new hF hH hxo h59 hw ow6 hn hn1 hWok hu
        have hF1 := chg_F g1 hF
        have xw : dx ≠ wA := fun z => by rw [z, ow6] at ox; omega
        have lw : dl ≠ wA := fun z => by rw [z, ow6] at ol; omega
        have x59 : dx ≠ 59 := fun z => by rw [z, t59] at ox; omega
        have l59 : dl ≠ 59 := fun z => by rw [z, t59] at ol; omega
        have e34 : hp g 34 = dkO (vr dl) (vr dx) pm := by rw [chg_at g1 t34 (by decide)]; exact h34
        have e59 : hp g 59 = beO i (vr ca) (vr wA) := by rw [chg_at g1 t59 (by decide)]; exact h59
        have ew : hp g wA = aI 0 n W := by rw [chg_at g1 ow6 (by decide)]; exact hw
        have el : hp g dl = aI 0 nd fl := by rw [chg_at g1 ol (by decide)]; exact hfl
        have ex : hp g dx = aI 0 nd O := by rw [chg_at g1 ox (by decide)]; exact hdx
        have c2 : chg ow [2] g (hup g dx (aI 0 nd (fset O (encC c x : Nat) w))) := chg_up ox (by decide)
        have hF2 := chg_F c2 hF1
        have hH2 := HoP_c hF1 c2 (by decide) (by decide) g2
        have dx10 : 10 ≤ dx := by omega
        have w10 : 10 ≤ wA := by omega
        have g4' := fun (d : Nat) (Q : PQ) => g4 d Q
        have hwb : -1 ≤ w ∧ w < 24000 := by
          rcases g3 with ⟨z1, -⟩ | ⟨y, y1, y2, -⟩
          · omega
          · have := encC_lt hK (nx_ok hxo y1); omega
        have hwit2 : witO c sky M (fset O (encC c x : Nat) w) := fun z hzm => by
          by_cases q : (encC c z : Int) = (encC c x : Nat)
          · have ez : z = x := encC_inj hK (hM z hzm) hxo (by omega)
            subst ez
            rw [fs_same]
            rcases g3 with ⟨z1, -⟩ | ⟨y, y1, y2, -⟩
            · exact Or.inl z1
            · exact Or.inr ⟨y, y1, y2⟩
          · rw [fs_ne q]; exact hwit z hzm
        -- to pc 66 with the witness in hand
        have toN : ∀ d Q, WP (d + 10) 7 5 [some (vr 59), some (vr 27), some (vi ((k + 1 : Nat) : Int)), some (vi ch), some (vi j), o5, o6] [] h Q = WP (d + 10) 7 66 [some (vr 59), some (vr 27), some (vi ((k + 1 : Nat) : Int)), some (vi ch), some (vi j), some (vi (encC c x)), some (vi (O (encC c x)))] [] h Q := by
          intro d Q
          rcases hwit x hxm with z | ⟨y, y1, y2⟩
          · rw [e_7_5]
            simp (disch := omega) only [e_7_7, e_7_8, e_7_11, e_7_14, e_7_15, e_7_18, e_7_21, e_7_23, e_7_24, e_7_26, e_7_27, e_7_30, e_7_33, e_7_35, e_7_36, e_7_38, e_7_39, e_7_42, e_7_44, e_7_45, e_7_47, e_7_50, e_7_52, e_7_53, h34, h59, hi, hw, hfl, hdx, hfx, he, z, ej, true_and, beO_c, beO_g0, beO_k0, beO_g1, beO_k1, beO_s1, beO_g2, beO_k2, beO_s2, beO_g3, beO_k3, beO_s3, beO_g4, beO_k4, beO_s4, dkO_c, dkO_g0, dkO_k0, dkO_s0, dkO_g1, dkO_k1, dkO_s1, dkO_g2, dkO_k2, dkO_s2, hoO_c, hoO_g0, hoO_k0, hoO_s0, hoO_g1, hoO_k1, hoO_s1, hoO_g2, hoO_k2, hoO_s2, hoO_g3, hoO_k3, hoO_g4, hoO_k4, hoO_g5, hoO_k5, hoO_g6, hoO_k6, hoO_g7, hoO_k7, hoO_g8, hoO_k8, hoO_g9, hoO_k9, hoO_s9, iup_s, iup_n, hp_up1, hp_upn, ne_eq, not_false_eq_true, sh_0, sh_1, sh_2, sh_3, sh_4, sh_5, sh_8, sh_15, sh_16, sh_24, Int.reducePow, Int.cast_ofNat_Int, w_of, wl_of, ltT, ltF, leT, leF, eqT, eqF, okF_0, okF_s, gF_0, gF_s, consC_o, sF_0, sF_s, clsO_o, inA_i, ldA_i, stA_i, inJ_l, ldJ_l, stJ_l, inR_r, ldR_r, stR_r, tgR_r, lenA_i, lenA_l, lenA_r, lenA_ex, nl_i, nl_o, nl_l, nl_n, wd_n, wd_i, wd_l, wd_o, fit_i, fit_l, fit_o, K_v, K_n, true_and, and_true, Nat.reduceAdd, Nat.reduceLeDiff, Nat.reduceEqDiff, Nat.reduceMul, Nat.reduceLT, reduceIte, true_or, or_true, cmp_lt, cmp_gt, cmp_eq, wb_0, b_01, cmp_lt', cmp_gt', cmp_eq', b_0, b_1, wb_1, Int.reduceSub, Int.reduceToNat, List.getD_cons_succ, List.getD_cons_zero, Int.reduceLE, Int.reduceLT, Int.reduceEq, Int.reduceNeg, Int.reduceAdd, Int.reduceMul, and_self, em_b, ne_eq, not_false_eq_true, not_true_eq_false]
            try rfl
          · have hyo := nx_ok hxo y1
            have hyl := encC_lt hK hyo
            have hh := fun (d : Nat) (Q : PQ) => Be_holds hK hKC.1 hyo h59 hw hn hn1 hWok hu d Q
            simp only [prB_F (fun z => hwt ⟨y, y1, y2, z⟩), if_false, Bool.false_eq_true] at hh
            rw [e_7_5]
            simp (disch := omega) only [e_7_7, e_7_8, e_7_11, e_7_14, e_7_15, e_7_18, e_7_21, e_7_23, e_7_24, e_7_26, e_7_27, e_7_30, e_7_33, e_7_35, e_7_36, e_7_38, e_7_39, e_7_42, e_7_44, e_7_45, e_7_47, e_7_50, e_7_52, e_7_53, e_7_56, e_7_57, e_7_59, e_7_60, e_7_63, h34, h59, hi, hw, hfl, hdx, hfx, he, y2, hh, ej, true_and, beO_c, beO_g0, beO_k0, beO_g1, beO_k1, beO_s1, beO_g2, beO_k2, beO_s2, beO_g3, beO_k3, beO_s3, beO_g4, beO_k4, beO_s4, dkO_c, dkO_g0, dkO_k0, dkO_s0, dkO_g1, dkO_k1, dkO_s1, dkO_g2, dkO_k2, dkO_s2, hoO_c, hoO_g0, hoO_k0, hoO_s0, hoO_g1, hoO_k1, hoO_s1, hoO_g2, hoO_k2, hoO_s2, hoO_g3, hoO_k3, hoO_g4, hoO_k4, hoO_g5, hoO_k5, hoO_g6, hoO_k6, hoO_g7, hoO_k7, hoO_g8, hoO_k8, hoO_g9, hoO_k9, hoO_s9, iup_s, iup_n, hp_up1, hp_upn, ne_eq, not_false_eq_true, sh_0, sh_1, sh_2, sh_3, sh_4, sh_5, sh_8, sh_15, sh_16, sh_24, Int.reducePow, Int.cast_ofNat_Int, w_of, wl_of, ltT, ltF, leT, leF, eqT, eqF, okF_0, okF_s, gF_0, gF_s, consC_o, sF_0, sF_s, clsO_o, inA_i, ldA_i, stA_i, inJ_l, ldJ_l, stJ_l, inR_r, ldR_r, stR_r, tgR_r, lenA_i, lenA_l, lenA_r, lenA_ex, nl_i, nl_o, nl_l, nl_n, wd_n, wd_i, wd_l, wd_o, fit_i, fit_l, fit_o, K_v, K_n, true_and, and_true, Nat.reduceAdd, Nat.reduceLeDiff, Nat.reduceEqDiff, Nat.reduceMul, Nat.reduceLT, reduceIte, true_or, or_true, cmp_lt, cmp_gt, cmp_eq, wb_0, b_01, cmp_lt', cmp_gt', cmp_eq', b_0, b_1, wb_1, Int.reduceSub, Int.reduceToNat, List.getD_cons_succ, List.getD_cons_zero, Int.reduceLE, Int.reduceLT, Int.reduceEq, Int.reduceNeg, Int.reduceAdd, Int.reduceMul, and_self, em_b, ne_eq, not_false_eq_true, not_true_eq_false]
            try rfl
        rcases g3 with ⟨z1, z2⟩ | ⟨y, y1, y2, y3⟩
        · -- none: it doesn't last for k + 1 hours
          have hns : ¬ survB c sky (k + 1) x := by
            rintro ⟨y, y1, y2⟩
            exact z2 y y1 ((hld_sv (by omega) hcl hxm y1 hall).mpr y2)
          have c3 : chg ow [6] (hup g dx (aI 0 nd (fset O (encC c x : Nat) w))) (hup (hup g dx (aI 0 nd (fset O (encC c x : Nat) w))) wA (aI 0 n (fset W (encC c x : Nat) ((k + 1 : Nat) : Int)))) := chg_up ow6 (by decide)
          obtain ⟨h', W', O', ch', b1, b2, b3, b4, b5, b6, b7, b8, b9⟩ := ih (j + 1) _ (fset W (encC c x : Nat) ((k + 1 : Nat) : Int)) (fset O (encC c x : Nat) w) 1 (some (vi (encC c x))) (some (vi (O (encC c x)))) (by omega) (chg_F c3 hF2) (HoP_c hF2 c3 (by decide) (by decide) hH2) (by rw [hp_upn (by omega), hp_upn (by omega)]; exact e34) (by rw [hp_upn (by omega), hp_upn (fun z => x59 z.symm)]; exact e59) hp_up1 (by rw [hp_upn lw, hp_upn q4]; exact el) (by rw [hp_upn xw, hp_up1]) (fun q z hq hqz => by
            by_cases wq : q = j
            · rw [wq, hx] at hqz
              have ez : x = z := Option.some.inj hqz
              rw [← ez]
              exact Or.inr ⟨k, fs_same, ⟨hsk, hns⟩, by omega⟩
            · have := hI1 q z (by omega) hqz
              unfold bvI
              rw [fs_ne (fun w => hne q z wq hqz (by omega))]
              exact this) (fun q z hq hqz => by
              have := hI2 q z (by omega) hqz
              unfold bvI
              rw [fs_ne (fun w => hne q z (by omega) hqz (by omega))]
              exact this) (fun z hzo hzm => by
              rw [fs_ne (fun w => hzm (by rw [encC_inj hK hzo hxo (by omega)]; exact hxm))]
              exact hz z hzo hzm) hwit2 (Or.inr ⟨rfl, x, hxm, hsk, hns⟩)
          refine ⟨h', W', O', ch', chx_t (chx_t (chx_t (chx_c g1) (chx_up (by simp))) (chx_up (by simp))) b1, b2, b3, b4, b5, b6, b7, b8, fun d Q => ?_⟩
          rw [toN d Q, ← b9 d Q]
          have g4'' := fun (Q : PQ) => g4 d Q
          subst z1
          simp (disch := omega) only [e_7_66, e_7_67, e_7_70, e_7_73, e_7_75, e_7_76, e_7_77, e_7_79, e_7_80, e_7_83, e_7_84, e_7_85, e_7_88, e_7_91, e_7_93, e_7_94, e_7_95, e_7_98, e_7_99, e_7_102, e_7_104, e_7_105, e_7_106, e_7_107, e_7_108, e_7_111, h34, h59, hi, hw, hdx, g4'', e34, e59, ew, ex, dx10, w10, ej, true_and, fs_same, beO_c, beO_g0, beO_k0, beO_g1, beO_k1, beO_s1, beO_g2, beO_k2, beO_s2, beO_g3, beO_k3, beO_s3, beO_g4, beO_k4, beO_s4, dkO_c, dkO_g0, dkO_k0, dkO_s0, dkO_g1, dkO_k1, dkO_s1, dkO_g2, dkO_k2, dkO_s2, hoO_c, hoO_g0, hoO_k0, hoO_s0, hoO_g1, hoO_k1, hoO_s1, hoO_g2, hoO_k2, hoO_s2, hoO_g3, hoO_k3, hoO_g4, hoO_k4, hoO_g5, hoO_k5, hoO_g6, hoO_k6, hoO_g7, hoO_k7, hoO_g8, hoO_k8, hoO_g9, hoO_k9, hoO_s9, iup_s, iup_n, hp_up1, hp_upn, ne_eq, not_false_eq_true, sh_0, sh_1, sh_2, sh_3, sh_4, sh_5, sh_8, sh_15, sh_16, sh_24, Int.reducePow, Int.cast_ofNat_Int, w_of, wl_of, ltT, ltF, leT, leF, eqT, eqF, okF_0, okF_s, gF_0, gF_s, consC_o, sF_0, sF_s, clsO_o, inA_i, ldA_i, stA_i, inJ_l, ldJ_l, stJ_l, inR_r, ldR_r, stR_r, tgR_r, lenA_i, lenA_l, lenA_r, lenA_ex, nl_i, nl_o, nl_l, nl_n, wd_n, wd_i, wd_l, wd_o, fit_i, fit_l, fit_o, K_v, K_n, true_and, and_true, Nat.reduceAdd, Nat.reduceLeDiff, Nat.reduceEqDiff, Nat.reduceMul, Nat.reduceLT, reduceIte, true_or, or_true, cmp_lt, cmp_gt, cmp_eq, wb_0, b_01, cmp_lt', cmp_gt', cmp_eq', b_0, b_1, wb_1, Int.reduceSub, Int.reduceToNat, List.getD_cons_succ, List.getD_cons_zero, Int.reduceLE, Int.reduceLT, Int.reduceEq, Int.reduceNeg, Int.reduceAdd, Int.reduceMul, and_self, em_b, ne_eq, not_false_eq_true, not_true_eq_false]
          try rfl
        · have hsv := (hld_sv (by omega) hcl hxm y1 hall).mp y3
          have hs1 : survB c sky (k + 1) x := survB_s.mpr ⟨y, y1, hsv⟩
          have hyl := encC_lt hK (nx_ok hxo y1)
          obtain ⟨h', W', O', ch', b1, b2, b3, b4, b5, b6, b7, b8, b9⟩ := ih (j + 1) _ W (fset O (encC c x : Nat) w) ch (some (vi (encC c x))) (some (vi (O (encC c x)))) (by omega) hF2 hH2 (by rw [hp_upn (by omega)]; exact e34) (by rw [hp_upn (fun z => x59 z.symm)]; exact e59) (by rw [hp_upn (fun z => xw z.symm)]; exact ew) (by rw [hp_upn q4]; exact el) hp_up1 (same W (fun _ _ => rfl) (Or.inl ⟨he, hs1⟩)) (fun q z hq hqz => hI2 q z (by omega) hqz) hz hwit2 (chs' (fun _ => hs1))
          refine ⟨h', W', O', ch', chx_t (chx_t (chx_c g1) (chx_up (by simp))) b1, b2, b3, b4, b5, b6, b7, b8, fun d Q => ?_⟩
          rw [toN d Q, ← b9 d Q]
          have g4'' := fun (Q : PQ) => g4 d Q
          subst y2
          simp (disch := omega) only [e_7_66, e_7_67, e_7_70, e_7_73, e_7_75, e_7_76, e_7_77, e_7_79, e_7_80, e_7_83, e_7_84, e_7_85, e_7_88, e_7_91, e_7_93, e_7_94, e_7_95, e_7_108, e_7_111, h34, h59, hi, hw, hdx, g4'', e34, e59, ew, ex, dx10, w10, ej, true_and, fs_same, beO_c, beO_g0, beO_k0, beO_g1, beO_k1, beO_s1, beO_g2, beO_k2, beO_s2, beO_g3, beO_k3, beO_s3, beO_g4, beO_k4, beO_s4, dkO_c, dkO_g0, dkO_k0, dkO_s0, dkO_g1, dkO_k1, dkO_s1, dkO_g2, dkO_k2, dkO_s2, hoO_c, hoO_g0, hoO_k0, hoO_s0, hoO_g1, hoO_k1, hoO_s1, hoO_g2, hoO_k2, hoO_s2, hoO_g3, hoO_k3, hoO_g4, hoO_k4, hoO_g5, hoO_k5, hoO_g6, hoO_k6, hoO_g7, hoO_k7, hoO_g8, hoO_k8, hoO_g9, hoO_k9, hoO_s9, iup_s, iup_n, hp_up1, hp_upn, ne_eq, not_false_eq_true, sh_0, sh_1, sh_2, sh_3, sh_4, sh_5, sh_8, sh_15, sh_16, sh_24, Int.reducePow, Int.cast_ofNat_Int, w_of, wl_of, ltT, ltF, leT, leF, eqT, eqF, okF_0, okF_s, gF_0, gF_s, consC_o, sF_0, sF_s, clsO_o, inA_i, ldA_i, stA_i, inJ_l, ldJ_l, stJ_l, inR_r, ldR_r, stR_r, tgR_r, lenA_i, lenA_l, lenA_r, lenA_ex, nl_i, nl_o, nl_l, nl_n, wd_n, wd_i, wd_l, wd_o, fit_i, fit_l, fit_o, K_v, K_n, true_and, and_true, Nat.reduceAdd, Nat.reduceLeDiff, Nat.reduceEqDiff, Nat.reduceMul, Nat.reduceLT, reduceIte, true_or, or_true, cmp_lt, cmp_gt, cmp_eq, wb_0, b_01, cmp_lt', cmp_gt', cmp_eq', b_0, b_1, wb_1, Int.reduceSub, Int.reduceToNat, List.getD_cons_succ, List.getD_cons_zero, Int.reduceLE, Int.reduceLT, Int.reduceEq, Int.reduceNeg, Int.reduceAdd, Int.reduceMul, and_self, em_b, ne_eq, not_false_eq_true, not_true_eq_false]
          try rfl
    · have hns : ¬ survB c sky k x := by
        rcases hbx with ⟨z1, z2⟩ | ⟨v, z1, z2, z3⟩
        · exact absurd z1 he
        · exact fun z => z2.2 (survB_le (by omega) z)
      have hb1 : bvI c sky W (k + 1) x := by
        rcases hbx with ⟨z1, z2⟩ | ⟨v, z1, z2, z3⟩
        · exact absurd z1 he
        · exact Or.inr ⟨v, z1, z2, by omega⟩
      have hOb : -1 ≤ O (encC c x) ∧ O (encC c x) < 24000 := by
        rcases hwit x hxm with z | ⟨y, y1, y2⟩
        · omega
        · have := encC_lt hK (nx_ok hxo y1); omega
      obtain ⟨h', W', O', ch', b1, b2, b3, b4, b5, b6, b7, b8, b9⟩ := ih (j + 1) h W O ch (some (vi (encC c x))) (some (vi (O (encC c x)))) (by omega) hF hH h34 h59 hw hfl hdx (same W (fun _ _ => rfl) hb1) (fun q z hq hqz => hI2 q z (by omega) hqz) hz hwit (chs' (fun z => absurd z hns))
      refine ⟨h', W', O', ch', b1, b2, b3, b4, b5, b6, b7, b8, fun d Q => ?_⟩
      rw [← b9 d Q]
      rw [e_7_5]
      simp (disch := omega) only [e_7_7, e_7_8, e_7_11, e_7_14, e_7_15, e_7_18, e_7_21, e_7_23, e_7_24, e_7_26, e_7_27, e_7_30, e_7_33, e_7_35, e_7_36, e_7_38, e_7_39, e_7_42, e_7_44, e_7_45, e_7_47, e_7_108, e_7_111, h34, h59, hi, hw, hfl, hdx, hfx, he, ej, true_and, beO_c, beO_g0, beO_k0, beO_g1, beO_k1, beO_s1, beO_g2, beO_k2, beO_s2, beO_g3, beO_k3, beO_s3, beO_g4, beO_k4, beO_s4, dkO_c, dkO_g0, dkO_k0, dkO_s0, dkO_g1, dkO_k1, dkO_s1, dkO_g2, dkO_k2, dkO_s2, hoO_c, hoO_g0, hoO_k0, hoO_s0, hoO_g1, hoO_k1, hoO_s1, hoO_g2, hoO_k2, hoO_s2, hoO_g3, hoO_k3, hoO_g4, hoO_k4, hoO_g5, hoO_k5, hoO_g6, hoO_k6, hoO_g7, hoO_k7, hoO_g8, hoO_k8, hoO_g9, hoO_k9, hoO_s9, iup_s, iup_n, hp_up1, hp_upn, ne_eq, not_false_eq_true, sh_0, sh_1, sh_2, sh_3, sh_4, sh_5, sh_8, sh_15, sh_16, sh_24, Int.reducePow, Int.cast_ofNat_Int, w_of, wl_of, ltT, ltF, leT, leF, eqT, eqF, okF_0, okF_s, gF_0, gF_s, consC_o, sF_0, sF_s, clsO_o, inA_i, ldA_i, stA_i, inJ_l, ldJ_l, stJ_l, inR_r, ldR_r, stR_r, tgR_r, lenA_i, lenA_l, lenA_r, lenA_ex, nl_i, nl_o, nl_l, nl_n, wd_n, wd_i, wd_l, wd_o, fit_i, fit_l, fit_o, K_v, K_n, true_and, and_true, Nat.reduceAdd, Nat.reduceLeDiff, Nat.reduceEqDiff, Nat.reduceMul, Nat.reduceLT, reduceIte, true_or, or_true, cmp_lt, cmp_gt, cmp_eq, wb_0, b_01, cmp_lt', cmp_gt', cmp_eq', b_0, b_1, wb_1, Int.reduceSub, Int.reduceToNat, List.getD_cons_succ, List.getD_cons_zero, Int.reduceLE, Int.reduceLT, Int.reduceEq, Int.reduceNeg, Int.reduceAdd, Int.reduceMul, and_self, em_b, ne_eq, not_false_eq_true, not_true_eq_false]
      try rfl
