/-! THE CLASS: Rows, one hour from all stands -/
theorem wl2_15 {c : KC} {sky : Nat} {F : ST → Bool} {f : Int → Int} (hO : okC c) : ∀ {A : List ST}, (∀ x, x ∈ A → okS c x ∧ 0 ≤ f (encC c x)) → wl2 c f (fun x => hsum F (fun _ => 1) (nx c sky x)) A ≤ 15 * wl2 c f (fun _ => 1) A
  | [], _ => Int.le_refl _
  | x :: r, h => by
    have ih := wl2_15 (c := c) (sky := sky) (F := F) (f := f) hO (A := r) (fun y hy => h y (List.mem_cons_of_mem _ hy))
    obtain ⟨hx, h0⟩ := h x (List.mem_cons_self)
    have h1 := hsum_1 (F := F) (A := nx c sky x)
    have h2 := nx_len (sky := sky) hO hx
    have h3 : f (encC c x) * hsum F (fun _ => 1) (nx c sky x) ≤ f (encC c x) * 15 := Int.mul_le_mul_of_nonneg_left (by omega) h0
    show f (encC c x) * hsum F (fun _ => 1) (nx c sky x) + wl2 c f _ r ≤ 15 * (f (encC c x) * 1 + wl2 c f (fun _ => 1) r)
    omega
theorem Ro_oLp {ow : Nat → Nat} {ca : Nat} {c : KC} {sky e lev n nd dl dx dm kA sA : Nat} {lw : List Int} {fw fl : Int → Int} {i : Nat → Int} {M : List ST} (hO : okC c) (hn : szC c ≤ n) (hn1 : n ≤ 24000) (hn2 : szC c ≤ nd) (hn3 : nd ≤ 24000) (hlev : lev < 8) (hfw : fw lev = lw.getD lev 0) (hb : -1 ≤ lw.getD lev 0 ∧ lw.getD lev 0 < 5) (os : ow sA = 5) (ok : ow kA = 5) (ox : ow dx = 2) (ol : ow dl = 2) (q1 : 45 < sA) (q2 : 34 < dx) (q4 : 45 < kA) (q5 : kA ≠ sA) (q6 : dl ≠ dx) (q7 : 34 < dl) (hM : ∀ x, x ∈ M → okS c x) (hMn : (M.map (encC c)).Nodup) (hMl : M.length ≤ szC c) (hPM : pathA c M fl) :
    ∀ (r k : Nat) (h : PH) (f g fo : Int → Int) (N : List ST) (T : (ST → Int) → Int) (R : ST → Prop) (o6 o7 o8 o9 o10 : Option PV), k + r = M.length → owF ow h → HoP ow h ca c sky e → hp h 34 = dkO (vr dl) (vr dx) (vr dm) → hp h 45 = rwO i (vr kA) (vr sA) → hp h 48 = aI 0 8 fw → hp h kA = aL n f → hp h sA = aL n g → hp h dl = aI 0 nd fl → hp h dx = aI 0 nd fo → rcI c g N T R → pathA c N fo → (∀ x, x ∈ M.drop k → 0 < f (encC c x)) → (∀ j : Nat, (∀ x, x ∈ M.drop k → encC c x ≠ j) → f j = 0) → T (fun _ => 1) + 15 * wl2 c f (fun _ => 1) (M.drop k) ≤ 9000000000000000000 →
    ∃ (h' : PH) (f' g' fo' : Int → Int) (N' : List ST) (p5 p6 p7 p8 p9 p10 : Option PV), chx ow [kA, sA, dx] h h' ∧ HoP ow h' ca c sky e ∧ hp h' kA = aL n f' ∧ (∀ j : Nat, f' j = 0) ∧ hp h' sA = aL n g' ∧ hp h' dx = aI 0 nd fo' ∧ rcI c g' N' (fun W => T W + wl2 c f (fun x => hsum (fitB c lw lev) W (nx c sky x)) (M.drop k)) (fun z => R z ∨ ∃ x y, x ∈ M.drop k ∧ y ∈ nx c sky x ∧ fitB c lw lev y.2 = true ∧ y.2 = z) ∧ pathA c N' fo' ∧ ∀ d Q, WP (d + 9) 84 6 [some (vr 45), some (vr 27), some (vi lev), some (vi M.length), some (vi N.length), some (vi k), o6, o7, o8, o9, o10] [] h Q = WP (d + 9) 84 133 [some (vr 45), some (vr 27), some (vi lev), some (vi M.length), some (vi N'.length), some (vi M.length), p6, p7, p8, p9, p10] [] h' Q := by
  have hK := hO.1
  have h24 := szC_le hK
  intro r
  induction r with
  | zero =>
    intro k h f g fo N T R o6 o7 o8 o9 o10 hk hF hH h34 h45 h48 hf hg hfl hfo hR hP hpos hzer hB
    have ek : k = M.length := by omega
    subst ek
    have e0 : M.drop M.length = [] := List.drop_eq_nil_of_le (Nat.le_refl _)
    rw [e0] at hzer
    refine ⟨h, f, g, fo, N, none, o6, o7, o8, o9, o10, chx_r, hH, hf, fun j => hzer j (fun x hx => by cases hx), hg, hfo, rc_ext hR (fun W => ?_) (fun z => ?_), hP, fun d Q => ?_⟩
    · rw [e0]; show T W = T W + 0; omega
    · rw [e0]; simp
    · rw [e_84_6]
      simp (disch := omega) only [e_84_8, e_84_9, rwO_c, rwO_g0, rwO_k0, rwO_g1, rwO_k1, rwO_s1, rwO_g2, rwO_k2, rwO_s2, rwO_g3, rwO_k3, rwO_g4, rwO_k4, rwO_s4, rwO_g5, rwO_k5, rwO_g6, rwO_k6, dkO_c, dkO_g0, dkO_k0, dkO_s0, dkO_g1, dkO_k1, dkO_s1, dkO_g2, dkO_k2, dkO_s2, hoO_c, hoO_g0, hoO_k0, hoO_s0, hoO_g1, hoO_k1, hoO_s1, hoO_g2, hoO_k2, hoO_s2, hoO_g3, hoO_k3, hoO_g4, hoO_k4, hoO_g5, hoO_k5, hoO_g6, hoO_k6, hoO_g7, hoO_k7, hoO_g8, hoO_k8, hoO_g9, hoO_k9, hoO_s9, iup_s, iup_n, hp_up1, hp_upn, ne_eq, not_false_eq_true, sh_0, sh_1, sh_2, sh_3, sh_4, sh_5, sh_8, sh_15, sh_16, sh_24, Int.reducePow, Int.cast_ofNat_Int, w_of, wl_of, ltT, ltF, leT, leF, eqT, eqF, okF_0, okF_s, gF_0, gF_s, consC_o, sF_0, sF_s, clsO_o, inA_i, ldA_i, stA_i, inJ_l, ldJ_l, stJ_l, inR_r, ldR_r, stR_r, tgR_r, lenA_i, lenA_l, lenA_r, lenA_ex, nl_i, nl_o, nl_l, nl_n, wd_n, wd_i, wd_l, wd_o, fit_i, fit_l, fit_o, K_v, K_n, true_and, and_true, Nat.reduceAdd, Nat.reduceLeDiff, Nat.reduceEqDiff, Nat.reduceMul, Nat.reduceLT, reduceIte, true_or, or_true, cmp_lt, cmp_gt, cmp_eq, wb_0, b_01, cmp_lt', cmp_gt', cmp_eq', b_0, b_1, wb_1, Int.reduceSub, Int.reduceToNat, List.getD_cons_succ, List.getD_cons_zero, Int.reduceLE, Int.reduceLT, Int.reduceEq, Int.reduceNeg, Int.reduceAdd, Int.reduceMul, and_self, em_b, ne_eq, not_false_eq_true, not_true_eq_false]
      try rfl
  | succ r ih =>
    intro k h f g fo N T R o6 o7 o8 o9 o10 hk hF hH h34 h45 h48 hf hg hfl hfo hR hP hpos hzer hB
    have hx : M[k]? = some M[k] := List.getElem?_eq_getElem (by omega)
    generalize M[k] = x at hx
    have hxo := hM x (List.mem_of_getElem? hx)
    have hxl := encC_lt hK hxo
    have hdr := drop_at hx
    have hfx := hPM k x hx
    have hfp := hpos x (by rw [hdr]; exact List.mem_cons_self)
    have hnd : ∀ y, y ∈ M.drop (k + 1) → encC c y ≠ encC c x := by
      intro y hy e
      have h1 : ((M.drop k).map (encC c)).Nodup := by rw [List.map_drop]; exact hMn.sublist (List.drop_sublist k _)
      rw [hdr, List.map_cons, List.nodup_cons] at h1
      exact h1.1 (by rw [← e]; exact List.mem_map_of_mem hy)
    have hok : ∀ y, y ∈ M.drop (k + 1) → okS c y ∧ 0 ≤ f (encC c y) := fun y hy => ⟨hM y (List.mem_of_mem_drop hy), Int.le_of_lt (hpos y (by rw [hdr]; exact List.mem_cons_of_mem _ hy))⟩
    have hwn := (wl2_nn (c := c) (f := f) (A := M.drop (k + 1)) (fun y hy => (hok y hy).2)).1
    rw [hdr] at hB
    have hB' : T (fun _ => 1) + 15 * (f (encC c x) * 1 + wl2 c f (fun _ => 1) (M.drop (k + 1))) ≤ 9000000000000000000 := hB
    have hT0 := (rc_b hK hR).2.1
    have t34 := tg_34 hF
    have t45 : ow 45 = 5 := hF.2 45 (by omega)
    have t48 : ow 48 = 18 := hF.2 48 (by omega)
    have s48 : sA ≠ 48 := fun z => by rw [z, t48] at os; omega
    have k48 : kA ≠ 48 := fun z => by rw [z, t48] at ok; omega
    have x48 : dx ≠ 48 := fun z => by rw [z, t48] at ox; omega
    have x45 : dx ≠ 45 := fun z => by rw [z, t45] at ox; omega
    have l45 : dl ≠ 45 := fun z => by rw [z, t45] at ol; omega
    have xk : dx ≠ kA := fun z => by rw [z, ok] at ox; omega
    have lk : dl ≠ kA := fun z => by rw [z, ok] at ol; omega
    have ls : dl ≠ sA := fun z => by rw [z, os] at ol; omega
    have xs : dx ≠ sA := fun z => by rw [z, os] at ox; omega
    have c0 : chg ow [5] h (hup h kA (aL n (fset f (encC c x : Nat) 0))) := chg_up ok (by simp)
    have hF0 := chg_F c0 hF
    have hH0 := HoP_c hF c0 (by decide) (by decide) hH
    obtain ⟨h1, g1, g2, g3, g4⟩ := H_spread hF0 hH0 hxo
    have hF1 := chg_F g1 hF0
    obtain ⟨hKC⟩ : Nonempty (KCty ow h1 ca c) := by obtain ⟨_, _, _, _, _, _, _, _, _, _, a9⟩ := g2; exact ⟨a9⟩
    have at1 : ∀ y, ow y ≠ 1 → y ≠ kA → hp h1 y = hp h y := fun y y1 y2 => by rw [chg_at g1 rfl (fun z => y1 (List.mem_singleton.mp z)), hp_upn y2]
    have k1 : hp h1 kA = aL n (fset f (encC c x : Nat) 0) := by rw [chg_at g1 ok (by decide), hp_up1]
    obtain ⟨hlen⟩ : Nonempty ((nx c sky x).length ≤ 15) := ⟨nx_len hO hxo⟩
    have e34 : hp h1 34 = dkO (vr dl) (vr dx) (vr dm) := by rw [at1 34 (by rw [t34]; decide) (by omega)]; exact h34
    have e45 : hp h1 45 = rwO i (vr kA) (vr sA) := by rw [at1 45 (by rw [t45]; decide) (by omega)]; exact h45
    have e48 : hp h1 48 = aI 0 8 fw := by rw [at1 48 (by rw [t48]; decide) (fun z => k48 z.symm)]; exact h48
    have esA : hp h1 sA = aL n g := by rw [at1 sA (by rw [os]; decide) (fun z => q5 z.symm)]; exact hg
    have edx : hp h1 dx = aI 0 nd fo := by rw [at1 dx (by rw [ox]; decide) xk]; exact hfo
    have edl : hp h1 dl = aI 0 nd fl := by rw [at1 dl (by rw [ol]; decide) lk]; exact hfl
    have hmul : f (encC c x) * ((nx c sky x).length : Nat) ≤ f (encC c x) * 15 := Int.mul_le_mul_of_nonneg_left (by omega) (Int.le_of_lt hfp)
    obtain ⟨h2, g', fo', N', p10, b1, b2, b3, b4, b5, b6⟩ := Ro_hLp (ow := ow) (i := i) (x3 := (M.length : Int)) (x5 := (k : Int)) (x6 := (encC c x : Int)) (s := x) (sky := sky) rfl hO hxo hn hn1 hn2 hn3 hlev hfw hb hfp os ox q1 q2 s48 (nx c sky x).length 0 h1 g fo N T R o10 (by omega) hF1 hKC g3 e34 e45 e48 esA edx hR hP (by omega)
    have hc2 : chg ow [2, 5] h1 h2 := chs_c b1 (fun y hy => by
      simp at hy
      rcases hy with z | z
      · rw [z, os]; simp
      · rw [z, ox]; simp)
    rw [List.drop_zero] at b4
    have hS1 := hsum_1 (F := fitB c lw lev) (A := nx c sky x)
    have hmul2 : f (encC c x) * hsum (fitB c lw lev) (fun _ => 1) (nx c sky x) ≤ f (encC c x) * 15 := Int.mul_le_mul_of_nonneg_left (by omega) (Int.le_of_lt hfp)
    have ewl : ∀ W, wl2 c (fset f (encC c x : Nat) 0) W (M.drop (k + 1)) = wl2 c f W (M.drop (k + 1)) := fun W => wl2_congr (fun y hy => fs_ne (fun z => hnd y hy (by omega)))
    obtain ⟨h3, f3, g3', fo3, N3, p5, p6, p7, p8, p9, p10', d1, d2, d3, d4, d5, d6, d7, d8, d9⟩ := ih (k + 1) h2 (fset f (encC c x : Nat) 0) g' fo' N' _ _ (some (vi (encC c x))) (some (vl (f (encC c x)))) none (some (vi (nx c sky x).length)) p10 (by omega) (chg_F hc2 hF1) (HoP_c hF1 hc2 (by decide) (by decide) g2) (by rw [b1.2.2 34 (by simp; omega)]; exact e34) (by rw [b1.2.2 45 (by simp; omega)]; exact e45) (by rw [b1.2.2 48 (by simp; exact ⟨fun z => s48 z.symm, fun z => x48 z.symm⟩)]; exact e48) (by rw [b1.2.2 kA (by simp; exact ⟨q5, fun z => xk z.symm⟩)]; exact k1) b2 (by rw [b1.2.2 dl (by simp; exact ⟨ls, q6⟩)]; exact edl) b3 b4 b5 (fun y hy => by rw [fs_ne (fun z => hnd y hy (by omega))]; exact hpos y (by rw [hdr]; exact List.mem_cons_of_mem _ hy)) (fun j hj => by
      by_cases z : (j : Int) = (encC c x : Nat)
      · rw [z, fs_same]
      · rw [fs_ne z]
        refine hzer j (fun y hy => ?_)
        rw [hdr] at hy
        rcases List.mem_cons.mp hy with w | w
        · rw [w]; omega
        · exact hj y w) (by rw [ewl]; show T (fun _ => 1) + f (encC c x) * hsum (fitB c lw lev) (fun _ => 1) (nx c sky x) + 15 * wl2 c f (fun _ => 1) (M.drop (k + 1)) ≤ _; omega)
    refine ⟨h3, f3, g3', fo3, N3, p5, p6, p7, p8, p9, p10', chx_t (chx_t (chx_t (chx_up (by simp)) (chx_c g1)) (chx_w (chs_x b1) (by simp))) d1, d2, d3, d4, d5, d6, rc_ext d7 (fun W => ?_) (fun z => ?_), d8, fun d Q => ?_⟩
    · rw [ewl, hdr]
      show T W + f (encC c x) * hsum (fitB c lw lev) W (nx c sky x) + wl2 c f _ (M.drop (k + 1)) = T W + (f (encC c x) * hsum (fitB c lw lev) W (nx c sky x) + wl2 c f _ (M.drop (k + 1)))
      omega
    · rw [hdr]
      constructor
      · rintro ((w | ⟨y, w1, w2⟩) | ⟨u, y, w1, w2⟩)
        · exact Or.inl w
        · exact Or.inr ⟨x, y, List.mem_cons_self, w1, w2⟩
        · exact Or.inr ⟨u, y, List.mem_cons_of_mem _ w1, w2⟩
      · rintro (w | ⟨u, y, w1, w2⟩)
        · exact Or.inl (Or.inl w)
        · rcases List.mem_cons.mp w1 with w | w
          · rw [w] at w2; exact Or.inl (Or.inr ⟨y, w2⟩)
          · exact Or.inr ⟨u, y, w, w2⟩
    · rw [← d9 d Q]
      have g4' := fun (Q : PQ) => g4 d Q
      have b6' := b6 (d + 6) Q
      rw [nc0] at b6'
      obtain ⟨iy, h27⟩ : ∃ i, hp h 27 = hoO i (vr ca) := by obtain ⟨i, A, a1, _⟩ := hH; exact ⟨i, a1⟩
      have n27 : 27 ≠ kA := by omega
      have k10 : 10 ≤ kA := by omega
      have ek : (k : Int) + 1 = ((k + 1 : Nat) : Int) := by omega
      rw [e_84_6]
      simp (disch := omega) only [e_84_8, e_84_9, e_84_12, e_84_13, e_84_16, e_84_19, e_84_21, e_84_22, e_84_24, e_84_25, e_84_28, e_84_30, e_84_31, e_84_33, e_84_34, e_84_37, e_84_39, e_84_40, e_84_41, e_84_42, e_84_44, e_84_47, e_84_48, e_84_127, e_84_130, h27, h34, h45, hfl, hf, hfx, g4', b6', k10, ek, true_and, rwO_c, rwO_g0, rwO_k0, rwO_g1, rwO_k1, rwO_s1, rwO_g2, rwO_k2, rwO_s2, rwO_g3, rwO_k3, rwO_g4, rwO_k4, rwO_s4, rwO_g5, rwO_k5, rwO_g6, rwO_k6, dkO_c, dkO_g0, dkO_k0, dkO_s0, dkO_g1, dkO_k1, dkO_s1, dkO_g2, dkO_k2, dkO_s2, hoO_c, hoO_g0, hoO_k0, hoO_s0, hoO_g1, hoO_k1, hoO_s1, hoO_g2, hoO_k2, hoO_s2, hoO_g3, hoO_k3, hoO_g4, hoO_k4, hoO_g5, hoO_k5, hoO_g6, hoO_k6, hoO_g7, hoO_k7, hoO_g8, hoO_k8, hoO_g9, hoO_k9, hoO_s9, iup_s, iup_n, hp_up1, hp_upn, ne_eq, not_false_eq_true, sh_0, sh_1, sh_2, sh_3, sh_4, sh_5, sh_8, sh_15, sh_16, sh_24, Int.reducePow, Int.cast_ofNat_Int, w_of, wl_of, ltT, ltF, leT, leF, eqT, eqF, okF_0, okF_s, gF_0, gF_s, consC_o, sF_0, sF_s, clsO_o, inA_i, ldA_i, stA_i, inJ_l, ldJ_l, stJ_l, inR_r, ldR_r, stR_r, tgR_r, lenA_i, lenA_l, lenA_r, lenA_ex, nl_i, nl_o, nl_l, nl_n, wd_n, wd_i, wd_l, wd_o, fit_i, fit_l, fit_o, K_v, K_n, true_and, and_true, Nat.reduceAdd, Nat.reduceLeDiff, Nat.reduceEqDiff, Nat.reduceMul, Nat.reduceLT, reduceIte, true_or, or_true, cmp_lt, cmp_gt, cmp_eq, wb_0, b_01, cmp_lt', cmp_gt', cmp_eq', b_0, b_1, wb_1, Int.reduceSub, Int.reduceToNat, List.getD_cons_succ, List.getD_cons_zero, Int.reduceLE, Int.reduceLT, Int.reduceEq, Int.reduceNeg, Int.reduceAdd, Int.reduceMul, and_self, em_b, ne_eq, not_false_eq_true, not_true_eq_false]
      try rfl
