/-! THE CLASS: Rows, goOneHour and all hours -/
def RwS (c : KC) (h : PH) (i : Nat → Int) (dl dx dm kA sA n nd : Nat) (fw : Int → Int) (M : List ST) (T : (ST → Int) → Int) (R : ST → Prop) : Prop := ∃ f g fl fo : Int → Int, hp h 34 = dkO (vr dl) (vr dx) (vr dm) ∧ hp h 45 = rwO i (vr kA) (vr sA) ∧ hp h 48 = aI 0 8 fw ∧ hp h kA = aL n f ∧ hp h sA = aL n g ∧ (∀ j : Nat, g j = 0) ∧ hp h dl = aI 0 nd fl ∧ hp h dx = aI 0 nd fo ∧ rcI c f M T R ∧ pathA c M fl
def RwW (ow : Nat → Nat) (dl dx kA sA : Nat) : Prop := ow sA = 5 ∧ ow kA = 5 ∧ ow dx = 2 ∧ ow dl = 2 ∧ 45 < sA ∧ 34 < dx ∧ 45 < kA ∧ kA ≠ sA ∧ dl ≠ dx ∧ 34 < dl
theorem RwW_s {ow : Nat → Nat} {dl dx kA sA : Nat} (h : RwW ow dl dx kA sA) : RwW ow dx dl sA kA := by
  obtain ⟨h1, h2, h3, h4, h5, h6, h7, h8, h9, h10⟩ := h
  exact ⟨h2, h1, h4, h3, h7, h10, h5, fun z => h8 z.symm, fun z => h9 z.symm, h6⟩
theorem Ro_hour {ow : Nat → Nat} {h : PH} {ca : Nat} {c : KC} {sky e lev n nd dl dx dm kA sA : Nat} {lw : List Int} {fw : Int → Int} {i : Nat → Int} {M : List ST} {T : (ST → Int) → Int} {R : ST → Prop} (hO : okC c) (hn : szC c ≤ n) (hn1 : n ≤ 24000) (hn2 : szC c ≤ nd) (hn3 : nd ≤ 24000) (hlev : lev < 8) (hfw : fw lev = lw.getD lev 0) (hb : -1 ≤ lw.getD lev 0 ∧ lw.getD lev 0 < 5) (hW : RwW ow dl dx kA sA) (hF : owF ow h) (hH : HoP ow h ca c sky e) (hS : RwS c h i dl dx dm kA sA n nd fw M T R) (hB : 15 * T (fun _ => 1) ≤ 9000000000000000000) :
    ∃ (h' : PH) (M' : List ST), chx ow [34, 45, kA, sA, dl, dx] h h' ∧ HoP ow h' ca c sky e ∧ RwS c h' i dx dl dm sA kA n nd fw M' (fun W => T (fun x => hsum (fitB c lw lev) W (nx c sky x))) (fun z => ∃ x y, R x ∧ y ∈ nx c sky x ∧ fitB c lw lev y.2 = true ∧ y.2 = z) ∧ T (fun x => hsum (fitB c lw lev) (fun _ => 1) (nx c sky x)) ≤ 15 * T (fun _ => 1) ∧ ∀ d Q, WP (d + 9) 84 0 [some (vr 45), some (vr 27), some (vi lev), some (vi M.length), none, none, none, none, none, none, none] [] h Q = Q (some (vi M'.length)) h' := by
  have hK := hO.1
  have h24 := szC_le hK
  obtain ⟨f, g, fl, fo, s1, s2, s3, s4, s5, s6, s7, s8, s9, s10⟩ := hS
  have hW' := hW
  obtain ⟨w1, w2, w3, w4, w5, w6, w7, w8, w9, w10⟩ := hW
  have hrc := s9
  obtain ⟨r1, r2, r3, r4, r5⟩ := s9
  have hMl := (rc_b hK hrc).1
  obtain ⟨h1, f', g', fo', N', p5, p6, p7, p8, p9, p10, b1, b2, b3, b4, b5, b6, b7, b8, b9⟩ := Ro_oLp (ow := ow) (i := i) (sky := sky) (e := e) (dm := dm) hO hn hn1 hn2 hn3 hlev hfw hb w1 w2 w3 w4 w5 w6 w7 w8 w9 w10 (fun x hx => (r1 x hx).1) r3 hMl s10 M.length 0 h f g fo [] _ _ none none none none none (by omega) hF hH s1 s2 s3 s4 s5 s7 s8 (rc_0 s6) (fun j s hj => by simp at hj) (fun x hx => (r1 x (List.mem_of_mem_drop hx)).2) (fun j hj => r2 j (by rw [List.drop_zero] at hj; exact hj)) (by rw [List.drop_zero, r4]; omega)
  rw [List.drop_zero] at b7
  have t34 := tg_34 hF
  have t45 : ow 45 = 5 := hF.2 45 (by omega)
  have t48 : ow 48 = 18 := hF.2 48 (by omega)
  have x45 : dx ≠ 45 := fun z => by rw [z, t45] at w3; omega
  have l45 : dl ≠ 45 := fun z => by rw [z, t45] at w4; omega
  have x48 : dx ≠ 48 := fun z => by rw [z, t48] at w3; omega
  have k48 : kA ≠ 48 := fun z => by rw [z, t48] at w2; omega
  have s48 : sA ≠ 48 := fun z => by rw [z, t48] at w1; omega
  have lk : dl ≠ kA := fun z => by rw [z, w2] at w4; omega
  have ls : dl ≠ sA := fun z => by rw [z, w1] at w4; omega
  have e34 : hp h1 34 = dkO (vr dl) (vr dx) (vr dm) := by rw [b1.2.2 34 (by rw [t34]; decide) (by simp; omega)]; exact s1
  have e45 : hp h1 45 = rwO i (vr kA) (vr sA) := by rw [b1.2.2 45 (by rw [t45]; decide) (by simp; omega)]; exact s2
  have e48 : hp h1 48 = aI 0 8 fw := by rw [b1.2.2 48 (by rw [t48]; decide) (by simp; exact ⟨fun z => k48 z.symm, fun z => s48 z.symm, fun z => x48 z.symm⟩)]; exact s3
  have edl : hp h1 dl = aI 0 nd fl := by rw [b1.2.2 dl (by rw [w4]; decide) (by simp; exact ⟨lk, ls, w9⟩)]; exact s7
  have hF1 : owF ow h1 := ⟨by rw [b1.1]; exact hF.1, hF.2⟩
  have hch : chg ow [2, 5] h1 (hup (hup h1 34 (dkO (vr dx) (vr dl) (vr dm))) 45 (rwO i (vr sA) (vr kA))) := chg_t (chg_up t34 (by simp)) (chg_up t45 (by simp))
  refine ⟨hup (hup h1 34 (dkO (vr dx) (vr dl) (vr dm))) 45 (rwO i (vr sA) (vr kA)), N', chx_t (chx_w b1 (by intro t ht; simp at ht ⊢; omega)) (chx_t (chx_up (by simp)) (chx_up (by simp))), HoP_c hF1 hch (by decide) (by decide) b2, ⟨g', f', fo', fl, by rw [hp_upn (by omega), hp_up1], hp_up1, by rw [hp_upn (by omega), hp_upn (by omega)]; exact e48, by rw [hp_upn (by omega), hp_upn (by omega)]; exact b5, by rw [hp_upn (by omega), hp_upn (by omega)]; exact b3, b4, by rw [hp_upn x45, hp_upn (by omega)]; exact b6, by rw [hp_upn l45, hp_upn (by omega)]; exact edl, rc_ext b7 (fun W => ?_) (fun z => ?_), b8⟩, ?_, fun d Q => ?_⟩
  · rw [r4]; omega
  · constructor
    · rintro (w | ⟨x, y, a1, a2⟩)
      · exact w.elim
      · exact ⟨x, y, (r5 x).mp a1, a2⟩
    · rintro ⟨x, y, a1, a2⟩
      exact Or.inr ⟨x, y, (r5 x).mpr a1, a2⟩
  · rw [← r4, ← r4]
    exact wl2_15 hO (fun x hx => ⟨(r1 x hx).1, Int.le_of_lt (r1 x hx).2⟩)
  · have b9' := b9 d Q
    rw [nc0, show ((([] : List ST).length : Nat) : Int) = 0 from rfl] at b9'
    have tn := fun (d : Nat) (Q : PQ) => D_turn (l := dl) (o := dx) (m := dm) w10 e34 d Q
    have k9 : ¬ kA = 9 := by omega
    simp (disch := omega) only [e_84_0, e_84_1, e_84_3, e_84_4, e_84_133, e_84_134, e_84_137, e_84_140, e_84_141, e_84_144, e_84_146, e_84_147, e_84_148, e_84_151, e_84_154, e_84_155, e_84_157, e_84_160, e_84_162, b9', tn, e34, e45, k9, not_false_eq_true, true_and, hup_tt, rwO_c, rwO_g0, rwO_k0, rwO_g1, rwO_k1, rwO_s1, rwO_g2, rwO_k2, rwO_s2, rwO_g3, rwO_k3, rwO_g4, rwO_k4, rwO_s4, rwO_g5, rwO_k5, rwO_g6, rwO_k6, dkO_c, dkO_g0, dkO_k0, dkO_s0, dkO_g1, dkO_k1, dkO_s1, dkO_g2, dkO_k2, dkO_s2, hoO_c, hoO_g0, hoO_k0, hoO_s0, hoO_g1, hoO_k1, hoO_s1, hoO_g2, hoO_k2, hoO_s2, hoO_g3, hoO_k3, hoO_g4, hoO_k4, hoO_g5, hoO_k5, hoO_g6, hoO_k6, hoO_g7, hoO_k7, hoO_g8, hoO_k8, hoO_g9, hoO_k9, hoO_s9, iup_s, iup_n, hp_up1, hp_upn, ne_eq, not_false_eq_true, sh_0, sh_1, sh_2, sh_3, sh_4, sh_5, sh_8, sh_15, sh_16, sh_24, Int.reducePow, Int.cast_ofNat_Int, w_of, wl_of, ltT, ltF, leT, leF, eqT, eqF, okF_0, okF_s, gF_0, gF_s, consC_o, sF_0, sF_s, clsO_o, inA_i, ldA_i, stA_i, inJ_l, ldJ_l, stJ_l, inR_r, ldR_r, stR_r, tgR_r, lenA_i, lenA_l, lenA_r, lenA_ex, nl_i, nl_o, nl_l, nl_n, wd_n, wd_i, wd_l, wd_o, fit_i, fit_l, fit_o, K_v, K_n, true_and, and_true, Nat.reduceAdd, Nat.reduceLeDiff, Nat.reduceEqDiff, Nat.reduceMul, Nat.reduceLT, reduceIte, true_or, or_true, cmp_lt, cmp_gt, cmp_eq, wb_0, b_01, cmp_lt', cmp_gt', cmp_eq', b_0, b_1, wb_1, Int.reduceSub, Int.reduceToNat, List.getD_cons_succ, List.getD_cons_zero, Int.reduceLE, Int.reduceLT, Int.reduceEq, Int.reduceNeg, Int.reduceAdd, Int.reduceMul, and_self, em_b, ne_eq, not_false_eq_true, not_true_eq_false]
    try rfl
noncomputable def tK (c : KC) (sky : Nat) (lw : List Int) (s : ST) : Nat → (ST → Int) → Int
  | 0, W => W s
  | k + 1, W => tK c sky lw s k (fun x => hsum (fitB c lw k) W (nx c sky x))
theorem tK_cm {c : KC} {sky : Nat} {lw : List Int} {s : ST} (hK : okK c) : ∀ {k r : Nat}, tK c sky lw s k (cmF c sky lw r k) = cmF c sky lw (k + r) 0 s
  | 0, r => by rw [Nat.zero_add]; rfl
  | k + 1, r => by
    show tK c sky lw s k (fun x => hsum (fitB c lw k) (cmF c sky lw r (k + 1)) (nx c sky x)) = _
    rw [show (fun x => hsum (fitB c lw k) (cmF c sky lw r (k + 1)) (nx c sky x)) = cmF c sky lw (r + 1) k from funext (fun x => (hsum_cm hK).symm), tK_cm hK, show k + (r + 1) = k + 1 + r by omega]
theorem fw_nx {c : KC} {sky : Nat} {lw : List Int} {s : ST} {k : Nat} (z : ST) : (∃ (x : ST) (y : Nat × ST), fwS c sky lw k s x ∧ y ∈ nx c sky x ∧ fitB c lw k y.2 = true ∧ y.2 = z) ↔ fwS c sky lw (k + 1) s z := by
  constructor
  · rintro ⟨x, y, h1, h2, h3, h4⟩
    obtain ⟨m, m1, m2, m3⟩ := nx_mem.mp h2
    subst m3
    exact ⟨x, m, h1, m1, m2, h4, by rw [← h4]; exact h3⟩
  · rintro ⟨x, m, h1, h2, h3, h4, h5⟩
    exact ⟨x, (deedM m, toM c sky x m), h1, nx_mem.mpr ⟨m, h2, h3, rfl⟩, by rw [show ((deedM m, toM c sky x m) : Nat × ST).2 = z from h4]; exact h5, h4⟩
theorem p15 {k : Nat} (h : k ≤ 8) : (15 : Int) ^ k ≤ 2562890625 := by
  have : 15 ^ k ≤ 15 ^ 8 := Nat.pow_le_pow_right (by decide) h
  have e : ((15 ^ k : Nat) : Int) = (15 : Int) ^ k := by rw [Int.natCast_pow]; rfl
  rw [← e]
  have : (15 : Nat) ^ 8 = 2562890625 := by decide
  omega
theorem Ro_goLp {ow : Nat → Nat} {ca : Nat} {c : KC} {sky e n nd dm nn : Nat} {lw : List Int} {fw : Int → Int} {i : Nat → Int} {s : ST} {x2 x4 : Int} (hO : okC c) (hn : szC c ≤ n) (hn1 : n ≤ 24000) (hn2 : szC c ≤ nd) (hn3 : nd ≤ 24000) (hnn : nn ≤ 8) (hfw : ∀ k, k < nn → fw k = lw.getD k 0) (hb : ∀ k, k < nn → -1 ≤ lw.getD k 0 ∧ lw.getD k 0 < 5) :
    ∀ (r k : Nat) (h : PH) (M : List ST) (dl dx kA sA : Nat), k + r = nn → owF ow h → HoP ow h ca c sky e → RwW ow dl dx kA sA → RwS c h i dl dx dm kA sA n nd fw M (tK c sky lw s k) (fwS c sky lw k s) → tK c sky lw s k (fun _ => 1) ≤ 15 ^ k →
    ∃ (h' : PH) (M' : List ST) (dl' dx' kA' sA' : Nat), chx ow [34, 45, kA, sA, dl, dx] h h' ∧ HoP ow h' ca c sky e ∧ RwW ow dl' dx' kA' sA' ∧ ((dl' = dl ∧ dx' = dx ∧ kA' = kA ∧ sA' = sA) ∨ (dl' = dx ∧ dx' = dl ∧ kA' = sA ∧ sA' = kA)) ∧ RwS c h' i dl' dx' dm kA' sA' n nd fw M' (tK c sky lw s nn) (fwS c sky lw nn s) ∧ tK c sky lw s nn (fun _ => 1) ≤ 15 ^ nn ∧ ∀ d Q, WP (d + 10) 83 80 [some (vr 45), some (vr 27), some (vi x2), some (vi nn), some (vi x4), some (vi M.length), some (vi k)] [] h Q = Q (some (vi M'.length)) h' := by
  intro r
  induction r with
  | zero =>
    intro k h M dl dx kA sA hk hF hH hW hS hB
    have ek : k = nn := by omega
    subst ek
    refine ⟨h, M, dl, dx, kA, sA, chx_r, hH, hW, Or.inl ⟨rfl, rfl, rfl, rfl⟩, hS, hB, fun d Q => ?_⟩
    rw [e_83_80]
    simp (disch := omega) only [e_83_82, e_83_83, e_83_103, e_83_105, rwO_c, rwO_g0, rwO_k0, rwO_g1, rwO_k1, rwO_s1, rwO_g2, rwO_k2, rwO_s2, rwO_g3, rwO_k3, rwO_g4, rwO_k4, rwO_s4, rwO_g5, rwO_k5, rwO_g6, rwO_k6, dkO_c, dkO_g0, dkO_k0, dkO_s0, dkO_g1, dkO_k1, dkO_s1, dkO_g2, dkO_k2, dkO_s2, hoO_c, hoO_g0, hoO_k0, hoO_s0, hoO_g1, hoO_k1, hoO_s1, hoO_g2, hoO_k2, hoO_s2, hoO_g3, hoO_k3, hoO_g4, hoO_k4, hoO_g5, hoO_k5, hoO_g6, hoO_k6, hoO_g7, hoO_k7, hoO_g8, hoO_k8, hoO_g9, hoO_k9, hoO_s9, iup_s, iup_n, hp_up1, hp_upn, ne_eq, not_false_eq_true, sh_0, sh_1, sh_2, sh_3, sh_4, sh_5, sh_8, sh_15, sh_16, sh_24, Int.reducePow, Int.cast_ofNat_Int, w_of, wl_of, ltT, ltF, leT, leF, eqT, eqF, okF_0, okF_s, gF_0, gF_s, consC_o, sF_0, sF_s, clsO_o, inA_i, ldA_i, stA_i, inJ_l, ldJ_l, stJ_l, inR_r, ldR_r, stR_r, tgR_r, lenA_i, lenA_l, lenA_r, lenA_ex, nl_i, nl_o, nl_l, nl_n, wd_n, wd_i, wd_l, wd_o, fit_i, fit_l, fit_o, K_v, K_n, true_and, and_true, Nat.reduceAdd, Nat.reduceLeDiff, Nat.reduceEqDiff, Nat.reduceMul, Nat.reduceLT, reduceIte, true_or, or_true, cmp_lt, cmp_gt, cmp_eq, wb_0, b_01, cmp_lt', cmp_gt', cmp_eq', b_0, b_1, wb_1, Int.reduceSub, Int.reduceToNat, List.getD_cons_succ, List.getD_cons_zero, Int.reduceLE, Int.reduceLT, Int.reduceEq, Int.reduceNeg, Int.reduceAdd, Int.reduceMul, and_self, em_b, ne_eq, not_false_eq_true, not_true_eq_false]
    try rfl
  | succ r ih =>
    intro k h M dl dx kA sA hk hF hH hW hS hB
    have hp15 := p15 (k := k) (by omega)
    have hMl : M.length ≤ szC c := by obtain ⟨f, g, fl, fo, _, _, _, _, _, _, _, _, s9, _⟩ := hS; exact (rc_b hO.1 s9).1
    have h24 := szC_le hO.1
    obtain ⟨h1, M1, b1, b2, b3, b4, b5⟩ := Ro_hour (lev := k) (lw := lw) hO hn hn1 hn2 hn3 (by omega) (hfw k (by omega)) (hb k (by omega)) hW hF hH hS (by omega)
    have hS1 : RwS c h1 i dx dl dm sA kA n nd fw M1 (tK c sky lw s (k + 1)) (fwS c sky lw (k + 1) s) := by
      obtain ⟨f, g, fl, fo, s1, s2, s3, s4, s5, s6, s7, s8, s9, s10⟩ := b3
      exact ⟨f, g, fl, fo, s1, s2, s3, s4, s5, s6, s7, s8, rc_ext s9 (fun W => rfl) (fun z => fw_nx z), s10⟩
    obtain ⟨h', M', dl', dx', kA', sA', d1, d2, d3, d4, d5, d6, d7⟩ := ih (k + 1) h1 M1 dx dl sA kA (by omega) ⟨by rw [b1.1]; exact hF.1, hF.2⟩ b2 (RwW_s hW) hS1 (by
      show tK c sky lw s k (fun x => hsum (fitB c lw k) (fun _ => 1) (nx c sky x)) ≤ _
      rw [Int.pow_succ]
      omega)
    refine ⟨h', M', dl', dx', kA', sA', chx_t b1 (chx_w d1 (by intro t ht; simp at ht ⊢; omega)), d2, d3, ?_, d5, d6, fun d Q => ?_⟩
    · rcases d4 with ⟨z1, z2, z3, z4⟩ | ⟨z1, z2, z3, z4⟩
      · exact Or.inr ⟨z1, z2, z3, z4⟩
      · exact Or.inl ⟨z1, z2, z3, z4⟩
    · rw [← d7 d Q]
      have b5' := fun (Q : PQ) => b5 d Q
      have ek : (k : Int) + 1 = ((k + 1 : Nat) : Int) := by omega
      have h45 : hp h 45 = rwO i (vr kA) (vr sA) := by obtain ⟨f, g, fl, fo, s1, s2, _⟩ := hS; exact s2
      rw [e_83_80]
      simp (disch := omega) only [e_83_82, e_83_83, e_83_86, e_83_87, e_83_88, e_83_90, e_83_92, e_83_95, e_83_97, e_83_100, h45, b5', ek, true_and, rwO_c, rwO_g0, rwO_k0, rwO_g1, rwO_k1, rwO_s1, rwO_g2, rwO_k2, rwO_s2, rwO_g3, rwO_k3, rwO_g4, rwO_k4, rwO_s4, rwO_g5, rwO_k5, rwO_g6, rwO_k6, dkO_c, dkO_g0, dkO_k0, dkO_s0, dkO_g1, dkO_k1, dkO_s1, dkO_g2, dkO_k2, dkO_s2, hoO_c, hoO_g0, hoO_k0, hoO_s0, hoO_g1, hoO_k1, hoO_s1, hoO_g2, hoO_k2, hoO_s2, hoO_g3, hoO_k3, hoO_g4, hoO_k4, hoO_g5, hoO_k5, hoO_g6, hoO_k6, hoO_g7, hoO_k7, hoO_g8, hoO_k8, hoO_g9, hoO_k9, hoO_s9, iup_s, iup_n, hp_up1, hp_upn, ne_eq, not_false_eq_true, sh_0, sh_1, sh_2, sh_3, sh_4, sh_5, sh_8, sh_15, sh_16, sh_24, Int.reducePow, Int.cast_ofNat_Int, w_of, wl_of, ltT, ltF, leT, leF, eqT, eqF, okF_0, okF_s, gF_0, gF_s, consC_o, sF_0, sF_s, clsO_o, inA_i, ldA_i, stA_i, inJ_l, ldJ_l, stJ_l, inR_r, ldR_r, stR_r, tgR_r, lenA_i, lenA_l, lenA_r, lenA_ex, nl_i, nl_o, nl_l, nl_n, wd_n, wd_i, wd_l, wd_o, fit_i, fit_l, fit_o, K_v, K_n, true_and, and_true, Nat.reduceAdd, Nat.reduceLeDiff, Nat.reduceEqDiff, Nat.reduceMul, Nat.reduceLT, reduceIte, true_or, or_true, cmp_lt, cmp_gt, cmp_eq, wb_0, b_01, cmp_lt', cmp_gt', cmp_eq', b_0, b_1, wb_1, Int.reduceSub, Int.reduceToNat, List.getD_cons_succ, List.getD_cons_zero, Int.reduceLE, Int.reduceLT, Int.reduceEq, Int.reduceNeg, Int.reduceAdd, Int.reduceMul, and_self, em_b, ne_eq, not_false_eq_true, not_true_eq_false]
      try rfl
