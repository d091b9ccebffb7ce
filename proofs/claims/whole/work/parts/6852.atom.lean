/-! READING LAWS: atoms; all together -/
section jl
variable {b : List Int} {n l deep : Nat}
theorem prg_e {s s' : TS} {L : List Int} {kd : Int} (hk : kd ≠ 32) (h : prg n s s' L) : prg n s (exS b n kd s') L := by
  have := prg_t h (ex_prg (b := b) hk (prg_ok h))
  rwa [List.append_nil] at this
theorem ex_alR {s : TS} {kd : Int} (h : alR (exS b n kd s)) : alR s := by
  obtain ⟨q', e⟩ := h
  unfold exS at e
  by_cases z : isB b n s kd = true
  · obtain ⟨q, rfl, hk2⟩ := isB_t z
    exact ⟨q, rfl⟩
  · rw [if_neg z] at e
    exact absurd ⟨q', e⟩ rf_no
theorem fct_b {lf k : Int} (h : fctK lf k ≠ -1) : 0 ≤ fctK lf k ∧ fctK lf k < 7 := by
  unfold fctK at *
  repeat' split
  all_goals first | omega | (rename_i h1 h2 h3 h4 h5 h6 h7; exfalso; apply h; rw [if_neg h1, if_neg h2, if_neg h3, if_neg h4, if_neg h5, if_neg h6, if_neg h7])
theorem fct_k {k : Int} (hl : l < 2) (h : fctK (16 + (l : Int)) k ≠ -1) : k = 2 ∨ k = 4 ∨ k = 6 ∨ k = 7 ∨ k = 8 ∨ k = 9 ∨ k = 16 ∨ k = 17 := by
  unfold fctK at h
  by_cases e1 : k = 4; · omega
  by_cases e2 : k = 6; · omega
  by_cases e3 : k = 7; · omega
  by_cases e4 : k = 8; · omega
  by_cases e5 : k = 9; · omega
  by_cases e6 : k = 2; · omega
  by_cases e7 : k = 16 + (l : Int); · omega
  exfalso; apply h
  rw [if_neg e1, if_neg e2, if_neg e3, if_neg e4, if_neg e5, if_neg e6, if_neg e7]
theorem fct_tr {k : Int} (hl : l < 2) (h : fctK (16 + (l : Int)) k ≠ -1) : 1000 + fctR l k = trO l (1000 + fctK (16 + (l : Int)) k) := by
  obtain ⟨h1, h2⟩ := fct_b h
  unfold fctR trO
  generalize fctK (16 + (l : Int)) k = f at *
  by_cases e : f = 6
  · subst e
    rw [if_pos rfl, if_neg (by omega), if_pos (by omega)]
    omega
  · rw [if_neg e, if_pos (by omega)]
theorem fctR_n {k : Int} (h : fctK (16 + (l : Int)) k = -1) : fctR l k = -1 := by
  unfold fctR
  rw [h, if_neg (by omega)]
theorem J_if {FS GS FT GT K : Nat} {WS WT : List Int → Prop} (hnb : n ≤ b.length) (hb9 : b.length ≤ 900) (hl : l < 2) (hG : 8 ≤ GS) (hGT : GT ≤ GS) (hd6 : deep < 6) {q : Nat} (hqn : q ≤ n) (hk : tkK b n q = 12)
    (hsm : ∀ s, okq n s → JN b n l 73 [none, none] FS 184 [none] GS WS (deep + 1) s) (htr : ∀ s, okq n s → JN b n l 70 [none] FT 187 [] GT WT (deep + 1) s) (hW : ∀ L1 L2 L3, WT L1 → WS L2 → WS L3 → wfS K false (L1 ++ L2 ++ L3 ++ [1019])) : ∃ (s' : TS) (L : List Int), prg n (.inl q) s' L ∧ (alR s' → wfS K false L) ∧ (∀ FA, FS + 1 ≤ FA → FT + 1 ≤ FA → 8 ≤ FA → CSpec b n l 75 84 [some (vi deep), none] FA (.inl q) s' L) ∧ RSpec b n l 182 0 [some (vi deep)] (GS + 1) (.inl q) s' L := by
  have hlt := tkE_lt hqn (show tkK b n q ≠ 32 by omega)
  have hle := (tkE_le (b := b) hqn).2
  have h33 : tkK b n q ≠ 33 := by omega
  have h6 : ¬ deep = 6 := by omega
  have ed : (deep : Int) + 1 = ((deep + 1 : Nat) : Int) := by omega
  obtain ⟨s2, L2, p2, w2, cs2, rs2⟩ := htr (.inl (tkE b n q)) (fun z e => by cases e; exact hle)
  have p3 := prg_e (b := b) (kd := 13) (by omega) p2
  obtain ⟨s4, L4, p4, w4, cs4, rs4⟩ := hsm (exS b n 13 s2) (prg_ok p3)
  have p4' := prg_t p3 p4
  have p5 := prg_e (b := b) (kd := 14) (by omega) p4'
  obtain ⟨s6, L6, p6, w6, cs6, rs6⟩ := hsm (exS b n 14 s4) (prg_ok p5)
  have p6' := prg_t p5 p6
  have p7 := prg_e (b := b) (kd := 15) (by omega) p6'
  have hp7 : ∀ q7, exS b n 15 s6 = .inl q7 → tkE b n q + (L2 ++ L4 ++ L6).length ≤ q7 ∧ q7 ≤ n := fun q7 e => by
    obtain ⟨z, e1, e2, e3⟩ := p7.1 q7 e
    cases e1
    exact ⟨e2, e3⟩
  have pb : ∀ {z z' : TS} {L : List Int}, prg n z z' L → alR z' → alR z := fun p ⟨x, e⟩ => by obtain ⟨y, e1, -⟩ := p.1 x e; exact ⟨y, e1⟩
  refine ⟨exS b n 15 s6, L2 ++ L4 ++ L6 ++ [1019], ⟨fun q7 e => ⟨q, rfl, by have := hp7 q7 e; rw [List.length_append]; show q + ((L2 ++ L4 ++ L6).length + 1) ≤ q7; omega, (hp7 q7 e).2⟩, fun x e => by cases e⟩, fun z => ?_, fun FA f1 f2 f3 h i j A C hX hT hc hcd hC hj => ?_, fun h i A C m hX hT hr hcd hC hi => ?_⟩
  · have z6 := ex_alR z
    have z5 := pb p6 z6
    have z4 := ex_alR z5
    have z3 := pb p4 z4
    have z2 := ex_alR z3
    exact hW _ _ _ (w2 z2) (w4 z4) (w6 z6)
  · have hal : alC b n (.inl q) := ⟨q, rfl, h33⟩
    have hCq := hC q rfl
    have hC1 : ∀ z, (Sum.inl (tkE b n q) : TS) = .inl z → C.length ≤ z := fun z e => by cases e; omega
    rw [nrm_ok h33] at hc
    obtain ⟨i1, a1, a2, a3⟩ := C_deep (h := h) (j := j) (deep := deep) hX hT hnb (by omega) h33 hc
    rw [if_neg h6] at a1 a3
    obtain ⟨i2, j2, A2, b1, b2, b3, b4, b5, b6⟩ := cs2 h i1 j A C hX hT a1 ⟨hcd.1, fun _ => hcd.2 hal⟩ hC1 hj
    have hT2 := tapC_fr hT b5
    obtain ⟨i3, g1, g2, g3⟩ := C_ex (h := h) (j := j2) (A := A2) (kd := 13) hX hT2 hnb (by omega) (by omega) (by omega) (by omega) b1
    obtain ⟨i4, j4, A4, d1, d2, d3, d4, d5, d6⟩ := cs4 h i3 j2 A2 (C ++ L2) hX hT2 g1 (cd_exK (by omega) b2) (prg_C p3 hC1) (by rw [b4 17 (by decide)]; exact hj)
    have hT4 := tapC_fr hT2 d5
    obtain ⟨i5, k1, k2, k3⟩ := C_ex (h := h) (j := j4) (A := A4) (kd := 14) hX hT4 hnb (by omega) (by omega) (by omega) (by omega) d1
    obtain ⟨i6, j6, A6, m1, m2, m3, m4, m5, m6⟩ := cs6 h i5 j4 A4 (C ++ L2 ++ L4) hX hT4 k1 (cd_exK (by omega) d2) (by rw [List.append_assoc]; exact prg_C p5 hC1) (by rw [d4 17 (by decide), b4 17 (by decide)]; exact hj)
    have hT6 := tapC_fr hT4 m5
    obtain ⟨i7, o1, o2, o3⟩ := C_ex (h := h) (j := j6) (A := A6) (kd := 15) hX hT6 hnb (by omega) (by omega) (by omega) (by omega) m1
    obtain ⟨j8, A8, r1, r2, r3, r4⟩ := C_em (h := h) (i := i7) (o := 1019) (cd_exK (kd := 15) (by omega) m2) (fun z => by
      obtain ⟨q7, e⟩ := alC_R z
      have := hp7 q7 e
      simp only [List.length_append] at this ⊢
      omega)
    refine ⟨i7, j8, A8, o1, by simp only [List.append_assoc] at r1 ⊢; exact r1, frI_t a2 (frI_t b3 (frI_t g2 (frI_t d3 (frI_t k2 (frI_t m3 o2))))), frI_t b4 (frI_t d4 (frI_t m4 r2)), frA_t b5 (frA_t d5 (frA_t m5 r3)), fun d Q hd => ?_⟩
    obtain ⟨d', rfl⟩ : ∃ d', d = d' + 1 := ⟨d - 1, by omega⟩
    simp (disch := omega) only [e_75_84, e_75_85, e_75_86, e_75_89, e_75_92, e_75_93, e_75_94, e_75_95, e_75_96, e_75_99, e_75_100, e_75_103, e_75_105, e_75_108, e_75_109, e_75_110, e_75_111, e_75_112, e_75_115, e_75_116, e_75_119, e_75_121, e_75_124, e_75_125, e_75_126, e_75_127, e_75_128, e_75_131, e_75_132, e_75_135, e_75_137, e_75_140, e_75_141, e_75_144, e_75_147, e_75_192, a3, b6, g3, d6, k3, m6, o3, r4, ed, true_and, tkO_c, tkO_g0, tkO_k0, tkO_g1, tkO_k1, tkO_g2, tkO_k2, tkO_g3, tkO_k3, tkO_g4, tkO_k4, tkO_g5, tkO_k5, tkO_g6, tkO_k6, tkO_g7, tkO_k7, tkO_g8, tkO_k8, tkO_s1, tkO_s2, tkO_s3, tkO_s4, tkO_s5, tkO_s6, tkO_s7, tkO_s8, rdO_c, rdO_g0, rdO_k0, rdO_g1, rdO_k1, rdO_g2, rdO_k2, rdO_g3, rdO_k3, rdO_g4, rdO_k4, rdO_g5, rdO_k5, rdO_g6, rdO_k6, rdO_g7, rdO_k7, rdO_g8, rdO_k8, rdO_g9, rdO_k9, rdO_g10, rdO_k10, rdO_g11, rdO_k11, rdO_g12, rdO_k12, rdO_g13, rdO_k13, rdO_g14, rdO_k14, rdO_g15, rdO_k15, rdO_g16, rdO_k16, rdO_g17, rdO_k17, rdO_s2, rdO_s3, rdO_s4, rdO_s10, rdO_s11, rdO_s12, rdO_s13, rdO_s14, rdO_s15, rdO_s16, rdO_s17, rh_1, rh_2, rh_g11, rh_g12, rh_g13, rh_g14, rh_g15, rh_g16, rh_g17, rh_g18, rh_g19, rh_out, rh_u11, rh_u12, rh_u13, rh_u14, rh_u15, rh_u16, rh_u17, rh_u18, rh_u19, iup_s, iup_n, aup_s, aup_n, ne_eq, not_false_eq_true, sh_0, sh_1, sh_2, sh_3, sh_4, sh_5, sh_8, sh_15, sh_16, sh_24, Int.reducePow, Int.cast_ofNat_Int, w_of, wl_of, ltT, ltF, leT, leF, eqT, eqF, okF_0, okF_s, gF_0, gF_s, consC_o, sF_0, sF_s, clsO_o, inA_i, ldA_i, stA_i, inJ_l, ldJ_l, stJ_l, inR_r, ldR_r, stR_r, tgR_r, lenA_i, lenA_l, lenA_r, lenA_ex, nl_i, nl_o, nl_l, nl_n, wd_n, wd_i, wd_l, wd_o, fit_i, fit_l, fit_o, K_v, K_n, true_and, and_true, Nat.reduceAdd, Nat.reduceLeDiff, Nat.reduceEqDiff, Nat.reduceMul, Nat.reduceLT, reduceIte, true_or, or_true, cmp_lt, cmp_gt, cmp_eq, wb_0, b_01, cmp_lt', cmp_gt', cmp_eq', b_0, b_1, wb_1, Int.reduceSub, Int.reduceToNat, List.getD_cons_succ, List.getD_cons_zero, Int.reduceLE, Int.reduceLT, Int.reduceEq, Int.reduceNeg, Int.reduceAdd, Int.reduceMul, and_self, em_b, ne_eq, not_false_eq_true, not_true_eq_false]
    try rfl
  · have hCq := hC q rfl
    have hC1 : ∀ z, (Sum.inl (tkE b n q) : TS) = .inl z → C.length ≤ z := fun z e => by cases e; omega
    obtain ⟨i1, a1, a2, a3⟩ := R_gi (h := h) (A := A) (deep := deep) hX hT hnb (by omega) h33 hr
    rw [if_neg h6] at a1 a3
    obtain ⟨i2, A2, b1, b2, b3, b4, b5⟩ := rs2 h i1 A C m hX hT a1 (fun _ => hcd ⟨q, rfl⟩) hC1 (by rw [a2 15 (by decide)]; exact hi)
    have hT2 := tapM_fr hT b4
    obtain ⟨i3, i3', g1, g2, g3, g4, g5⟩ := R_exB (h := h) (A := A2) (kd := 13) hX hT2 hnb (by decide) b1
    rw [show rkK 13 = 13 from rfl] at g3
    have h15 : i3' 15 = (l : Int) := by rw [g2 15 (by decide), b3 15 (by decide), a2 15 (by decide)]; exact hi
    obtain ⟨i4, A4, d1, d2, d3, d4, d5⟩ := rs4 h i3' A2 (C ++ L2) m hX hT2 g1 (fun z => b2 (ex_alR z)) (prg_C p3 hC1) h15
    have hT4 := tapM_fr hT2 d4
    obtain ⟨i5, i5', k1, k2, k3, k4, k5⟩ := R_exB (h := h) (A := A4) (kd := 14) hX hT4 hnb (by decide) d1
    rw [show rkK 14 = 14 from rfl] at k3
    have h15' : i5' 15 = (l : Int) := by rw [k2 15 (by decide), d3 15 (by decide)]; exact h15
    obtain ⟨i6, A6, m1, m2, m3, m4, m5⟩ := rs6 h i5' A4 (C ++ L2 ++ L4) m hX hT4 k1 (fun z => d2 (ex_alR z)) (by rw [List.append_assoc]; exact prg_C p5 hC1) h15'
    have hT6 := tapM_fr hT4 m4
    obtain ⟨i7, i7', o1, o2, o3, o4, o5⟩ := R_exB (h := h) (A := A6) (kd := 15) hX hT6 hnb (by decide) m1
    rw [show rkK 15 = 15 from rfl] at o3
    obtain ⟨A8, r1, r2, r3⟩ := R_co (h := h) (m := m) (l := l) (C := C ++ L2 ++ L4 ++ L6) (o := 1019) (v := 3009) (by rfl) o1 (fun z => ⟨m2 (ex_alR z), by
      obtain ⟨q7, e⟩ := z
      have := hp7 q7 e
      simp only [List.length_append] at this ⊢
      omega⟩)
    refine ⟨i7', A8, o1, fun z => by have := r1 z; simp only [List.append_assoc] at this ⊢; exact this, frI_t a2 (frI_t b3 (frI_t g2 (frI_t d3 (frI_t k2 (frI_t m3 o2))))), frF_t b4 (frF_t d4 (frF_t m4 r2)), fun d Q hd => ?_⟩
    obtain ⟨d', rfl⟩ : ∃ d', d = d' + 1 := ⟨d - 1, by omega⟩
    have sg1 : WP (d' + 1) 182 0 [some (vr 71), some (vi deep)] [] (mdH h i A) Q = WP (d' + 1) 182 30 [some (vr 71), some (vi deep)] [] (mdH h i3' A2) Q := by
      by_cases z : isB b n s2 13 = true
      · rw [g4 z]
        rw [if_pos z] at g3
        simp (disch := omega) only [e_182_0, e_182_1, e_182_2, e_182_5, e_182_8, e_182_9, e_182_10, e_182_11, e_182_12, e_182_13, e_182_16, e_182_17, e_182_19, e_182_22, a3, b5, g3, ed, true_and, mdO_c, mdO_g0, mdO_k0, mdO_g1, mdO_k1, mdO_g2, mdO_k2, mdO_g3, mdO_k3, mdO_g4, mdO_k4, mdO_g5, mdO_k5, mdO_g6, mdO_k6, mdO_g7, mdO_k7, mdO_g8, mdO_k8, mdO_g9, mdO_k9, mdO_g10, mdO_k10, mdO_g11, mdO_k11, mdO_g12, mdO_k12, mdO_g13, mdO_k13, mdO_g14, mdO_k14, mdO_g15, mdO_k15, mdO_g16, mdO_k16, mdO_g17, mdO_k17, mdO_g18, mdO_k18, mdO_g19, mdO_k19, mdO_g20, mdO_k20, mdO_g21, mdO_k21, mdO_g22, mdO_k22, mdO_g23, mdO_k23, mdO_g24, mdO_k24, mdO_g25, mdO_k25, mdO_g26, mdO_k26, mdO_g27, mdO_k27, mdO_g28, mdO_k28, mdO_g29, mdO_k29, mdO_g30, mdO_k30, mdO_g31, mdO_k31, mdO_g32, mdO_k32, mdO_g33, mdO_k33, mdO_g34, mdO_k34, mdO_g35, mdO_k35, mdO_s0, mdO_s5, mdO_s6, mdO_s7, mdO_s8, mdO_s9, mdO_s10, mdO_s11, mdO_s12, mdO_s13, mdO_s14, mdO_s15, mdO_s19, mdO_s20, mdO_s25, mdO_s26, mdO_s31, mdO_s32, md_1, md_2, md_g71, md_g72, md_g73, md_g74, md_g75, md_g76, md_g77, md_g78, md_g79, md_g80, md_g81, md_g82, md_g83, md_g84, md_g85, md_g86, md_g87, md_g88, md_g89, md_out, md_u71, md_u72, md_u73, md_u74, md_u75, md_u76, md_u77, md_u78, md_u79, md_u80, md_u81, md_u82, md_u83, md_u84, md_u85, md_u86, md_u87, md_u88, md_u89, md_uo, iup_s, iup_n, aup_s, aup_n, ne_eq, not_false_eq_true, sh_0, sh_1, sh_2, sh_3, sh_4, sh_5, sh_8, sh_15, sh_16, sh_24, Int.reducePow, Int.cast_ofNat_Int, w_of, wl_of, ltT, ltF, leT, leF, eqT, eqF, okF_0, okF_s, gF_0, gF_s, consC_o, sF_0, sF_s, clsO_o, inA_i, ldA_i, stA_i, inJ_l, ldJ_l, stJ_l, inR_r, ldR_r, stR_r, tgR_r, lenA_i, lenA_l, lenA_r, lenA_ex, nl_i, nl_o, nl_l, nl_n, wd_n, wd_i, wd_l, wd_o, fit_i, fit_l, fit_o, K_v, K_n, true_and, and_true, Nat.reduceAdd, Nat.reduceLeDiff, Nat.reduceEqDiff, Nat.reduceMul, Nat.reduceLT, reduceIte, true_or, or_true, cmp_lt, cmp_gt, cmp_eq, wb_0, b_01, cmp_lt', cmp_gt', cmp_eq', b_0, b_1, wb_1, Int.reduceSub, Int.reduceToNat, List.getD_cons_succ, List.getD_cons_zero, Int.reduceLE, Int.reduceLT, Int.reduceEq, Int.reduceNeg, Int.reduceAdd, Int.reduceMul, and_self, em_b, ne_eq, not_false_eq_true, not_true_eq_false]
        try rfl
      · rw [if_neg z] at g3
        have g5' := g5 z
        simp (disch := omega) only [e_182_0, e_182_1, e_182_2, e_182_5, e_182_8, e_182_9, e_182_10, e_182_11, e_182_12, e_182_13, e_182_16, e_182_17, e_182_19, e_182_22, e_182_25, e_182_26, e_182_27, a3, b5, g3, g5', ed, true_and, mdO_c, mdO_g0, mdO_k0, mdO_g1, mdO_k1, mdO_g2, mdO_k2, mdO_g3, mdO_k3, mdO_g4, mdO_k4, mdO_g5, mdO_k5, mdO_g6, mdO_k6, mdO_g7, mdO_k7, mdO_g8, mdO_k8, mdO_g9, mdO_k9, mdO_g10, mdO_k10, mdO_g11, mdO_k11, mdO_g12, mdO_k12, mdO_g13, mdO_k13, mdO_g14, mdO_k14, mdO_g15, mdO_k15, mdO_g16, mdO_k16, mdO_g17, mdO_k17, mdO_g18, mdO_k18, mdO_g19, mdO_k19, mdO_g20, mdO_k20, mdO_g21, mdO_k21, mdO_g22, mdO_k22, mdO_g23, mdO_k23, mdO_g24, mdO_k24, mdO_g25, mdO_k25, mdO_g26, mdO_k26, mdO_g27, mdO_k27, mdO_g28, mdO_k28, mdO_g29, mdO_k29, mdO_g30, mdO_k30, mdO_g31, mdO_k31, mdO_g32, mdO_k32, mdO_g33, mdO_k33, mdO_g34, mdO_k34, mdO_g35, mdO_k35, mdO_s0, mdO_s5, mdO_s6, mdO_s7, mdO_s8, mdO_s9, mdO_s10, mdO_s11, mdO_s12, mdO_s13, mdO_s14, mdO_s15, mdO_s19, mdO_s20, mdO_s25, mdO_s26, mdO_s31, mdO_s32, md_1, md_2, md_g71, md_g72, md_g73, md_g74, md_g75, md_g76, md_g77, md_g78, md_g79, md_g80, md_g81, md_g82, md_g83, md_g84, md_g85, md_g86, md_g87, md_g88, md_g89, md_out, md_u71, md_u72, md_u73, md_u74, md_u75, md_u76, md_u77, md_u78, md_u79, md_u80, md_u81, md_u82, md_u83, md_u84, md_u85, md_u86, md_u87, md_u88, md_u89, md_uo, iup_s, iup_n, aup_s, aup_n, ne_eq, not_false_eq_true, sh_0, sh_1, sh_2, sh_3, sh_4, sh_5, sh_8, sh_15, sh_16, sh_24, Int.reducePow, Int.cast_ofNat_Int, w_of, wl_of, ltT, ltF, leT, leF, eqT, eqF, okF_0, okF_s, gF_0, gF_s, consC_o, sF_0, sF_s, clsO_o, inA_i, ldA_i, stA_i, inJ_l, ldJ_l, stJ_l, inR_r, ldR_r, stR_r, tgR_r, lenA_i, lenA_l, lenA_r, lenA_ex, nl_i, nl_o, nl_l, nl_n, wd_n, wd_i, wd_l, wd_o, fit_i, fit_l, fit_o, K_v, K_n, true_and, and_true, Nat.reduceAdd, Nat.reduceLeDiff, Nat.reduceEqDiff, Nat.reduceMul, Nat.reduceLT, reduceIte, true_or, or_true, cmp_lt, cmp_gt, cmp_eq, wb_0, b_01, cmp_lt', cmp_gt', cmp_eq', b_0, b_1, wb_1, Int.reduceSub, Int.reduceToNat, List.getD_cons_succ, List.getD_cons_zero, Int.reduceLE, Int.reduceLT, Int.reduceEq, Int.reduceNeg, Int.reduceAdd, Int.reduceMul, and_self, em_b, ne_eq, not_false_eq_true, not_true_eq_false]
        try rfl
    have sg2 : WP (d' + 1) 182 30 [some (vr 71), some (vi deep)] [] (mdH h i3' A2) Q = WP (d' + 1) 182 51 [some (vr 71), some (vi deep)] [] (mdH h i5' A4) Q := by
      by_cases z : isB b n s4 14 = true
      · rw [k4 z]
        rw [if_pos z] at k3
        simp (disch := omega) only [e_182_30, e_182_31, e_182_32, e_182_33, e_182_34, e_182_37, e_182_38, e_182_40, e_182_43, d5, k3, ed, true_and, mdO_c, mdO_g0, mdO_k0, mdO_g1, mdO_k1, mdO_g2, mdO_k2, mdO_g3, mdO_k3, mdO_g4, mdO_k4, mdO_g5, mdO_k5, mdO_g6, mdO_k6, mdO_g7, mdO_k7, mdO_g8, mdO_k8, mdO_g9, mdO_k9, mdO_g10, mdO_k10, mdO_g11, mdO_k11, mdO_g12, mdO_k12, mdO_g13, mdO_k13, mdO_g14, mdO_k14, mdO_g15, mdO_k15, mdO_g16, mdO_k16, mdO_g17, mdO_k17, mdO_g18, mdO_k18, mdO_g19, mdO_k19, mdO_g20, mdO_k20, mdO_g21, mdO_k21, mdO_g22, mdO_k22, mdO_g23, mdO_k23, mdO_g24, mdO_k24, mdO_g25, mdO_k25, mdO_g26, mdO_k26, mdO_g27, mdO_k27, mdO_g28, mdO_k28, mdO_g29, mdO_k29, mdO_g30, mdO_k30, mdO_g31, mdO_k31, mdO_g32, mdO_k32, mdO_g33, mdO_k33, mdO_g34, mdO_k34, mdO_g35, mdO_k35, mdO_s0, mdO_s5, mdO_s6, mdO_s7, mdO_s8, mdO_s9, mdO_s10, mdO_s11, mdO_s12, mdO_s13, mdO_s14, mdO_s15, mdO_s19, mdO_s20, mdO_s25, mdO_s26, mdO_s31, mdO_s32, md_1, md_2, md_g71, md_g72, md_g73, md_g74, md_g75, md_g76, md_g77, md_g78, md_g79, md_g80, md_g81, md_g82, md_g83, md_g84, md_g85, md_g86, md_g87, md_g88, md_g89, md_out, md_u71, md_u72, md_u73, md_u74, md_u75, md_u76, md_u77, md_u78, md_u79, md_u80, md_u81, md_u82, md_u83, md_u84, md_u85, md_u86, md_u87, md_u88, md_u89, md_uo, iup_s, iup_n, aup_s, aup_n, ne_eq, not_false_eq_true, sh_0, sh_1, sh_2, sh_3, sh_4, sh_5, sh_8, sh_15, sh_16, sh_24, Int.reducePow, Int.cast_ofNat_Int, w_of, wl_of, ltT, ltF, leT, leF, eqT, eqF, okF_0, okF_s, gF_0, gF_s, consC_o, sF_0, sF_s, clsO_o, inA_i, ldA_i, stA_i, inJ_l, ldJ_l, stJ_l, inR_r, ldR_r, stR_r, tgR_r, lenA_i, lenA_l, lenA_r, lenA_ex, nl_i, nl_o, nl_l, nl_n, wd_n, wd_i, wd_l, wd_o, fit_i, fit_l, fit_o, K_v, K_n, true_and, and_true, Nat.reduceAdd, Nat.reduceLeDiff, Nat.reduceEqDiff, Nat.reduceMul, Nat.reduceLT, reduceIte, true_or, or_true, cmp_lt, cmp_gt, cmp_eq, wb_0, b_01, cmp_lt', cmp_gt', cmp_eq', b_0, b_1, wb_1, Int.reduceSub, Int.reduceToNat, List.getD_cons_succ, List.getD_cons_zero, Int.reduceLE, Int.reduceLT, Int.reduceEq, Int.reduceNeg, Int.reduceAdd, Int.reduceMul, and_self, em_b, ne_eq, not_false_eq_true, not_true_eq_false]
        try rfl
      · rw [if_neg z] at k3
        have k5' := k5 z
        simp (disch := omega) only [e_182_30, e_182_31, e_182_32, e_182_33, e_182_34, e_182_37, e_182_38, e_182_40, e_182_43, e_182_46, e_182_47, e_182_48, d5, k3, k5', ed, true_and, mdO_c, mdO_g0, mdO_k0, mdO_g1, mdO_k1, mdO_g2, mdO_k2, mdO_g3, mdO_k3, mdO_g4, mdO_k4, mdO_g5, mdO_k5, mdO_g6, mdO_k6, mdO_g7, mdO_k7, mdO_g8, mdO_k8, mdO_g9, mdO_k9, mdO_g10, mdO_k10, mdO_g11, mdO_k11, mdO_g12, mdO_k12, mdO_g13, mdO_k13, mdO_g14, mdO_k14, mdO_g15, mdO_k15, mdO_g16, mdO_k16, mdO_g17, mdO_k17, mdO_g18, mdO_k18, mdO_g19, mdO_k19, mdO_g20, mdO_k20, mdO_g21, mdO_k21, mdO_g22, mdO_k22, mdO_g23, mdO_k23, mdO_g24, mdO_k24, mdO_g25, mdO_k25, mdO_g26, mdO_k26, mdO_g27, mdO_k27, mdO_g28, mdO_k28, mdO_g29, mdO_k29, mdO_g30, mdO_k30, mdO_g31, mdO_k31, mdO_g32, mdO_k32, mdO_g33, mdO_k33, mdO_g34, mdO_k34, mdO_g35, mdO_k35, mdO_s0, mdO_s5, mdO_s6, mdO_s7, mdO_s8, mdO_s9, mdO_s10, mdO_s11, mdO_s12, mdO_s13, mdO_s14, mdO_s15, mdO_s19, mdO_s20, mdO_s25, mdO_s26, mdO_s31, mdO_s32, md_1, md_2, md_g71, md_g72, md_g73, md_g74, md_g75, md_g76, md_g77, md_g78, md_g79, md_g80, md_g81, md_g82, md_g83, md_g84, md_g85, md_g86, md_g87, md_g88, md_g89, md_out, md_u71, md_u72, md_u73, md_u74, md_u75, md_u76, md_u77, md_u78, md_u79, md_u80, md_u81, md_u82, md_u83, md_u84, md_u85, md_u86, md_u87, md_u88, md_u89, md_uo, iup_s, iup_n, aup_s, aup_n, ne_eq, not_false_eq_true, sh_0, sh_1, sh_2, sh_3, sh_4, sh_5, sh_8, sh_15, sh_16, sh_24, Int.reducePow, Int.cast_ofNat_Int, w_of, wl_of, ltT, ltF, leT, leF, eqT, eqF, okF_0, okF_s, gF_0, gF_s, consC_o, sF_0, sF_s, clsO_o, inA_i, ldA_i, stA_i, inJ_l, ldJ_l, stJ_l, inR_r, ldR_r, stR_r, tgR_r, lenA_i, lenA_l, lenA_r, lenA_ex, nl_i, nl_o, nl_l, nl_n, wd_n, wd_i, wd_l, wd_o, fit_i, fit_l, fit_o, K_v, K_n, true_and, and_true, Nat.reduceAdd, Nat.reduceLeDiff, Nat.reduceEqDiff, Nat.reduceMul, Nat.reduceLT, reduceIte, true_or, or_true, cmp_lt, cmp_gt, cmp_eq, wb_0, b_01, cmp_lt', cmp_gt', cmp_eq', b_0, b_1, wb_1, Int.reduceSub, Int.reduceToNat, List.getD_cons_succ, List.getD_cons_zero, Int.reduceLE, Int.reduceLT, Int.reduceEq, Int.reduceNeg, Int.reduceAdd, Int.reduceMul, and_self, em_b, ne_eq, not_false_eq_true, not_true_eq_false]
        try rfl
    have sg3 : WP (d' + 1) 182 51 [some (vr 71), some (vi deep)] [] (mdH h i5' A4) Q = WP (d' + 1) 182 72 [some (vr 71), some (vi deep)] [] (mdH h i7' A6) Q := by
      by_cases z : isB b n s6 15 = true
      · rw [o4 z]
        rw [if_pos z] at o3
        simp (disch := omega) only [e_182_51, e_182_52, e_182_53, e_182_54, e_182_55, e_182_58, e_182_59, e_182_61, e_182_64, m5, o3, ed, true_and, mdO_c, mdO_g0, mdO_k0, mdO_g1, mdO_k1, mdO_g2, mdO_k2, mdO_g3, mdO_k3, mdO_g4, mdO_k4, mdO_g5, mdO_k5, mdO_g6, mdO_k6, mdO_g7, mdO_k7, mdO_g8, mdO_k8, mdO_g9, mdO_k9, mdO_g10, mdO_k10, mdO_g11, mdO_k11, mdO_g12, mdO_k12, mdO_g13, mdO_k13, mdO_g14, mdO_k14, mdO_g15, mdO_k15, mdO_g16, mdO_k16, mdO_g17, mdO_k17, mdO_g18, mdO_k18, mdO_g19, mdO_k19, mdO_g20, mdO_k20, mdO_g21, mdO_k21, mdO_g22, mdO_k22, mdO_g23, mdO_k23, mdO_g24, mdO_k24, mdO_g25, mdO_k25, mdO_g26, mdO_k26, mdO_g27, mdO_k27, mdO_g28, mdO_k28, mdO_g29, mdO_k29, mdO_g30, mdO_k30, mdO_g31, mdO_k31, mdO_g32, mdO_k32, mdO_g33, mdO_k33, mdO_g34, mdO_k34, mdO_g35, mdO_k35, mdO_s0, mdO_s5, mdO_s6, mdO_s7, mdO_s8, mdO_s9, mdO_s10, mdO_s11, mdO_s12, mdO_s13, mdO_s14, mdO_s15, mdO_s19, mdO_s20, mdO_s25, mdO_s26, mdO_s31, mdO_s32, md_1, md_2, md_g71, md_g72, md_g73, md_g74, md_g75, md_g76, md_g77, md_g78, md_g79, md_g80, md_g81, md_g82, md_g83, md_g84, md_g85, md_g86, md_g87, md_g88, md_g89, md_out, md_u71, md_u72, md_u73, md_u74, md_u75, md_u76, md_u77, md_u78, md_u79, md_u80, md_u81, md_u82, md_u83, md_u84, md_u85, md_u86, md_u87, md_u88, md_u89, md_uo, iup_s, iup_n, aup_s, aup_n, ne_eq, not_false_eq_true, sh_0, sh_1, sh_2, sh_3, sh_4, sh_5, sh_8, sh_15, sh_16, sh_24, Int.reducePow, Int.cast_ofNat_Int, w_of, wl_of, ltT, ltF, leT, leF, eqT, eqF, okF_0, okF_s, gF_0, gF_s, consC_o, sF_0, sF_s, clsO_o, inA_i, ldA_i, stA_i, inJ_l, ldJ_l, stJ_l, inR_r, ldR_r, stR_r, tgR_r, lenA_i, lenA_l, lenA_r, lenA_ex, nl_i, nl_o, nl_l, nl_n, wd_n, wd_i, wd_l, wd_o, fit_i, fit_l, fit_o, K_v, K_n, true_and, and_true, Nat.reduceAdd, Nat.reduceLeDiff, Nat.reduceEqDiff, Nat.reduceMul, Nat.reduceLT, reduceIte, true_or, or_true, cmp_lt, cmp_gt, cmp_eq, wb_0, b_01, cmp_lt', cmp_gt', cmp_eq', b_0, b_1, wb_1, Int.reduceSub, Int.reduceToNat, List.getD_cons_succ, List.getD_cons_zero, Int.reduceLE, Int.reduceLT, Int.reduceEq, Int.reduceNeg, Int.reduceAdd, Int.reduceMul, and_self, em_b, ne_eq, not_false_eq_true, not_true_eq_false]
        try rfl
      · rw [if_neg z] at o3
        have o5' := o5 z
        simp (disch := omega) only [e_182_51, e_182_52, e_182_53, e_182_54, e_182_55, e_182_58, e_182_59, e_182_61, e_182_64, e_182_67, e_182_68, e_182_69, m5, o3, o5', ed, true_and, mdO_c, mdO_g0, mdO_k0, mdO_g1, mdO_k1, mdO_g2, mdO_k2, mdO_g3, mdO_k3, mdO_g4, mdO_k4, mdO_g5, mdO_k5, mdO_g6, mdO_k6, mdO_g7, mdO_k7, mdO_g8, mdO_k8, mdO_g9, mdO_k9, mdO_g10, mdO_k10, mdO_g11, mdO_k11, mdO_g12, mdO_k12, mdO_g13, mdO_k13, mdO_g14, mdO_k14, mdO_g15, mdO_k15, mdO_g16, mdO_k16, mdO_g17, mdO_k17, mdO_g18, mdO_k18, mdO_g19, mdO_k19, mdO_g20, mdO_k20, mdO_g21, mdO_k21, mdO_g22, mdO_k22, mdO_g23, mdO_k23, mdO_g24, mdO_k24, mdO_g25, mdO_k25, mdO_g26, mdO_k26, mdO_g27, mdO_k27, mdO_g28, mdO_k28, mdO_g29, mdO_k29, mdO_g30, mdO_k30, mdO_g31, mdO_k31, mdO_g32, mdO_k32, mdO_g33, mdO_k33, mdO_g34, mdO_k34, mdO_g35, mdO_k35, mdO_s0, mdO_s5, mdO_s6, mdO_s7, mdO_s8, mdO_s9, mdO_s10, mdO_s11, mdO_s12, mdO_s13, mdO_s14, mdO_s15, mdO_s19, mdO_s20, mdO_s25, mdO_s26, mdO_s31, mdO_s32, md_1, md_2, md_g71, md_g72, md_g73, md_g74, md_g75, md_g76, md_g77, md_g78, md_g79, md_g80, md_g81, md_g82, md_g83, md_g84, md_g85, md_g86, md_g87, md_g88, md_g89, md_out, md_u71, md_u72, md_u73, md_u74, md_u75, md_u76, md_u77, md_u78, md_u79, md_u80, md_u81, md_u82, md_u83, md_u84, md_u85, md_u86, md_u87, md_u88, md_u89, md_uo, iup_s, iup_n, aup_s, aup_n, ne_eq, not_false_eq_true, sh_0, sh_1, sh_2, sh_3, sh_4, sh_5, sh_8, sh_15, sh_16, sh_24, Int.reducePow, Int.cast_ofNat_Int, w_of, wl_of, ltT, ltF, leT, leF, eqT, eqF, okF_0, okF_s, gF_0, gF_s, consC_o, sF_0, sF_s, clsO_o, inA_i, ldA_i, stA_i, inJ_l, ldJ_l, stJ_l, inR_r, ldR_r, stR_r, tgR_r, lenA_i, lenA_l, lenA_r, lenA_ex, nl_i, nl_o, nl_l, nl_n, wd_n, wd_i, wd_l, wd_o, fit_i, fit_l, fit_o, K_v, K_n, true_and, and_true, Nat.reduceAdd, Nat.reduceLeDiff, Nat.reduceEqDiff, Nat.reduceMul, Nat.reduceLT, reduceIte, true_or, or_true, cmp_lt, cmp_gt, cmp_eq, wb_0, b_01, cmp_lt', cmp_gt', cmp_eq', b_0, b_1, wb_1, Int.reduceSub, Int.reduceToNat, List.getD_cons_succ, List.getD_cons_zero, Int.reduceLE, Int.reduceLT, Int.reduceEq, Int.reduceNeg, Int.reduceAdd, Int.reduceMul, and_self, em_b, ne_eq, not_false_eq_true, not_true_eq_false]
        try rfl
    rw [sg1, sg2, sg3]
    simp (disch := omega) only [e_182_72, e_182_73, e_182_76, e_182_79, r3, true_and, mdO_c, mdO_g0, mdO_k0, mdO_g1, mdO_k1, mdO_g2, mdO_k2, mdO_g3, mdO_k3, mdO_g4, mdO_k4, mdO_g5, mdO_k5, mdO_g6, mdO_k6, mdO_g7, mdO_k7, mdO_g8, mdO_k8, mdO_g9, mdO_k9, mdO_g10, mdO_k10, mdO_g11, mdO_k11, mdO_g12, mdO_k12, mdO_g13, mdO_k13, mdO_g14, mdO_k14, mdO_g15, mdO_k15, mdO_g16, mdO_k16, mdO_g17, mdO_k17, mdO_g18, mdO_k18, mdO_g19, mdO_k19, mdO_g20, mdO_k20, mdO_g21, mdO_k21, mdO_g22, mdO_k22, mdO_g23, mdO_k23, mdO_g24, mdO_k24, mdO_g25, mdO_k25, mdO_g26, mdO_k26, mdO_g27, mdO_k27, mdO_g28, mdO_k28, mdO_g29, mdO_k29, mdO_g30, mdO_k30, mdO_g31, mdO_k31, mdO_g32, mdO_k32, mdO_g33, mdO_k33, mdO_g34, mdO_k34, mdO_g35, mdO_k35, mdO_s0, mdO_s5, mdO_s6, mdO_s7, mdO_s8, mdO_s9, mdO_s10, mdO_s11, mdO_s12, mdO_s13, mdO_s14, mdO_s15, mdO_s19, mdO_s20, mdO_s25, mdO_s26, mdO_s31, mdO_s32, md_1, md_2, md_g71, md_g72, md_g73, md_g74, md_g75, md_g76, md_g77, md_g78, md_g79, md_g80, md_g81, md_g82, md_g83, md_g84, md_g85, md_g86, md_g87, md_g88, md_g89, md_out, md_u71, md_u72, md_u73, md_u74, md_u75, md_u76, md_u77, md_u78, md_u79, md_u80, md_u81, md_u82, md_u83, md_u84, md_u85, md_u86, md_u87, md_u88, md_u89, md_uo, iup_s, iup_n, aup_s, aup_n, ne_eq, not_false_eq_true, sh_0, sh_1, sh_2, sh_3, sh_4, sh_5, sh_8, sh_15, sh_16, sh_24, Int.reducePow, Int.cast_ofNat_Int, w_of, wl_of, ltT, ltF, leT, leF, eqT, eqF, okF_0, okF_s, gF_0, gF_s, consC_o, sF_0, sF_s, clsO_o, inA_i, ldA_i, stA_i, inJ_l, ldJ_l, stJ_l, inR_r, ldR_r, stR_r, tgR_r, lenA_i, lenA_l, lenA_r, lenA_ex, nl_i, nl_o, nl_l, nl_n, wd_n, wd_i, wd_l, wd_o, fit_i, fit_l, fit_o, K_v, K_n, true_and, and_true, Nat.reduceAdd, Nat.reduceLeDiff, Nat.reduceEqDiff, Nat.reduceMul, Nat.reduceLT, reduceIte, true_or, or_true, cmp_lt, cmp_gt, cmp_eq, wb_0, b_01, cmp_lt', cmp_gt', cmp_eq', b_0, b_1, wb_1, Int.reduceSub, Int.reduceToNat, List.getD_cons_succ, List.getD_cons_zero, Int.reduceLE, Int.reduceLT, Int.reduceEq, Int.reduceNeg, Int.reduceAdd, Int.reduceMul, and_self, em_b, ne_eq, not_false_eq_true, not_true_eq_false]
    try rfl
end jl
