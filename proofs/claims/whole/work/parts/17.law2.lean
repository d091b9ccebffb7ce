/-- a law that can be reckoned to its end -/
def goodL (t : Bool) (o : List Int) : Prop := ∀ fx : Nat → Int, (∀ k, k < 7 → bnd (fx k)) → ∃ v, evO fx o [] [v] ∧ (t = true → bit01 v)
noncomputable def lawV (t : Bool) (o : List Int) (fx : Nat → Int) : Int := Classical.epsilon (fun v => evO fx o [] [v] ∧ (t = true → bit01 v))
theorem lawV_spec {t : Bool} {o : List Int} {fx : Nat → Int} (hg : goodL t o) (hf : ∀ k, k < 7 → bnd (fx k)) : evO fx o [] [lawV t o fx] ∧ (t = true → bit01 (lawV t o fx)) := Classical.epsilon_spec (hg fx hf)
theorem evO_b {fx : Nat → Int} (hf : ∀ k, k < 7 → bnd (fx k)) : ∀ {o st st' : List Int}, evO fx o st st' → bndL st → bndL st'
  | [], st, st', h, hb => by cases h; exact hb
  | o :: r, st, st', h, hb => by
    obtain ⟨m, h1, h2⟩ := h
    exact evO_b hf h2 (stepO_b hf h1 hb)
theorem lawV_b {t : Bool} {o : List Int} {fx : Nat → Int} (hg : goodL t o) (hf : ∀ k, k < 7 → bnd (fx k)) : bnd (lawV t o fx) :=
  evO_b hf (lawV_spec hg hf).1 (fun x hx => by cases hx) _ (List.mem_singleton.mpr rfl)
def okC (c : KC) : Prop := okK c ∧ (∀ k, kHgt c k ≤ 9) ∧ (∀ k, kAge c k ≤ 9) ∧ (∀ k, kWay c k < 32) ∧ kSky c ≤ 9 ∧ okS c (kFst c) ∧ (∀ o, kTir c = some o → goodL false o) ∧ (∀ o, kMay c = some o → goodL true o) ∧ kLines c ≤ 900 ∧ (∀ k, kWay c k / 2 ^ k % 2 = 0) ∧ (∀ k j, kP c ≤ j → kWay c k / 2 ^ j % 2 = 0)
def fx7 (x0 x1 x2 x3 x4 x5 x6 : Int) : Nat → Int
  | 0 => x0
  | 1 => x1
  | 2 => x2
  | 3 => x3
  | 4 => x4
  | 5 => x5
  | _ => x6
def outH (ca : Nat) : Prop := ca + 6 < 27 ∨ 33 < ca
theorem j_tell_lp {ca n : Nat} {h : PH} {i : Nat → Int} {fx : Nat → Int} {fc : Int → Int} {fs : List PV} {v fr : Int} {to : Nat} (hca : outH ca) (hcc : ∃ p0 p1 p2 p3 p4 p5 p6 r, fs = p0 :: p1 :: p2 :: p3 :: p4 :: p5 :: p6 :: vr (ca + 4) :: r) (hA : hp h ca = oC 2 fs) (h4 : hp h (ca + 4) = aI 0 n fc) (hn : n ≤ 900) (hto : to ≤ n) (hfb : ∀ k, k < 7 → bnd (fx k)) :
    ∀ (o : List Int) (pos : Nat) (st : List Int) (A : Nat → Int → Int) (l5 : Option PV), pos + o.length = to → (∀ j, j < o.length → fc ((pos + j : Nat) : Int) = o.getD j 0) → stk (A 31) st → bndL st → (∀ k : Nat, k < 7 → A 30 k = fx k) → evO fx o st [v] →
    ∃ g, ∀ d Q, WP (d + 3) 46 5 [some (vr 27), some (vi fr), some (vi to), some (vi st.length), some (vi pos), l5] [] (hoH h ca i A) Q = Q (some (vi v)) (hoH h ca i (aup A 31 g)) := by
  obtain ⟨p0, p1, p2, p3, p4, p5, p6, r0, rfl⟩ := hcc
  unfold outH at hca
  intro o
  induction o with
  | nil =>
    intro pos st A l5 hp hc hk hb hfx hev
    cases hev
    refine ⟨A 31, fun d Q => ?_⟩
    have hp' : pos = to := hp
    have hv : A 31 0 = v := hk.1
    rw [e_46_5]
    simp (disch := omega) only [e_46_7, e_46_8, e_46_218, e_46_219, e_46_222, e_46_223, e_46_224, hp', hv, aup_id, hoO_c, hoO_g0, hoO_k0, hoO_g1, hoO_k1, hoO_g2, hoO_k2, hoO_g3, hoO_k3, hoO_g4, hoO_k4, hoO_g5, hoO_k5, hoO_g6, hoO_k6, hoO_g7, hoO_k7, hoO_g8, hoO_k8, hoO_g9, hoO_k9, hoO_s0, hoO_s1, hoO_s2, hoO_s9, ho_1, ho_2, ho_g27, ho_g28, ho_g29, ho_g30, ho_g31, ho_g32, ho_g33, ho_out, ho_u27, ho_u28, ho_u29, ho_u30, ho_u31, ho_u32, ho_u33, ho_uo, iup_s, iup_n, aup_s, aup_n, ne_eq, not_false_eq_true, sh_0, sh_1, sh_2, sh_3, sh_4, sh_5, sh_8, sh_15, sh_16, sh_24, Int.reducePow, Int.cast_ofNat_Int, w_of, wl_of, ltT, ltF, leT, leF, eqT, eqF, okF_0, okF_s, gF_0, gF_s, consC_o, sF_0, sF_s, clsO_o, inA_i, ldA_i, stA_i, inJ_l, ldJ_l, stJ_l, inR_r, ldR_r, stR_r, tgR_r, lenA_i, lenA_l, lenA_r, lenA_ex, nl_i, nl_o, nl_l, nl_n, wd_n, wd_i, wd_l, wd_o, fit_i, fit_l, fit_o, K_v, K_n, true_and, and_true, Nat.reduceAdd, Nat.reduceLeDiff, Nat.reduceEqDiff, Nat.reduceMul, Nat.reduceLT, reduceIte, true_or, or_true, cmp_lt, cmp_gt, cmp_eq, wb_0, b_01, cmp_lt', cmp_gt', cmp_eq', b_0, b_1, wb_1, Int.reduceSub, Int.reduceToNat, List.getD_cons_succ, List.getD_cons_zero, Int.reduceLE, Int.reduceLT, Int.reduceEq, Int.reduceNeg, Int.reduceAdd, Int.reduceMul, and_self]
  | cons o r ih =>
    intro pos st A l5 hp hc hk hb hfx hev
    obtain ⟨m, hst, hev⟩ := hev
    have hbm := stepO_b hfb hst hb
    have hp' : pos + 1 + r.length = to := by rw [← hp, List.length_cons]; omega
    have hc0 : fc (pos : Int) = o := hc 0 (by simp)
    have hcr : ∀ j, j < r.length → fc ((pos + 1 + j : Nat) : Int) = r.getD j 0 := fun j hj => by
      have := hc (j + 1) (by simp; omega)
      rw [show pos + (j + 1) = pos + 1 + j by omega] at this
      exact this
    obtain ⟨hl, hs⟩ := hst
    rcases hs with ⟨h1, h2, rfl⟩ | ⟨k, hk7, ho, rfl⟩ | ⟨x, r', ho, rfl, hx, rfl⟩ | ⟨z, y, x, r', ho, rfl, hx, rfl⟩ | ⟨y, x, r', h1, h2, rfl, hxy, rfl⟩
    · obtain ⟨g, hg⟩ := ih (pos + 1) _ (aup A 31 (fset (A 31) (st.length : Nat) o)) (some (vi o)) hp' hcr (by rw [aup_s]; exact stk_push hk) hbm (by intro k hk; rw [aup_n (by omega)]; exact hfx k hk) hev
      refine ⟨g, fun d Q => ?_⟩
      have hg' := hg d Q
      rw [aup_aup] at hg'
      rw [← hg']
      rw [e_46_5]
      simp (disch := omega) only [e_46_7, e_46_8, e_46_11, e_46_12, e_46_13, e_46_16, e_46_17, e_46_20, e_46_21, e_46_24, e_46_27, e_46_29, e_46_30, e_46_32, e_46_34, e_46_37, e_46_40, e_46_41, e_46_44, e_46_45, e_46_47, e_46_48, e_46_51, e_46_54, e_46_56, e_46_59, e_46_62, e_46_63, e_46_66, e_46_67, e_46_68, e_46_71, e_46_73, e_46_76, e_46_77, e_46_78, e_46_79, e_46_82, e_46_85, e_46_87, e_46_90, e_46_93, e_46_94, e_46_95, e_46_98, e_46_99, e_46_102, e_46_103, e_46_104, e_46_105, e_46_106, e_46_107, e_46_110, e_46_111, e_46_112, e_46_113, e_46_114, e_46_115, e_46_116, e_46_119, e_46_121, e_46_124, e_46_127, e_46_128, e_46_129, e_46_132, e_46_135, e_46_136, e_46_139, e_46_140, e_46_141, e_46_142, e_46_143, e_46_146, e_46_147, e_46_148, e_46_149, e_46_150, e_46_153, e_46_154, e_46_157, e_46_158, e_46_159, e_46_162, e_46_163, e_46_166, e_46_167, e_46_168, e_46_169, e_46_170, e_46_171, e_46_174, e_46_175, e_46_176, e_46_179, e_46_182, e_46_183, e_46_186, e_46_187, e_46_188, e_46_189, e_46_190, e_46_192, e_46_193, e_46_196, e_46_197, e_46_198, e_46_199, e_46_200, e_46_201, e_46_202, e_46_205, e_46_206, e_46_207, e_46_208, e_46_211, e_46_212, e_46_215, hA, h4, hc0, hoO_c, hoO_g0, hoO_k0, hoO_g1, hoO_k1, hoO_g2, hoO_k2, hoO_g3, hoO_k3, hoO_g4, hoO_k4, hoO_g5, hoO_k5, hoO_g6, hoO_k6, hoO_g7, hoO_k7, hoO_g8, hoO_k8, hoO_g9, hoO_k9, hoO_s0, hoO_s1, hoO_s2, hoO_s9, ho_1, ho_2, ho_g27, ho_g28, ho_g29, ho_g30, ho_g31, ho_g32, ho_g33, ho_out, ho_u27, ho_u28, ho_u29, ho_u30, ho_u31, ho_u32, ho_u33, ho_uo, iup_s, iup_n, aup_s, aup_n, ne_eq, not_false_eq_true, sh_0, sh_1, sh_2, sh_3, sh_4, sh_5, sh_8, sh_15, sh_16, sh_24, Int.reducePow, Int.cast_ofNat_Int, w_of, wl_of, ltT, ltF, leT, leF, eqT, eqF, okF_0, okF_s, gF_0, gF_s, consC_o, sF_0, sF_s, clsO_o, inA_i, ldA_i, stA_i, inJ_l, ldJ_l, stJ_l, inR_r, ldR_r, stR_r, tgR_r, lenA_i, lenA_l, lenA_r, lenA_ex, nl_i, nl_o, nl_l, nl_n, wd_n, wd_i, wd_l, wd_o, fit_i, fit_l, fit_o, K_v, K_n, true_and, and_true, Nat.reduceAdd, Nat.reduceLeDiff, Nat.reduceEqDiff, Nat.reduceMul, Nat.reduceLT, reduceIte, true_or, or_true, cmp_lt, cmp_gt, cmp_eq, wb_0, b_01, cmp_lt', cmp_gt', cmp_eq', b_0, b_1, wb_1, Int.reduceSub, Int.reduceToNat, List.getD_cons_succ, List.getD_cons_zero, Int.reduceLE, Int.reduceLT, Int.reduceEq, Int.reduceNeg, Int.reduceAdd, Int.reduceMul, and_self]
      rfl
    · obtain ⟨g, hg⟩ := ih (pos + 1) _ (aup A 31 (fset (A 31) (st.length : Nat) (fx k))) (some (vi o)) hp' hcr (by rw [aup_s]; exact stk_push hk) hbm (by intro k hk; rw [aup_n (by omega)]; exact hfx k hk) hev
      refine ⟨g, fun d Q => ?_⟩
      have hg' := hg d Q
      rw [aup_aup] at hg'
      rw [← hg']
      have e1 : A 30 (o - 1000) = fx k := by rw [← hfx k hk7]; congr 1; omega
      rw [e_46_5]
      simp (disch := omega) only [e_46_7, e_46_8, e_46_11, e_46_12, e_46_13, e_46_16, e_46_17, e_46_20, e_46_21, e_46_24, e_46_27, e_46_29, e_46_30, e_46_32, e_46_34, e_46_37, e_46_40, e_46_41, e_46_44, e_46_45, e_46_47, e_46_48, e_46_51, e_46_54, e_46_56, e_46_59, e_46_62, e_46_63, e_46_66, e_46_67, e_46_68, e_46_71, e_46_73, e_46_76, e_46_77, e_46_78, e_46_79, e_46_82, e_46_85, e_46_87, e_46_90, e_46_93, e_46_94, e_46_95, e_46_98, e_46_99, e_46_102, e_46_103, e_46_104, e_46_105, e_46_106, e_46_107, e_46_110, e_46_111, e_46_112, e_46_113, e_46_114, e_46_115, e_46_116, e_46_119, e_46_121, e_46_124, e_46_127, e_46_128, e_46_129, e_46_132, e_46_135, e_46_136, e_46_139, e_46_140, e_46_141, e_46_142, e_46_143, e_46_146, e_46_147, e_46_148, e_46_149, e_46_150, e_46_153, e_46_154, e_46_157, e_46_158, e_46_159, e_46_162, e_46_163, e_46_166, e_46_167, e_46_168, e_46_169, e_46_170, e_46_171, e_46_174, e_46_175, e_46_176, e_46_179, e_46_182, e_46_183, e_46_186, e_46_187, e_46_188, e_46_189, e_46_190, e_46_192, e_46_193, e_46_196, e_46_197, e_46_198, e_46_199, e_46_200, e_46_201, e_46_202, e_46_205, e_46_206, e_46_207, e_46_208, e_46_211, e_46_212, e_46_215, hA, h4, hc0, e1, hoO_c, hoO_g0, hoO_k0, hoO_g1, hoO_k1, hoO_g2, hoO_k2, hoO_g3, hoO_k3, hoO_g4, hoO_k4, hoO_g5, hoO_k5, hoO_g6, hoO_k6, hoO_g7, hoO_k7, hoO_g8, hoO_k8, hoO_g9, hoO_k9, hoO_s0, hoO_s1, hoO_s2, hoO_s9, ho_1, ho_2, ho_g27, ho_g28, ho_g29, ho_g30, ho_g31, ho_g32, ho_g33, ho_out, ho_u27, ho_u28, ho_u29, ho_u30, ho_u31, ho_u32, ho_u33, ho_uo, iup_s, iup_n, aup_s, aup_n, ne_eq, not_false_eq_true, sh_0, sh_1, sh_2, sh_3, sh_4, sh_5, sh_8, sh_15, sh_16, sh_24, Int.reducePow, Int.cast_ofNat_Int, w_of, wl_of, ltT, ltF, leT, leF, eqT, eqF, okF_0, okF_s, gF_0, gF_s, consC_o, sF_0, sF_s, clsO_o, inA_i, ldA_i, stA_i, inJ_l, ldJ_l, stJ_l, inR_r, ldR_r, stR_r, tgR_r, lenA_i, lenA_l, lenA_r, lenA_ex, nl_i, nl_o, nl_l, nl_n, wd_n, wd_i, wd_l, wd_o, fit_i, fit_l, fit_o, K_v, K_n, true_and, and_true, Nat.reduceAdd, Nat.reduceLeDiff, Nat.reduceEqDiff, Nat.reduceMul, Nat.reduceLT, reduceIte, true_or, or_true, cmp_lt, cmp_gt, cmp_eq, wb_0, b_01, cmp_lt', cmp_gt', cmp_eq', b_0, b_1, wb_1, Int.reduceSub, Int.reduceToNat, List.getD_cons_succ, List.getD_cons_zero, Int.reduceLE, Int.reduceLT, Int.reduceEq, Int.reduceNeg, Int.reduceAdd, Int.reduceMul, and_self]
      rfl
    · obtain ⟨g, hg⟩ := ih (pos + 1) _ (aup A 31 (fset (A 31) (r'.length : Nat) (1 - x))) (some (vi o)) hp' hcr (by rw [aup_s]; exact stk_push hk.2) hbm (by intro k hk; rw [aup_n (by omega)]; exact hfx k hk) hev
      refine ⟨g, fun d Q => ?_⟩
      have hg' := hg d Q
      rw [aup_aup] at hg'
      rw [← hg']
      have hl' : r'.length + 1 < 63 := hl
      have e1 : ((x :: r').length : Int) - 1 = (r'.length : Int) := by rw [List.length_cons]; omega
      have e2 : ((x :: r').length : Int) = (r'.length : Int) + 1 := by rw [List.length_cons]; omega
      have e3 : (r'.length : Int) + 1 - 1 = (r'.length : Int) := by omega
      have hk1 := hk.1
      rw [e_46_5]
      simp (disch := omega) only [e_46_7, e_46_8, e_46_11, e_46_12, e_46_13, e_46_16, e_46_17, e_46_20, e_46_21, e_46_24, e_46_27, e_46_29, e_46_30, e_46_32, e_46_34, e_46_37, e_46_40, e_46_41, e_46_44, e_46_45, e_46_47, e_46_48, e_46_51, e_46_54, e_46_56, e_46_59, e_46_62, e_46_63, e_46_66, e_46_67, e_46_68, e_46_71, e_46_73, e_46_76, e_46_77, e_46_78, e_46_79, e_46_82, e_46_85, e_46_87, e_46_90, e_46_93, e_46_94, e_46_95, e_46_98, e_46_99, e_46_102, e_46_103, e_46_104, e_46_105, e_46_106, e_46_107, e_46_110, e_46_111, e_46_112, e_46_113, e_46_114, e_46_115, e_46_116, e_46_119, e_46_121, e_46_124, e_46_127, e_46_128, e_46_129, e_46_132, e_46_135, e_46_136, e_46_139, e_46_140, e_46_141, e_46_142, e_46_143, e_46_146, e_46_147, e_46_148, e_46_149, e_46_150, e_46_153, e_46_154, e_46_157, e_46_158, e_46_159, e_46_162, e_46_163, e_46_166, e_46_167, e_46_168, e_46_169, e_46_170, e_46_171, e_46_174, e_46_175, e_46_176, e_46_179, e_46_182, e_46_183, e_46_186, e_46_187, e_46_188, e_46_189, e_46_190, e_46_192, e_46_193, e_46_196, e_46_197, e_46_198, e_46_199, e_46_200, e_46_201, e_46_202, e_46_205, e_46_206, e_46_207, e_46_208, e_46_211, e_46_212, e_46_215, hA, h4, hc0, e2, e3, hk1, hoO_c, hoO_g0, hoO_k0, hoO_g1, hoO_k1, hoO_g2, hoO_k2, hoO_g3, hoO_k3, hoO_g4, hoO_k4, hoO_g5, hoO_k5, hoO_g6, hoO_k6, hoO_g7, hoO_k7, hoO_g8, hoO_k8, hoO_g9, hoO_k9, hoO_s0, hoO_s1, hoO_s2, hoO_s9, ho_1, ho_2, ho_g27, ho_g28, ho_g29, ho_g30, ho_g31, ho_g32, ho_g33, ho_out, ho_u27, ho_u28, ho_u29, ho_u30, ho_u31, ho_u32, ho_u33, ho_uo, iup_s, iup_n, aup_s, aup_n, ne_eq, not_false_eq_true, sh_0, sh_1, sh_2, sh_3, sh_4, sh_5, sh_8, sh_15, sh_16, sh_24, Int.reducePow, Int.cast_ofNat_Int, w_of, wl_of, ltT, ltF, leT, leF, eqT, eqF, okF_0, okF_s, gF_0, gF_s, consC_o, sF_0, sF_s, clsO_o, inA_i, ldA_i, stA_i, inJ_l, ldJ_l, stJ_l, inR_r, ldR_r, stR_r, tgR_r, lenA_i, lenA_l, lenA_r, lenA_ex, nl_i, nl_o, nl_l, nl_n, wd_n, wd_i, wd_l, wd_o, fit_i, fit_l, fit_o, K_v, K_n, true_and, and_true, Nat.reduceAdd, Nat.reduceLeDiff, Nat.reduceEqDiff, Nat.reduceMul, Nat.reduceLT, reduceIte, true_or, or_true, cmp_lt, cmp_gt, cmp_eq, wb_0, b_01, cmp_lt', cmp_gt', cmp_eq', b_0, b_1, wb_1, Int.reduceSub, Int.reduceToNat, List.getD_cons_succ, List.getD_cons_zero, Int.reduceLE, Int.reduceLT, Int.reduceEq, Int.reduceNeg, Int.reduceAdd, Int.reduceMul, and_self]
      rfl
    · have hl' : r'.length + 1 + 1 + 1 < 63 := hl
      obtain ⟨hkz, hky, hkx, hkr⟩ := hk
      obtain ⟨g, hg⟩ := ih (pos + 1) _ (aup A 31 (fset (A 31) (r'.length : Nat) (if x = 1 then y else z))) (some (vi o)) hp' hcr (by rw [aup_s]; exact stk_push hkr) hbm (by intro k hk; rw [aup_n (by omega)]; exact hfx k hk) hev
      refine ⟨g, fun d Q => ?_⟩
      have hg' := hg d Q
      rw [aup_aup] at hg'
      rw [← hg']
      have e2 : ((z :: y :: x :: r').length : Int) = (r'.length : Int) + 3 := by simp only [List.length_cons]; omega
      have e3 : (r'.length : Int) + 3 + -2 - 1 = (r'.length : Int) := by omega
      have e4 : (r'.length : Int) + 3 + -2 = (r'.length : Int) + 1 := by omega
      have e5 : (r'.length : Int) + 1 - 1 = (r'.length : Int) := by omega
      have e6 : (r'.length : Int) + 1 + 1 = (r'.length : Int) + 2 := by omega
      have k1 : A 31 ((r'.length : Int) + 2) = z := by rw [← hkz]; rfl
      have k2 : A 31 ((r'.length : Int) + 1) = y := by rw [← hky]; rfl
      unfold bit01 at hx
      rw [e_46_5]
      rcases hx with e | e
      · subst e
        simp (disch := omega) only [e_46_7, e_46_8, e_46_11, e_46_12, e_46_13, e_46_16, e_46_17, e_46_20, e_46_21, e_46_24, e_46_27, e_46_29, e_46_30, e_46_32, e_46_34, e_46_37, e_46_40, e_46_41, e_46_44, e_46_45, e_46_47, e_46_48, e_46_51, e_46_54, e_46_56, e_46_59, e_46_62, e_46_63, e_46_66, e_46_67, e_46_68, e_46_71, e_46_73, e_46_76, e_46_77, e_46_78, e_46_79, e_46_82, e_46_85, e_46_87, e_46_90, e_46_93, e_46_94, e_46_95, e_46_98, e_46_99, e_46_102, e_46_103, e_46_104, e_46_105, e_46_106, e_46_107, e_46_110, e_46_111, e_46_112, e_46_113, e_46_114, e_46_115, e_46_116, e_46_119, e_46_121, e_46_124, e_46_127, e_46_128, e_46_129, e_46_132, e_46_135, e_46_136, e_46_139, e_46_140, e_46_141, e_46_142, e_46_143, e_46_146, e_46_147, e_46_148, e_46_149, e_46_150, e_46_153, e_46_154, e_46_157, e_46_158, e_46_159, e_46_162, e_46_163, e_46_166, e_46_167, e_46_168, e_46_169, e_46_170, e_46_171, e_46_174, e_46_175, e_46_176, e_46_179, e_46_182, e_46_183, e_46_186, e_46_187, e_46_188, e_46_189, e_46_190, e_46_192, e_46_193, e_46_196, e_46_197, e_46_198, e_46_199, e_46_200, e_46_201, e_46_202, e_46_205, e_46_206, e_46_207, e_46_208, e_46_211, e_46_212, e_46_215, hA, h4, hc0, e2, e3, e4, e5, e6, k1, k2, hkx, hoO_c, hoO_g0, hoO_k0, hoO_g1, hoO_k1, hoO_g2, hoO_k2, hoO_g3, hoO_k3, hoO_g4, hoO_k4, hoO_g5, hoO_k5, hoO_g6, hoO_k6, hoO_g7, hoO_k7, hoO_g8, hoO_k8, hoO_g9, hoO_k9, hoO_s0, hoO_s1, hoO_s2, hoO_s9, ho_1, ho_2, ho_g27, ho_g28, ho_g29, ho_g30, ho_g31, ho_g32, ho_g33, ho_out, ho_u27, ho_u28, ho_u29, ho_u30, ho_u31, ho_u32, ho_u33, ho_uo, iup_s, iup_n, aup_s, aup_n, ne_eq, not_false_eq_true, sh_0, sh_1, sh_2, sh_3, sh_4, sh_5, sh_8, sh_15, sh_16, sh_24, Int.reducePow, Int.cast_ofNat_Int, w_of, wl_of, ltT, ltF, leT, leF, eqT, eqF, okF_0, okF_s, gF_0, gF_s, consC_o, sF_0, sF_s, clsO_o, inA_i, ldA_i, stA_i, inJ_l, ldJ_l, stJ_l, inR_r, ldR_r, stR_r, tgR_r, lenA_i, lenA_l, lenA_r, lenA_ex, nl_i, nl_o, nl_l, nl_n, wd_n, wd_i, wd_l, wd_o, fit_i, fit_l, fit_o, K_v, K_n, true_and, and_true, Nat.reduceAdd, Nat.reduceLeDiff, Nat.reduceEqDiff, Nat.reduceMul, Nat.reduceLT, reduceIte, true_or, or_true, cmp_lt, cmp_gt, cmp_eq, wb_0, b_01, cmp_lt', cmp_gt', cmp_eq', b_0, b_1, wb_1, Int.reduceSub, Int.reduceToNat, List.getD_cons_succ, List.getD_cons_zero, Int.reduceLE, Int.reduceLT, Int.reduceEq, Int.reduceNeg, Int.reduceAdd, Int.reduceMul, and_self]
        rfl
      · subst e
        simp (disch := omega) only [e_46_7, e_46_8, e_46_11, e_46_12, e_46_13, e_46_16, e_46_17, e_46_20, e_46_21, e_46_24, e_46_27, e_46_29, e_46_30, e_46_32, e_46_34, e_46_37, e_46_40, e_46_41, e_46_44, e_46_45, e_46_47, e_46_48, e_46_51, e_46_54, e_46_56, e_46_59, e_46_62, e_46_63, e_46_66, e_46_67, e_46_68, e_46_71, e_46_73, e_46_76, e_46_77, e_46_78, e_46_79, e_46_82, e_46_85, e_46_87, e_46_90, e_46_93, e_46_94, e_46_95, e_46_98, e_46_99, e_46_102, e_46_103, e_46_104, e_46_105, e_46_106, e_46_107, e_46_110, e_46_111, e_46_112, e_46_113, e_46_114, e_46_115, e_46_116, e_46_119, e_46_121, e_46_124, e_46_127, e_46_128, e_46_129, e_46_132, e_46_135, e_46_136, e_46_139, e_46_140, e_46_141, e_46_142, e_46_143, e_46_146, e_46_147, e_46_148, e_46_149, e_46_150, e_46_153, e_46_154, e_46_157, e_46_158, e_46_159, e_46_162, e_46_163, e_46_166, e_46_167, e_46_168, e_46_169, e_46_170, e_46_171, e_46_174, e_46_175, e_46_176, e_46_179, e_46_182, e_46_183, e_46_186, e_46_187, e_46_188, e_46_189, e_46_190, e_46_192, e_46_193, e_46_196, e_46_197, e_46_198, e_46_199, e_46_200, e_46_201, e_46_202, e_46_205, e_46_206, e_46_207, e_46_208, e_46_211, e_46_212, e_46_215, hA, h4, hc0, e2, e3, e4, e5, e6, k1, k2, hkx, hoO_c, hoO_g0, hoO_k0, hoO_g1, hoO_k1, hoO_g2, hoO_k2, hoO_g3, hoO_k3, hoO_g4, hoO_k4, hoO_g5, hoO_k5, hoO_g6, hoO_k6, hoO_g7, hoO_k7, hoO_g8, hoO_k8, hoO_g9, hoO_k9, hoO_s0, hoO_s1, hoO_s2, hoO_s9, ho_1, ho_2, ho_g27, ho_g28, ho_g29, ho_g30, ho_g31, ho_g32, ho_g33, ho_out, ho_u27, ho_u28, ho_u29, ho_u30, ho_u31, ho_u32, ho_u33, ho_uo, iup_s, iup_n, aup_s, aup_n, ne_eq, not_false_eq_true, sh_0, sh_1, sh_2, sh_3, sh_4, sh_5, sh_8, sh_15, sh_16, sh_24, Int.reducePow, Int.cast_ofNat_Int, w_of, wl_of, ltT, ltF, leT, leF, eqT, eqF, okF_0, okF_s, gF_0, gF_s, consC_o, sF_0, sF_s, clsO_o, inA_i, ldA_i, stA_i, inJ_l, ldJ_l, stJ_l, inR_r, ldR_r, stR_r, tgR_r, lenA_i, lenA_l, lenA_r, lenA_ex, nl_i, nl_o, nl_l, nl_n, wd_n, wd_i, wd_l, wd_o, fit_i, fit_l, fit_o, K_v, K_n, true_and, and_true, Nat.reduceAdd, Nat.reduceLeDiff, Nat.reduceEqDiff, Nat.reduceMul, Nat.reduceLT, reduceIte, true_or, or_true, cmp_lt, cmp_gt, cmp_eq, wb_0, b_01, cmp_lt', cmp_gt', cmp_eq', b_0, b_1, wb_1, Int.reduceSub, Int.reduceToNat, List.getD_cons_succ, List.getD_cons_zero, Int.reduceLE, Int.reduceLT, Int.reduceEq, Int.reduceNeg, Int.reduceAdd, Int.reduceMul, and_self]
        rfl
    · have hl' : r'.length + 1 + 1 < 63 := hl
      obtain ⟨hky, hkx, hkr⟩ := hk
      obtain ⟨g, hg⟩ := ih (pos + 1) _ (aup A 31 (fset (A 31) (r'.length : Nat) (joinV o x y))) (some (vi o)) hp' hcr (by rw [aup_s]; exact stk_push hkr) hbm (by intro k hk; rw [aup_n (by omega)]; exact hfx k hk) hev
      refine ⟨g, fun d Q => ?_⟩
      have hg' := hg d Q
      rw [aup_aup] at hg'
      rw [← hg']
      have e2 : ((y :: x :: r').length : Int) = (r'.length : Int) + 2 := by simp only [List.length_cons]; omega
      have e4 : (r'.length : Int) + 2 + -1 = (r'.length : Int) + 1 := by omega
      have e5 : (r'.length : Int) + 1 - 1 = (r'.length : Int) := by omega
      have k2 : A 31 ((r'.length : Int) + 1) = y := by rw [← hky]; rfl
      have by1 := hb y (by simp)
      have bx1 := hb x (by simp)
      have by2 := by1
      have bx2 := bx1
      unfold bnd at by2 bx2
      rw [e_46_5]
      simp (disch := omega) only [e_46_7, e_46_8, e_46_11, e_46_12, e_46_13, e_46_16, e_46_17, e_46_20, e_46_21, e_46_24, e_46_27, e_46_29, e_46_30, e_46_32, e_46_34, e_46_37, e_46_40, e_46_41, e_46_44, e_46_45, e_46_47, e_46_48, e_46_51, e_46_54, e_46_56, e_46_59, e_46_62, e_46_63, e_46_66, e_46_67, e_46_68, e_46_71, e_46_73, e_46_76, e_46_77, e_46_78, e_46_79, e_46_82, e_46_85, e_46_87, e_46_90, e_46_93, e_46_94, e_46_95, e_46_98, e_46_99, e_46_102, e_46_103, e_46_104, e_46_105, e_46_106, e_46_107, e_46_110, e_46_111, e_46_112, e_46_113, e_46_114, e_46_115, e_46_116, e_46_119, e_46_121, e_46_124, e_46_127, e_46_128, e_46_129, e_46_132, e_46_135, e_46_136, e_46_139, e_46_140, e_46_141, e_46_142, e_46_143, e_46_146, e_46_147, e_46_148, e_46_149, e_46_150, e_46_153, e_46_154, e_46_157, e_46_158, e_46_159, e_46_162, e_46_163, e_46_166, e_46_167, e_46_168, e_46_169, e_46_170, e_46_171, e_46_174, e_46_175, e_46_176, e_46_179, e_46_182, e_46_183, e_46_186, e_46_187, e_46_188, e_46_189, e_46_190, e_46_192, e_46_193, e_46_196, e_46_197, e_46_198, e_46_199, e_46_200, e_46_201, e_46_202, e_46_205, e_46_206, e_46_207, e_46_208, e_46_211, e_46_212, e_46_215, hA, h4, hc0, e2, e4, e5, k2, hkx, j_join bx1 by1 h1 h2 hxy, hoO_c, hoO_g0, hoO_k0, hoO_g1, hoO_k1, hoO_g2, hoO_k2, hoO_g3, hoO_k3, hoO_g4, hoO_k4, hoO_g5, hoO_k5, hoO_g6, hoO_k6, hoO_g7, hoO_k7, hoO_g8, hoO_k8, hoO_g9, hoO_k9, hoO_s0, hoO_s1, hoO_s2, hoO_s9, ho_1, ho_2, ho_g27, ho_g28, ho_g29, ho_g30, ho_g31, ho_g32, ho_g33, ho_out, ho_u27, ho_u28, ho_u29, ho_u30, ho_u31, ho_u32, ho_u33, ho_uo, iup_s, iup_n, aup_s, aup_n, ne_eq, not_false_eq_true, sh_0, sh_1, sh_2, sh_3, sh_4, sh_5, sh_8, sh_15, sh_16, sh_24, Int.reducePow, Int.cast_ofNat_Int, w_of, wl_of, ltT, ltF, leT, leF, eqT, eqF, okF_0, okF_s, gF_0, gF_s, consC_o, sF_0, sF_s, clsO_o, inA_i, ldA_i, stA_i, inJ_l, ldJ_l, stJ_l, inR_r, ldR_r, stR_r, tgR_r, lenA_i, lenA_l, lenA_r, lenA_ex, nl_i, nl_o, nl_l, nl_n, wd_n, wd_i, wd_l, wd_o, fit_i, fit_l, fit_o, K_v, K_n, true_and, and_true, Nat.reduceAdd, Nat.reduceLeDiff, Nat.reduceEqDiff, Nat.reduceMul, Nat.reduceLT, reduceIte, true_or, or_true, cmp_lt, cmp_gt, cmp_eq, wb_0, b_01, cmp_lt', cmp_gt', cmp_eq', b_0, b_1, wb_1, Int.reduceSub, Int.reduceToNat, List.getD_cons_succ, List.getD_cons_zero, Int.reduceLE, Int.reduceLT, Int.reduceEq, Int.reduceNeg, Int.reduceAdd, Int.reduceMul, and_self]
      rfl
theorem j_tell {ca n : Nat} {h : PH} {i : Nat → Int} {fx : Nat → Int} {fc : Int → Int} {fs : List PV} {v : Int} {f : Nat} {o : List Int} {A : Nat → Int → Int} (hca : outH ca) (hcc : ∃ p0 p1 p2 p3 p4 p5 p6 r, fs = p0 :: p1 :: p2 :: p3 :: p4 :: p5 :: p6 :: vr (ca + 4) :: r) (hA : hp h ca = oC 2 fs) (h4 : hp h (ca + 4) = aI 0 n fc) (hn : n ≤ 900) (hto : f + o.length ≤ n) (hfb : ∀ k, k < 7 → bnd (fx k)) (hc : ∀ j, j < o.length → fc ((f + j : Nat) : Int) = o.getD j 0) (hfx : ∀ k : Nat, k < 7 → A 30 k = fx k) (hev : evO fx o [] [v]) :
    ∃ g, ∀ d Q, WP (d + 3) 46 0 [some (vr 27), some (vi f), some (vi ((f + o.length : Nat) : Int)), none, none, none] [] (hoH h ca i A) Q = Q (some (vi v)) (hoH h ca i (aup A 31 g)) := by
  obtain ⟨g, hg⟩ := j_tell_lp (i := i) (fr := f) hca hcc hA h4 hn hto hfb o f [] A none rfl hc trivial (fun x hx => by cases hx) hfx hev
  refine ⟨g, fun d Q => ?_⟩
  rw [← hg d Q]
  simp only [e_46_0, e_46_1, e_46_2, e_46_3, okF_0, okF_s, gF_0, gF_s, consC_o, sF_0, sF_s, clsO_o, inA_i, ldA_i, stA_i, inJ_l, ldJ_l, stJ_l, inR_r, ldR_r, stR_r, tgR_r, lenA_i, lenA_l, lenA_r, lenA_ex, nl_i, nl_o, nl_l, nl_n, wd_n, wd_i, wd_l, wd_o, fit_i, fit_l, fit_o, K_v, K_n, true_and, and_true, Nat.reduceAdd, Nat.reduceLeDiff, Nat.reduceEqDiff, Nat.reduceMul, Nat.reduceLT, reduceIte, true_or, or_true, cmp_lt, cmp_gt, cmp_eq, wb_0, b_01, cmp_lt', cmp_gt', cmp_eq', b_0, b_1, wb_1, Int.reduceSub, Int.reduceToNat, List.getD_cons_succ, List.getD_cons_zero, Int.reduceLE, Int.reduceLT, Int.reduceEq, Int.reduceNeg, Int.reduceAdd, Int.reduceMul, and_self]
  rfl
theorem j_setFacts {d ca p k : Nat} {h : PH} {Q : PQ} {i : Nat → Int} {A : Nat → Int → Int} {c : KC} {str bears last : Int} (hca : outH ca) (hC : CtyAt h ca c) (hp : p < kN c) (hK : okK c) (hk : k < 5) :
    WP (d + 1) 45 0 [some (vr 27), some (vi p), some (vi str), some (vi bears), some (vi k), some (vi last)] [] (hoH h ca i A) Q = Q none (hoH h ca i (aup A 30 (fset (fset (fset (fset (fset (fset (fset (A 30) 0 p) 1 (kAge c p)) 2 str) 3 bears) 4 (i 1)) 5 (kHgt c k)) 6 last))) := by
  obtain ⟨tf, tt, mf, mt, n, fh, fw, fa, fc, fg, fp, hA, h1, h2, h3, h4, h5, h6, hh, hw, ha, -⟩ := hC
  have hN := hK.2.2
  unfold outH at hca
  have ha' := ha p hp
  have hh' := hh k hk
  simp (disch := omega) only [e_45_0, e_45_1, e_45_4, e_45_5, e_45_6, e_45_7, e_45_8, e_45_11, e_45_12, e_45_13, e_45_16, e_45_19, e_45_20, e_45_21, e_45_22, e_45_23, e_45_26, e_45_27, e_45_28, e_45_29, e_45_30, e_45_33, e_45_34, e_45_35, e_45_36, e_45_37, e_45_40, e_45_41, e_45_42, e_45_45, e_45_46, e_45_47, e_45_50, e_45_51, e_45_52, e_45_55, e_45_58, e_45_60, e_45_61, e_45_62, e_45_63, e_45_66, e_45_68, e_45_70, e_45_71, hA, h1, h3, ha', hh', aup_aup, hoO_c, hoO_g0, hoO_k0, hoO_g1, hoO_k1, hoO_g2, hoO_k2, hoO_g3, hoO_k3, hoO_g4, hoO_k4, hoO_g5, hoO_k5, hoO_g6, hoO_k6, hoO_g7, hoO_k7, hoO_g8, hoO_k8, hoO_g9, hoO_k9, hoO_s0, hoO_s1, hoO_s2, hoO_s9, ho_1, ho_2, ho_g27, ho_g28, ho_g29, ho_g30, ho_g31, ho_g32, ho_g33, ho_out, ho_u27, ho_u28, ho_u29, ho_u30, ho_u31, ho_u32, ho_u33, ho_uo, iup_s, iup_n, aup_s, aup_n, ne_eq, not_false_eq_true, sh_0, sh_1, sh_2, sh_3, sh_4, sh_5, sh_8, sh_15, sh_16, sh_24, Int.reducePow, Int.cast_ofNat_Int, w_of, wl_of, ltT, ltF, leT, leF, eqT, eqF, okF_0, okF_s, gF_0, gF_s, consC_o, sF_0, sF_s, clsO_o, inA_i, ldA_i, stA_i, inJ_l, ldJ_l, stJ_l, inR_r, ldR_r, stR_r, tgR_r, lenA_i, lenA_l, lenA_r, lenA_ex, nl_i, nl_o, nl_l, nl_n, wd_n, wd_i, wd_l, wd_o, fit_i, fit_l, fit_o, K_v, K_n, true_and, and_true, Nat.reduceAdd, Nat.reduceLeDiff, Nat.reduceEqDiff, Nat.reduceMul, Nat.reduceLT, reduceIte, true_or, or_true, cmp_lt, cmp_gt, cmp_eq, wb_0, b_01, cmp_lt', cmp_gt', cmp_eq', b_0, b_1, wb_1, Int.reduceSub, Int.reduceToNat, List.getD_cons_succ, List.getD_cons_zero, Int.reduceLE, Int.reduceLT, Int.reduceEq, Int.reduceNeg, Int.reduceAdd, Int.reduceMul, and_self]
