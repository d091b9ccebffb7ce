/-! THE CLASS: Coming, beginning -/
/-- what lies in it at any time, for arrays of n -/
def ComP (kc : Nat → KC) (ow : Nat → Nat) (h : PH) (n : Nat) : Prop := ∃ (i : Nat → Int) (cca q g : Nat) (fq fg : Int → Int) (m : Nat), comH h i cca q g n fq fg ∧ comW ow h q g n ∧ i 5 = (m : Int) ∧ m ≤ n ∧ (∀ j : Nat, j < m → ∃ k : Nat, k < n ∧ fq j = (k : Int)) ∧ (∀ k : Nat, fg k = 0 ∨ ∃ j : Nat, j < m ∧ fq j = (k : Int)) ∧ (0 < m → ∃ (sky : Nat) (s0 : ST) (QL : List QE) (sr : Nat), szC (kc cca) ≤ n ∧ comQ (kc cca) QL i fq fg sr ∧ bfsI (kc cca) sky s0 QL sr 0 ∧ sr ≤ QL.length ∧ i 1 = (sky : Int) ∧ i 2 = (encC (kc cca) s0 : Int)) ∧ 10 ≤ cca ∧ (-2147483648 ≤ i 1 ∧ i 1 < 2147483648) ∧ (-2147483648 ≤ i 2 ∧ i 2 < 2147483648)
theorem ComV_P {kc : Nat → KC} {ow : Nat → Nat} {h : PH} {ca : Nat} {c : KC} {sky sr n : Nat} {s0 : ST} {QL : List QE} (hK : okK c) (hca : 10 ≤ ca) (hsky : sky < 10) (hkc : kc ca = c) (hV : ComV ow h ca c sky s0 QL sr n) : ComP kc ow h n := by
  obtain ⟨i, q, g, fq, fg, v1, v2, v3, v4, v5, v6, v7, v8⟩ := hV
  have hl := bfs_len hK v5
  have hsl := encC_lt hK (v5.2.1 _ (List.mem_of_getElem? v5.1))
  have h24 := szC_le hK
  dsimp only at hsl
  refine ⟨i, ca, q, g, fq, fg, QL.length, v1, v2, v4.1, by omega, fun j hj => ?_, fun k => v4.2.2.2.2.2 k, fun _ => ⟨sky, s0, QL, sr, by rw [hkc]; exact v3, by rw [hkc]; exact v4, by rw [hkc]; exact v5, v6, v7, by rw [hkc]; exact v8⟩, hca, ⟨by omega, by omega⟩, ⟨by omega, by omega⟩⟩
  have he : QL[j]? = some QL[j] := List.getElem?_eq_getElem hj
  have := encC_lt hK (v5.2.1 _ (List.mem_of_getElem? he))
  exact ⟨encC c QL[j].1, by omega, v4.2.2.1 j _ he⟩
theorem c_clrLp {ow : Nat → Nat} {i : Nat → Int} {cca q g n m : Nat} {fq : Int → Int} {y : Int} (hm : i 5 = (m : Int)) (hmn : m ≤ n) (hq : ∀ j : Nat, j < m → ∃ k : Nat, k < n ∧ fq j = (k : Int)) :
    ∀ (r j : Nat) (h : PH) (fg : Int → Int), j + r = m → owF ow h → comH h i cca q g n fq fg → comW ow h q g n → (∀ k : Nat, fg k = 0 ∨ ∃ a : Nat, j ≤ a ∧ a < m ∧ fq a = (k : Int)) →
    ∃ (h' : PH) (fg' : Int → Int), chg ow [3] h h' ∧ comH h' i cca q g n fq fg' ∧ (∀ k : Nat, fg' k = 0) ∧ ∀ d Q, WP d 10 40 [some (vr 38), some (vr 27), some (vi y), some (vi j)] [] h Q = WP d 10 66 [some (vr 38), some (vr 27), some (vi y), some (vi m)] [] h' Q := by
  intro r
  induction r with
  | zero =>
    intro j h fg hj hF hC hW hz
    have hjm : j = m := by omega
    subst hjm
    obtain ⟨w1, w2, w3, w4, w5, w6, w7, w8⟩ := hW
    refine ⟨h, fg, chg_r, hC, fun k => ?_, fun d Q => ?_⟩
    · rcases hz k with z | ⟨a, a1, a2, -⟩
      · exact z
      · omega
    · obtain ⟨c1, c2, c3⟩ := hC
      rw [e_10_40]
      simp (disch := omega) only [e_10_41, e_10_42, e_10_45, c1, hm, cmO_c, cmO_g0, cmO_k0, cmO_g1, cmO_k1, cmO_g2, cmO_k2, cmO_g3, cmO_k3, cmO_g4, cmO_k4, cmO_g5, cmO_k5, cmO_g6, cmO_k6, cmO_s0, cmO_s1, cmO_s2, cmO_s3, cmO_s4, cmO_s5, cmO_s6, hoO_c, hoO_g0, hoO_k0, hoO_g1, hoO_k1, hoO_g2, hoO_k2, hoO_g3, hoO_k3, hoO_g4, hoO_k4, hoO_g5, hoO_k5, hoO_g6, hoO_k6, hoO_g7, hoO_k7, hoO_g8, hoO_k8, hoO_g9, hoO_k9, hoO_s0, hoO_s1, hoO_s2, hoO_s9, iup_s, iup_n, hp_up1, hp_upn, ne_eq, not_false_eq_true, sh_0, sh_1, sh_2, sh_3, sh_4, sh_5, sh_8, sh_15, sh_16, sh_24, Int.reducePow, Int.cast_ofNat_Int, w_of, wl_of, ltT, ltF, leT, leF, eqT, eqF, okF_0, okF_s, gF_0, gF_s, consC_o, sF_0, sF_s, clsO_o, inA_i, ldA_i, stA_i, inJ_l, ldJ_l, stJ_l, inR_r, ldR_r, stR_r, tgR_r, lenA_i, lenA_l, lenA_r, lenA_ex, nl_i, nl_o, nl_l, nl_n, wd_n, wd_i, wd_l, wd_o, fit_i, fit_l, fit_o, K_v, K_n, true_and, and_true, Nat.reduceAdd, Nat.reduceLeDiff, Nat.reduceEqDiff, Nat.reduceMul, Nat.reduceLT, reduceIte, true_or, or_true, cmp_lt, cmp_gt, cmp_eq, wb_0, b_01, cmp_lt', cmp_gt', cmp_eq', b_0, b_1, wb_1, Int.reduceSub, Int.reduceToNat, List.getD_cons_succ, List.getD_cons_zero, Int.reduceLE, Int.reduceLT, Int.reduceEq, Int.reduceNeg, Int.reduceAdd, Int.reduceMul, and_self, em_b, ne_eq, not_false_eq_true, not_true_eq_false]
  | succ r ih =>
    intro j h fg hj hF hC hW hz
    have hW' := hW
    obtain ⟨w1, w2, w3, w4, w5, w6, w7, w8⟩ := hW
    obtain ⟨c1, c2, c3⟩ := hC
    obtain ⟨k, k1, k2⟩ := hq j (by omega)
    have hch : chg ow [3] h (hup h g (aI 0 n (fset fg (k : Int) 0))) := chg_up w2 (by decide)
    obtain ⟨h', fg', b1, b2, b3, b4⟩ := ih (j + 1) (hup h g (aI 0 n (fset fg (k : Int) 0))) (fset fg (k : Int) 0) (by omega) (chg_F hch hF) ⟨by rw [hp_upn (by omega)]; exact c1, by rw [hp_upn (by omega)]; exact c2, hp_up1⟩ hW' (fun x => by
      by_cases z : x = k
      · left; rw [z, fs_same]
      · rw [fs_ne (by omega)]
        rcases hz x with a | ⟨a, a1, a2, a3⟩
        · exact Or.inl a
        · right
          refine ⟨a, ?_, a2, a3⟩
          by_cases w : a = j
          · rw [w, k2] at a3; omega
          · omega)
    refine ⟨h', fg', chg_t hch b1, b2, b3, fun d Q => ?_⟩
    rw [← b4 d Q]
    have g10 : 10 ≤ g := by omega
    have ej : (j : Int) + 1 = ((j + 1 : Nat) : Int) := by omega
    rw [e_10_40]
    simp (disch := omega) only [e_10_41, e_10_42, e_10_45, e_10_48, e_10_49, e_10_52, e_10_53, e_10_56, e_10_57, e_10_58, e_10_59, e_10_60, e_10_63, c1, c2, c3, hm, k2, ej, g10, true_and, cmO_c, cmO_g0, cmO_k0, cmO_g1, cmO_k1, cmO_g2, cmO_k2, cmO_g3, cmO_k3, cmO_g4, cmO_k4, cmO_g5, cmO_k5, cmO_g6, cmO_k6, cmO_s0, cmO_s1, cmO_s2, cmO_s3, cmO_s4, cmO_s5, cmO_s6, hoO_c, hoO_g0, hoO_k0, hoO_g1, hoO_k1, hoO_g2, hoO_k2, hoO_g3, hoO_k3, hoO_g4, hoO_k4, hoO_g5, hoO_k5, hoO_g6, hoO_k6, hoO_g7, hoO_k7, hoO_g8, hoO_k8, hoO_g9, hoO_k9, hoO_s0, hoO_s1, hoO_s2, hoO_s9, iup_s, iup_n, hp_up1, hp_upn, ne_eq, not_false_eq_true, sh_0, sh_1, sh_2, sh_3, sh_4, sh_5, sh_8, sh_15, sh_16, sh_24, Int.reducePow, Int.cast_ofNat_Int, w_of, wl_of, ltT, ltF, leT, leF, eqT, eqF, okF_0, okF_s, gF_0, gF_s, consC_o, sF_0, sF_s, clsO_o, inA_i, ldA_i, stA_i, inJ_l, ldJ_l, stJ_l, inR_r, ldR_r, stR_r, tgR_r, lenA_i, lenA_l, lenA_r, lenA_ex, nl_i, nl_o, nl_l, nl_n, wd_n, wd_i, wd_l, wd_o, fit_i, fit_l, fit_o, K_v, K_n, true_and, and_true, Nat.reduceAdd, Nat.reduceLeDiff, Nat.reduceEqDiff, Nat.reduceMul, Nat.reduceLT, reduceIte, true_or, or_true, cmp_lt, cmp_gt, cmp_eq, wb_0, b_01, cmp_lt', cmp_gt', cmp_eq', b_0, b_1, wb_1, Int.reduceSub, Int.reduceToNat, List.getD_cons_succ, List.getD_cons_zero, Int.reduceLE, Int.reduceLT, Int.reduceEq, Int.reduceNeg, Int.reduceAdd, Int.reduceMul, and_self, em_b, ne_eq, not_false_eq_true, not_true_eq_false]
    try rfl
theorem comQ_start {c : KC} {s : ST} {i : Nat → Int} {fq fg : Int → Int} (hK : okK c) (hs : okS c s) (h5 : i 5 = 1) (h6 : i 6 = 0) (hz : ∀ k : Nat, fg k = 0) : comQ c [(s, 0, 0)] i (fset fq 0 (encC c s)) (fset fg (encC c s : Nat) (-1)) 0 := by
  have one : ∀ (j : Nat) (e : QE), [((s, 0, 0) : QE)][j]? = some e → j = 0 ∧ e = (s, 0, 0) := by
    intro j e he
    have hl := (List.getElem?_eq_some_iff.mp he).1
    simp only [List.length_singleton] at hl
    have hj : j = 0 := by omega
    subst hj
    cases he
    exact ⟨rfl, rfl⟩
  refine ⟨h5, h6, fun j e he => ?_, fun j t a d u he hu => ?_, fun x hx hn => ?_, fun k => ?_⟩
  · obtain ⟨rfl, rfl⟩ := one j e he
    exact fs_same
  · obtain ⟨rfl, e2⟩ := one j _ he
    cases e2
    rw [fs_same, if_pos rfl]
  · have n2 : x ≠ s := fun w => hn ⟨0, (s, 0, 0), by simp, rfl, w.symm⟩
    rw [fs_ne (fun w => n2 (encC_inj hK hx hs (by omega)))]
    exact hz _
  · by_cases w : k = encC c s
    · right
      exact ⟨0, by simp, by rw [w]; exact fs_same⟩
    · left
      rw [fs_ne (by omega)]; exact hz k
def cmI (i : Nat → Int) (sky x : Int) : Nat → Int := iup (iup (iup (iup i 1 sky) 2 x) 5 1) 6 0
theorem hup_n1 {h : PH} {a : Nat} {c : PC} : (hup h a c).1 = h.1 := rfl
theorem mk1_n1 {h : PH} {s : Nat} {c : PC} : (mk1 h s c).1 = h.1 + 1 := rfl
theorem hup_tt {h : PH} {a : Nat} {x y : PC} : hup (hup h a x) a y = hup h a y := by
  unfold hup
  congr 2
  funext k
  by_cases z : k = a
  · rw [if_pos z, if_pos z]
  · rw [if_neg z, if_neg z]
    dsimp only
    rw [if_neg z]
theorem mk_hup {h : PH} {a n : Nat} {x y : PC} (hne : a ≠ h.1) : mk1 (hup h a x) n y = hup (mk1 h n y) a x := by
  unfold hup mk1
  congr 2
  funext k
  dsimp only
  by_cases z : k = a
  · rw [if_pos z, if_neg (by omega), if_pos z]
  · rw [if_neg z, if_neg z]
theorem mk_hup2 {h : PH} {a n m : Nat} {x y u : PC} (hne : a ≠ h.1 + 1) : mk1 (hup (mk1 h m u) a x) n y = hup (mk1 (mk1 h m u) n y) a x := mk_hup hne
theorem hp_mk2 {h : PH} {b n m : Nat} {y u : PC} (hne : b ≠ h.1 + 1) : hp (mk1 (mk1 h m u) n y) b = hp (mk1 h m u) b := hp_mkn hne
theorem hp_mk12 {h : PH} {n m : Nat} {y u : PC} : hp (mk1 (mk1 h m u) n y) (h.1 + 1) = y := if_pos rfl
theorem hup_3 {h : PH} {a b g : Nat} {x y u v : PC} : hup (hup (hup (hup h a x) b u) g v) a y = hup (hup (hup h b u) g v) a y := by
  unfold hup
  congr 2
  funext k
  by_cases z : k = a
  · rw [if_pos z, if_pos z]
  · rw [if_neg z, if_neg z]
    dsimp only
    rw [if_neg z]
/-- room enough -/
theorem c_tail1 {ow : Nat → Nat} {h : PH} {ca : Nat} {c : KC} {sky e : Nat} {s : ST} {i : Nat → Int} {cca q g n m : Nat} {fq fg : Int → Int} (hF : owF ow h) (hH : HoP ow h ca c sky e) (hs : okS c s) (hn : szC c ≤ n) (hC : comH h i cca q g n fq fg) (hW : comW ow h q g n) (hz : ∀ k : Nat, fg k = 0) :
    ∃ h' : PH, chg ow [3] h h' ∧ ComV ow h' ca c sky s [(s, 0, 0)] 0 n ∧ ∀ d Q, WP d 10 66 [some (vr 38), some (vr 27), some (vi (encC c s)), some (vi m)] [] h Q = Q none h' := by
  obtain ⟨ih, A, a1, a2, a3, a4, a5, a6, a7, a8, hKC⟩ := hH
  have hK := hKC.2.1.1
  have hsl := encC_lt hK hs
  have h24 := szC_le hK
  obtain ⟨y4, y5, y6, y7, y8, y9, y10, y11, y14, y15, y17, hA⟩ := KCty_sz hKC
  have h1 := a8.1
  have hsky := a8.2.2.2.2.1
  obtain ⟨c1, c2, c3⟩ := hC
  have hW' := hW
  obtain ⟨w1, w2, w3, w4, w5, w6, w7, w8⟩ := hW
  have hca : ca ≠ 38 := fun z => by have := hKC.2.2.1 0 (by omega); rw [z] at this; rw [tg_38 hF] at this; omega
  have g10 : 10 ≤ g := by omega
  have q10 : 10 ≤ q := by omega
  refine ⟨hup (hup (hup h q (aI 0 n (fset fq 0 (encC c s)))) g (aI 0 n (fset fg (encC c s : Nat) (-1)))) 38 (cmO (cmI i sky (encC c s)) (vr ca) (vr q) (vr g)), chg_t (chg_t (chg_up w1 (by decide)) (chg_up w2 (by decide))) (chg_up (tg_38 hF) (by decide)), ⟨cmI i sky (encC c s), q, g, _, _, ⟨hp_up1, by rw [hp_upn (by omega), hp_upn (by omega), hp_up1], by rw [hp_upn (by omega), hp_up1]⟩, hW', hn, comQ_start hK hs rfl rfl hz, bfs_start hs, by simp, rfl, rfl⟩, fun d Q => ?_⟩
  simp (disch := omega) only [e_10_66, e_10_67, e_10_68, e_10_71, e_10_74, e_10_75, e_10_76, e_10_79, e_10_82, e_10_83, e_10_84, e_10_87, e_10_88, e_10_91, e_10_92, e_10_93, e_10_96, e_10_99, e_10_102, e_10_103, e_10_104, e_10_107, e_10_110, e_10_112, e_10_115, e_10_116, e_10_117, e_10_120, e_10_123, e_10_125, e_10_128, e_10_129, e_10_132, e_10_133, e_10_134, e_10_135, e_10_136, e_10_139, e_10_140, e_10_141, e_10_142, e_10_143, e_10_144, e_10_147, e_10_148, e_10_149, e_10_152, c1, c2, c3, a1, h1, hA, g10, q10, true_and, cmO_c, cmO_g0, cmO_k0, cmO_g1, cmO_k1, cmO_g2, cmO_k2, cmO_g3, cmO_k3, cmO_g4, cmO_k4, cmO_g5, cmO_k5, cmO_g6, cmO_k6, cmO_s0, cmO_s1, cmO_s2, cmO_s3, cmO_s4, cmO_s5, cmO_s6, hoO_c, hoO_g0, hoO_k0, hoO_g1, hoO_k1, hoO_g2, hoO_k2, hoO_g3, hoO_k3, hoO_g4, hoO_k4, hoO_g5, hoO_k5, hoO_g6, hoO_k6, hoO_g7, hoO_k7, hoO_g8, hoO_k8, hoO_g9, hoO_k9, hoO_s0, hoO_s1, hoO_s2, hoO_s9, iup_s, iup_n, hp_up1, hp_upn, ne_eq, not_false_eq_true, sh_0, sh_1, sh_2, sh_3, sh_4, sh_5, sh_8, sh_15, sh_16, sh_24, Int.reducePow, Int.cast_ofNat_Int, w_of, wl_of, ltT, ltF, leT, leF, eqT, eqF, okF_0, okF_s, gF_0, gF_s, consC_o, sF_0, sF_s, clsO_o, inA_i, ldA_i, stA_i, inJ_l, ldJ_l, stJ_l, inR_r, ldR_r, stR_r, tgR_r, lenA_i, lenA_l, lenA_r, lenA_ex, nl_i, nl_o, nl_l, nl_n, wd_n, wd_i, wd_l, wd_o, fit_i, fit_l, fit_o, K_v, K_n, true_and, and_true, Nat.reduceAdd, Nat.reduceLeDiff, Nat.reduceEqDiff, Nat.reduceMul, Nat.reduceLT, reduceIte, true_or, or_true, cmp_lt, cmp_gt, cmp_eq, wb_0, b_01, cmp_lt', cmp_gt', cmp_eq', b_0, b_1, wb_1, Int.reduceSub, Int.reduceToNat, List.getD_cons_succ, List.getD_cons_zero, Int.reduceLE, Int.reduceLT, Int.reduceEq, Int.reduceNeg, Int.reduceAdd, Int.reduceMul, and_self, em_b, ne_eq, not_false_eq_true, not_true_eq_false]
  rw [hup_tt, hup_tt, hup_tt, hup_3]
  rfl
/-- new arrays -/
theorem c_tail2 {ow : Nat → Nat} {h : PH} {ca : Nat} {c : KC} {sky e : Nat} {s : ST} {i : Nat → Int} {cca q g n m : Nat} {fq fg : Int → Int} (hF : owF ow h) (hH : HoP ow h ca c sky e) (hs : okS c s) (hn : ¬ szC c ≤ n) (hC : comH h i cca q g n fq fg) (hW : comW ow h q g n) :
    ∃ (h' : PH), h'.1 = h.1 + 2 ∧ h'.2.1 = h.2.1 + szC c + szC c ∧ extO ow h (fun k => if k < h.1 then ow k else 3) h' [3] ∧ ComV (fun k => if k < h.1 then ow k else 3) h' ca c sky s [(s, 0, 0)] 0 (szC c) ∧ ∀ d Q, WP d 10 66 [some (vr 38), some (vr 27), some (vi (encC c s)), some (vi m)] [] h Q = Q none h' := by
  obtain ⟨ih, A, a1, a2, a3, a4, a5, a6, a7, a8, hKC⟩ := hH
  have hK := hKC.2.1.1
  have hsl := encC_lt hK hs
  have h24 := szC_le hK
  obtain ⟨y4, y5, y6, y7, y8, y9, y10, y11, y14, y15, y17, hA⟩ := KCty_sz hKC
  have h1 := a8.1
  have hsky := a8.2.2.2.2.1
  obtain ⟨c1, c2, c3⟩ := hC
  have hW' := hW
  obtain ⟨w1, w2, w3, w4, w5, w6, w7, w8⟩ := hW
  have hca : ca ≠ 38 := fun z => by have := hKC.2.2.1 0 (by omega); rw [z] at this; rw [tg_38 hF] at this; omega
  have hcl : ca < h.1 := by have := hKC.2.2.2.2; omega
  have h90 := hF.1
  have g10 : 10 ≤ h.1 + 1 := by omega
  have q10 : 10 ≤ h.1 := by omega
  have z1 : 0 ≤ (szC c : Int) := by omega
  have z2 : (szC c : Int) ≤ 500000 := by omega
  have hk : ∀ k, k < h.1 → k ≠ 38 → hp (hup (hup (hup (mk1 (mk1 h (szC c) (aI 0 (szC c) (fun _ => 0))) (szC c) (aI 0 (szC c) (fun _ => 0))) h.1 (aI 0 (szC c) (fset (fun _ => 0) 0 (encC c s)))) (h.1 + 1) (aI 0 (szC c) (fset (fun _ => 0) (encC c s : Nat) (-1)))) 38 (cmO (cmI i sky (encC c s)) (vr ca) (vr h.1) (vr (h.1 + 1)))) k = hp h k := fun k h1 h2 => by rw [hp_upn h2, hp_upn (by omega), hp_upn (by omega), hp_mk2 (by omega), hp_mkn (by omega)]
  refine ⟨hup (hup (hup (mk1 (mk1 h (szC c) (aI 0 (szC c) (fun _ => 0))) (szC c) (aI 0 (szC c) (fun _ => 0))) h.1 (aI 0 (szC c) (fset (fun _ => 0) 0 (encC c s)))) (h.1 + 1) (aI 0 (szC c) (fset (fun _ => 0) (encC c s : Nat) (-1)))) 38 (cmO (cmI i sky (encC c s)) (vr ca) (vr h.1) (vr (h.1 + 1))), rfl, rfl, ?_, ?_, fun d Q => ?_⟩
  · exact ⟨by show h.1 ≤ h.1 + 1 + 1; omega, fun k hk => if_pos hk, fun k k1 k2 => hk k k1 (fun z => k2 (by rw [z, tg_38 hF]; decide))⟩
  · refine ⟨cmI i sky (encC c s), h.1, h.1 + 1, fset (fun _ => 0) 0 (encC c s), fset (fun _ => 0) (encC c s : Nat) (-1), ⟨hp_up1, by rw [hp_upn (by omega), hp_upn (by omega), hp_up1], by rw [hp_upn (by omega), hp_up1]⟩, ⟨if_neg (by omega), if_neg (by omega), by omega, by omega, by omega, by show h.1 < h.1 + 1 + 1; omega, by show h.1 + 1 < h.1 + 1 + 1; omega, h24⟩, Nat.le_refl _, comQ_start hK hs rfl rfl (fun _ => rfl), bfs_start hs, by simp, rfl, rfl⟩
  · simp (disch := omega) only [e_10_66, e_10_67, e_10_68, e_10_71, e_10_74, e_10_75, e_10_76, e_10_79, e_10_82, e_10_83, e_10_84, e_10_87, e_10_88, e_10_91, e_10_92, e_10_93, e_10_96, e_10_99, e_10_102, e_10_103, e_10_104, e_10_107, e_10_110, e_10_112, e_10_115, e_10_116, e_10_117, e_10_120, e_10_123, e_10_125, e_10_128, e_10_129, e_10_132, e_10_133, e_10_134, e_10_135, e_10_136, e_10_139, e_10_140, e_10_141, e_10_142, e_10_143, e_10_144, e_10_147, e_10_148, e_10_149, e_10_152, c1, c2, c3, a1, h1, hA, g10, q10, true_and, z1, z2, hup_n1, mk1_n1, hp_mk1, hp_mkn, hp_mk2, hp_mk12, mk_hup, mk_hup2, hup_tt, Int.toNat_natCast, cmO_c, cmO_g0, cmO_k0, cmO_g1, cmO_k1, cmO_g2, cmO_k2, cmO_g3, cmO_k3, cmO_g4, cmO_k4, cmO_g5, cmO_k5, cmO_g6, cmO_k6, cmO_s0, cmO_s1, cmO_s2, cmO_s3, cmO_s4, cmO_s5, cmO_s6, hoO_c, hoO_g0, hoO_k0, hoO_g1, hoO_k1, hoO_g2, hoO_k2, hoO_g3, hoO_k3, hoO_g4, hoO_k4, hoO_g5, hoO_k5, hoO_g6, hoO_k6, hoO_g7, hoO_k7, hoO_g8, hoO_k8, hoO_g9, hoO_k9, hoO_s0, hoO_s1, hoO_s2, hoO_s9, iup_s, iup_n, hp_up1, hp_upn, ne_eq, not_false_eq_true, sh_0, sh_1, sh_2, sh_3, sh_4, sh_5, sh_8, sh_15, sh_16, sh_24, Int.reducePow, Int.cast_ofNat_Int, w_of, wl_of, ltT, ltF, leT, leF, eqT, eqF, okF_0, okF_s, gF_0, gF_s, consC_o, sF_0, sF_s, clsO_o, inA_i, ldA_i, stA_i, inJ_l, ldJ_l, stJ_l, inR_r, ldR_r, stR_r, tgR_r, lenA_i, lenA_l, lenA_r, lenA_ex, nl_i, nl_o, nl_l, nl_n, wd_n, wd_i, wd_l, wd_o, fit_i, fit_l, fit_o, K_v, K_n, true_and, and_true, Nat.reduceAdd, Nat.reduceLeDiff, Nat.reduceEqDiff, Nat.reduceMul, Nat.reduceLT, reduceIte, true_or, or_true, cmp_lt, cmp_gt, cmp_eq, wb_0, b_01, cmp_lt', cmp_gt', cmp_eq', b_0, b_1, wb_1, Int.reduceSub, Int.reduceToNat, List.getD_cons_succ, List.getD_cons_zero, Int.reduceLE, Int.reduceLT, Int.reduceEq, Int.reduceNeg, Int.reduceAdd, Int.reduceMul, and_self, em_b, ne_eq, not_false_eq_true, not_true_eq_false]
    rw [hup_3]
    rfl
