/-! THE CLASS: what to try -/
def mxA (g : Nat → Int) : Nat → Nat
  | 0 => 0
  | n + 1 => if mxA g n < cntI g n (n + 1) then cntI g n (n + 1) else mxA g n
theorem mxA_s {g : Nat → Int} {n : Nat} : mxA g (n + 1) = if mxA g n < cntI g n (n + 1) then cntI g n (n + 1) else mxA g n := rfl
theorem cnt_s {g : Nat → Int} {w n : Nat} : cntI g w (n + 1) = cntI g w n + (if g w ≠ -1 ∧ g n = g w then 1 else 0) := rfl
theorem cnt_mono {g : Nat → Int} {w : Nat} : ∀ {n k : Nat}, cntI g w n ≤ cntI g w (n + k)
  | n, 0 => Nat.le_refl _
  | n, k + 1 => by
    have := cnt_mono (g := g) (w := w) (n := n) (k := k)
    rw [show n + (k + 1) = n + k + 1 by omega, cnt_s]
    omega
theorem cnt_val {g : Nat → Int} {w v : Nat} (h : g v = g w) : ∀ {n : Nat}, cntI g w n = cntI g v n
  | 0 => rfl
  | n + 1 => by rw [cnt_s, cnt_s, cnt_val h, h]
theorem mxA_ge {g : Nat → Int} : ∀ {n w : Nat}, w < n → cntI g w n ≤ mxA g n
  | 0, w, h => by omega
  | n + 1, w, h => by
    have hn : cntI g n (n + 1) ≤ mxA g (n + 1) := by rw [mxA_s]; split <;> omega
    have hm : mxA g n ≤ mxA g (n + 1) := by rw [mxA_s]; split <;> omega
    by_cases e : w = n
    · rw [e]; exact hn
    · have ih := mxA_ge (g := g) (n := n) (w := w) (by omega)
      by_cases q : g w ≠ -1 ∧ g n = g w
      · rw [cnt_val q.2]; exact hn
      · rw [cnt_s, if_neg q]; omega
theorem mx_le {g : Nat → Int} {B : Nat} : ∀ {n : Nat}, (∀ w, w < n → cntI g w 10 ≤ B) → mxI g n ≤ B
  | 0, _ => Nat.zero_le _
  | n + 1, h => by
    have ih := mx_le (g := g) (B := B) (n := n) (fun w hw => h w (by omega))
    have := h n (by omega)
    show (if mxI g n < cntI g n 10 then cntI g n 10 else mxI g n) ≤ B
    split <;> omega
theorem mxI_ge {g : Nat → Int} : ∀ {n w : Nat}, w < n → cntI g w 10 ≤ mxI g n
  | 0, w, h => by omega
  | n + 1, w, h => by
    show _ ≤ (if mxI g n < cntI g n 10 then cntI g n 10 else mxI g n)
    by_cases e : w = n
    · subst e; split <;> omega
    · have := mxI_ge (g := g) (n := n) (w := w) (by omega)
      split <;> omega
theorem mxA_le {g : Nat → Int} {B : Nat} : ∀ {n : Nat}, n ≤ 10 → (∀ w, w < n → cntI g w 10 ≤ B) → mxA g n ≤ B
  | 0, _, _ => Nat.zero_le _
  | n + 1, hn, h => by
    have ih := mxA_le (g := g) (B := B) (n := n) (by omega) (fun w hw => h w (by omega))
    have h1 := h n (by omega)
    have h2 := cnt_mono (g := g) (w := n) (n := n + 1) (k := 10 - (n + 1))
    rw [show n + 1 + (10 - (n + 1)) = 10 by omega] at h2
    rw [mxA_s]
    split <;> omega
theorem mxA_mx {g : Nat → Int} : mxA g 10 = mxI g 10 := by
  have h1 : mxA g 10 ≤ mxI g 10 := mxA_le (Nat.le_refl _) (fun w hw => mxI_ge hw)
  have h2 : mxI g 10 ≤ mxA g 10 := mx_le (fun w hw => mxA_ge hw)
  omega
noncomputable def sbC (c : KC) (s : ST) (m : Nat) (S : Nat → Bool) (w : Nat) : Int := if S w then (encP 4 (kN c) (outW c s m w).2.2 : Int) else -1
theorem rcd_enc {c : KC} {s t : ST} (hs : okS c s) (ht : okS c t) : rcd s.2.2 (kN c) = rcd t.2.2 (kN c) ↔ encP 4 (kN c) s.2.2 = encP 4 (kN c) t.2.2 := by
  constructor
  · intro h
    exact encP_congr (rcd_inj (fun i hi => (hs.1 i hi).2) (fun i hi => (ht.1 i hi).2) h)
  · intro h
    exact rcd_congr (encP_inj (fun i hi => (hs.1 i hi).2) (fun i hi => (ht.1 i hi).2) h)
theorem sb_eq {c : KC} {s : ST} {m : Nat} {S : Nat → Bool} {v w : Nat} (hs : okS c s) (hm : isMv c m = true) : (sbV c s m S v = sbV c s m S w ↔ sbC c s m S v = sbC c s m S w) := by
  have re := rcd_enc (outW_ok (w := v) hs hm) (outW_ok (w := w) hs hm)
  unfold sbV sbC
  by_cases h1 : S v = true
  · by_cases h2 : S w = true
    · rw [if_pos h1, if_pos h2, if_pos h1, if_pos h2]
      omega
    · rw [if_pos h1, if_neg h2, if_pos h1, if_neg h2]
      omega
  · by_cases h2 : S w = true
    · rw [if_neg h1, if_pos h2, if_neg h1, if_pos h2]
      omega
    · rw [if_neg h1, if_neg h2, if_neg h1, if_neg h2]
theorem sb_n1 {c : KC} {s : ST} {m : Nat} {S : Nat → Bool} {w : Nat} : (sbV c s m S w ≠ -1 ↔ sbC c s m S w ≠ -1) := by
  unfold sbV sbC
  by_cases h2 : S w = true
  · rw [if_pos h2, if_pos h2]; omega
  · rw [if_neg h2, if_neg h2]
theorem sb_cnt {c : KC} {s : ST} {m : Nat} {S : Nat → Bool} {w : Nat} (hs : okS c s) (hm : isMv c m = true) : ∀ {n : Nat}, cntI (sbV c s m S) w n = cntI (sbC c s m S) w n
  | 0 => rfl
  | n + 1 => by
    rw [cnt_s, cnt_s, sb_cnt hs hm]
    congr 1
    by_cases q : sbV c s m S w ≠ -1 ∧ sbV c s m S n = sbV c s m S w
    · rw [if_pos q, if_pos ⟨sb_n1.mp q.1, (sb_eq hs hm).mp q.2⟩]
    · rw [if_neg q, if_neg (fun z => q ⟨sb_n1.mpr z.1, (sb_eq hs hm).mpr z.2⟩)]
theorem sb_mx {c : KC} {s : ST} {m : Nat} {S : Nat → Bool} (hs : okS c s) (hm : isMv c m = true) : mostV c s m S = mxA (sbC c s m S) 10 := by
  rw [mxA_mx]
  unfold mostV
  have : ∀ n, mxI (sbV c s m S) n = mxI (sbC c s m S) n := by
    intro n
    induction n with
    | zero => rfl
    | succ n ih =>
      show (if mxI (sbV c s m S) n < cntI (sbV c s m S) n 10 then _ else _) = (if mxI (sbC c s m S) n < cntI (sbC c s m S) n 10 then _ else _)
      rw [ih, sb_cnt hs hm]
  exact this 10
theorem s_bit {S : Nat → Bool} {v : Nat} (hv : v < 10) : iand ((bitsF 10 S : Int) / 2 ^ sh (v : Int)) 1 = if S v then 1 else 0 := by
  have hl := bitsF_lt (n := 10) (f := S)
  rw [sh_nat (by omega), castP, ← Int.natCast_ediv, iand_1]
  have h := bit_at (n := 10) (S := S) (w := v) hv
  by_cases q : S v = true
  · rw [if_pos q]
    have := h.mpr q
    omega
  · rw [if_neg q]
    have := mt h.mp q
    omega
theorem To_aLp {h : PH} {i : Nat → Int} {g : Int → Int} {S : Nat → Bool} {G : Nat → Int} {w : Nat} {x2 x3 x5 x7 : Int} (hw : w < 10) (v1 : hp h 61 = toO i) (v3 : hp h 63 = aI 0 10 g) (hS : S w = true) (hG : ∀ v, S v = true → 0 ≤ G v ∧ G v < 64) (hN : ∀ v, ¬ S v = true → G v = -1) (hg : ∀ v, v ≤ w → S v = true → g v = G v) :
    ∀ (r v : Nat), v + r = w + 1 → ∀ d Q, WP d 107 75 [some (vr 61), some (vr 27), some (vi x2), some (vi x3), some (vi (bitsF 10 S)), some (vi x5), some (vi w), some (vi x7), some (vi (cntI G w v)), some (vi v)] [] h Q = WP d 107 119 [some (vr 61), some (vr 27), some (vi x2), some (vi x3), some (vi (bitsF 10 S)), some (vi x5), some (vi w), some (vi x7), some (vi (cntI G w (w + 1))), some (vi ((w + 1 : Nat) : Int))] [] h Q := by
  have hl := bitsF_lt (n := 10) (f := S)
  have e1024 : 2 ^ 10 = 1024 := by decide
  intro r
  induction r with
  | zero =>
    intro v hv d Q
    have ev : v = w + 1 := by omega
    subst ev
    rw [e_107_75]
    simp (disch := omega) only [e_107_77, e_107_79, toO_c, toO_g0, toO_k0, toO_g1, toO_k1, toO_s1, toO_g2, toO_k2, toO_s2, toO_g3, toO_k3, toO_s3, toO_g4, toO_k4, toO_s4, toO_g5, toO_k5, toO_g6, toO_k6, toO_s6, hoO_c, hoO_g0, hoO_k0, hoO_s0, hoO_g1, hoO_k1, hoO_s1, hoO_g2, hoO_k2, hoO_s2, hoO_g3, hoO_k3, hoO_g4, hoO_k4, hoO_g5, hoO_k5, hoO_g6, hoO_k6, hoO_g7, hoO_k7, hoO_g8, hoO_k8, hoO_g9, hoO_k9, hoO_s9, iup_s, iup_n, hp_up1, hp_upn, ne_eq, not_false_eq_true, sh_0, sh_1, sh_2, sh_3, sh_4, sh_5, sh_8, sh_15, sh_16, sh_24, Int.reducePow, Int.cast_ofNat_Int, w_of, wl_of, ltT, ltF, leT, leF, eqT, eqF, okF_0, okF_s, gF_0, gF_s, consC_o, sF_0, sF_s, clsO_o, inA_i, ldA_i, stA_i, inJ_l, ldJ_l, stJ_l, inR_r, ldR_r, stR_r, tgR_r, lenA_i, lenA_l, lenA_r, lenA_ex, nl_i, nl_o, nl_l, nl_n, wd_n, wd_i, wd_l, wd_o, fit_i, fit_l, fit_o, K_v, K_n, true_and, and_true, Nat.reduceAdd, Nat.reduceLeDiff, Nat.reduceEqDiff, Nat.reduceMul, Nat.reduceLT, reduceIte, true_or, or_true, cmp_lt, cmp_gt, cmp_eq, wb_0, b_01, cmp_lt', cmp_gt', cmp_eq', b_0, b_1, wb_1, Int.reduceSub, Int.reduceToNat, List.getD_cons_succ, List.getD_cons_zero, Int.reduceLE, Int.reduceLT, Int.reduceEq, Int.reduceNeg, Int.reduceAdd, Int.reduceMul, and_self, em_b, ne_eq, not_false_eq_true, not_true_eq_false]
    try rfl
  | succ r ih =>
    intro v hv d Q
    have ev : (v : Int) + 1 = ((v + 1 : Nat) : Int) := by omega
    have hb := s_bit (S := S) (v := v) (by omega)
    have gw := hg w (Nat.le_refl _) hS
    have gwb := hG w hS
    have hc := cntI_le (f := G) (w := w) (n := v)
    rw [← ih (v + 1) (by omega) d Q]
    by_cases q : S v = true
    · rw [if_pos q] at hb
      have gv := hg v (by omega) q
      have gvb := hG v q
      by_cases e : G v = G w
      · have ec : cntI G w (v + 1) = cntI G w v + 1 := by rw [cnt_s, if_pos ⟨by omega, e⟩]
        rw [ec]
        have ec2 : (cntI G w v : Int) + 1 = ((cntI G w v + 1 : Nat) : Int) := by omega
        rw [e_107_75]
        simp (disch := omega) only [e_107_77, e_107_79, e_107_82, e_107_84, e_107_86, e_107_87, e_107_88, e_107_89, e_107_90, e_107_93, e_107_94, e_107_97, e_107_99, e_107_100, e_107_101, e_107_104, e_107_106, e_107_107, e_107_110, e_107_113, e_107_116, v1, v3, hb, gv, gw, e, ev, ec2, true_and, toO_c, toO_g0, toO_k0, toO_g1, toO_k1, toO_s1, toO_g2, toO_k2, toO_s2, toO_g3, toO_k3, toO_s3, toO_g4, toO_k4, toO_s4, toO_g5, toO_k5, toO_g6, toO_k6, toO_s6, hoO_c, hoO_g0, hoO_k0, hoO_s0, hoO_g1, hoO_k1, hoO_s1, hoO_g2, hoO_k2, hoO_s2, hoO_g3, hoO_k3, hoO_g4, hoO_k4, hoO_g5, hoO_k5, hoO_g6, hoO_k6, hoO_g7, hoO_k7, hoO_g8, hoO_k8, hoO_g9, hoO_k9, hoO_s9, iup_s, iup_n, hp_up1, hp_upn, ne_eq, not_false_eq_true, sh_0, sh_1, sh_2, sh_3, sh_4, sh_5, sh_8, sh_15, sh_16, sh_24, Int.reducePow, Int.cast_ofNat_Int, w_of, wl_of, ltT, ltF, leT, leF, eqT, eqF, okF_0, okF_s, gF_0, gF_s, consC_o, sF_0, sF_s, clsO_o, inA_i, ldA_i, stA_i, inJ_l, ldJ_l, stJ_l, inR_r, ldR_r, stR_r, tgR_r, lenA_i, lenA_l, lenA_r, lenA_ex, nl_i, nl_o, nl_l, nl_n, wd_n, wd_i, wd_l, wd_o, fit_i, fit_l, fit_o, K_v, K_n, true_and, and_true, Nat.reduceAdd, Nat.reduceLeDiff, Nat.reduceEqDiff, Nat.reduceMul, Nat.reduceLT, reduceIte, true_or, or_true, cmp_lt, cmp_gt, cmp_eq, wb_0, b_01, cmp_lt', cmp_gt', cmp_eq', b_0, b_1, wb_1, Int.reduceSub, Int.reduceToNat, List.getD_cons_succ, List.getD_cons_zero, Int.reduceLE, Int.reduceLT, Int.reduceEq, Int.reduceNeg, Int.reduceAdd, Int.reduceMul, and_self, em_b, ne_eq, not_false_eq_true, not_true_eq_false]
        try rfl
      · have ec : cntI G w (v + 1) = cntI G w v := by rw [cnt_s, if_neg (fun z => e z.2)]; rfl
        rw [ec]
        rw [e_107_75]
        simp (disch := omega) only [e_107_77, e_107_79, e_107_82, e_107_84, e_107_86, e_107_87, e_107_88, e_107_89, e_107_90, e_107_93, e_107_94, e_107_97, e_107_99, e_107_100, e_107_101, e_107_104, e_107_106, e_107_107, e_107_113, e_107_116, v1, v3, hb, gv, gw, e, ev, true_and, toO_c, toO_g0, toO_k0, toO_g1, toO_k1, toO_s1, toO_g2, toO_k2, toO_s2, toO_g3, toO_k3, toO_s3, toO_g4, toO_k4, toO_s4, toO_g5, toO_k5, toO_g6, toO_k6, toO_s6, hoO_c, hoO_g0, hoO_k0, hoO_s0, hoO_g1, hoO_k1, hoO_s1, hoO_g2, hoO_k2, hoO_s2, hoO_g3, hoO_k3, hoO_g4, hoO_k4, hoO_g5, hoO_k5, hoO_g6, hoO_k6, hoO_g7, hoO_k7, hoO_g8, hoO_k8, hoO_g9, hoO_k9, hoO_s9, iup_s, iup_n, hp_up1, hp_upn, ne_eq, not_false_eq_true, sh_0, sh_1, sh_2, sh_3, sh_4, sh_5, sh_8, sh_15, sh_16, sh_24, Int.reducePow, Int.cast_ofNat_Int, w_of, wl_of, ltT, ltF, leT, leF, eqT, eqF, okF_0, okF_s, gF_0, gF_s, consC_o, sF_0, sF_s, clsO_o, inA_i, ldA_i, stA_i, inJ_l, ldJ_l, stJ_l, inR_r, ldR_r, stR_r, tgR_r, lenA_i, lenA_l, lenA_r, lenA_ex, nl_i, nl_o, nl_l, nl_n, wd_n, wd_i, wd_l, wd_o, fit_i, fit_l, fit_o, K_v, K_n, true_and, and_true, Nat.reduceAdd, Nat.reduceLeDiff, Nat.reduceEqDiff, Nat.reduceMul, Nat.reduceLT, reduceIte, true_or, or_true, cmp_lt, cmp_gt, cmp_eq, wb_0, b_01, cmp_lt', cmp_gt', cmp_eq', b_0, b_1, wb_1, Int.reduceSub, Int.reduceToNat, List.getD_cons_succ, List.getD_cons_zero, Int.reduceLE, Int.reduceLT, Int.reduceEq, Int.reduceNeg, Int.reduceAdd, Int.reduceMul, and_self, em_b, ne_eq, not_false_eq_true, not_true_eq_false]
        try rfl
    · rw [if_neg q] at hb
      have gv := hN v q
      have ec : cntI G w (v + 1) = cntI G w v := by rw [cnt_s, if_neg (fun z => by have := z.2; omega)]; rfl
      rw [ec]
      rw [e_107_75]
      simp (disch := omega) only [e_107_77, e_107_79, e_107_82, e_107_84, e_107_86, e_107_87, e_107_88, e_107_89, e_107_90, e_107_113, e_107_116, v1, v3, hb, ev, true_and, toO_c, toO_g0, toO_k0, toO_g1, toO_k1, toO_s1, toO_g2, toO_k2, toO_s2, toO_g3, toO_k3, toO_s3, toO_g4, toO_k4, toO_s4, toO_g5, toO_k5, toO_g6, toO_k6, toO_s6, hoO_c, hoO_g0, hoO_k0, hoO_s0, hoO_g1, hoO_k1, hoO_s1, hoO_g2, hoO_k2, hoO_s2, hoO_g3, hoO_k3, hoO_g4, hoO_k4, hoO_g5, hoO_k5, hoO_g6, hoO_k6, hoO_g7, hoO_k7, hoO_g8, hoO_k8, hoO_g9, hoO_k9, hoO_s9, iup_s, iup_n, hp_up1, hp_upn, ne_eq, not_false_eq_true, sh_0, sh_1, sh_2, sh_3, sh_4, sh_5, sh_8, sh_15, sh_16, sh_24, Int.reducePow, Int.cast_ofNat_Int, w_of, wl_of, ltT, ltF, leT, leF, eqT, eqF, okF_0, okF_s, gF_0, gF_s, consC_o, sF_0, sF_s, clsO_o, inA_i, ldA_i, stA_i, inJ_l, ldJ_l, stJ_l, inR_r, ldR_r, stR_r, tgR_r, lenA_i, lenA_l, lenA_r, lenA_ex, nl_i, nl_o, nl_l, nl_n, wd_n, wd_i, wd_l, wd_o, fit_i, fit_l, fit_o, K_v, K_n, true_and, and_true, Nat.reduceAdd, Nat.reduceLeDiff, Nat.reduceEqDiff, Nat.reduceMul, Nat.reduceLT, reduceIte, true_or, or_true, cmp_lt, cmp_gt, cmp_eq, wb_0, b_01, cmp_lt', cmp_gt', cmp_eq', b_0, b_1, wb_1, Int.reduceSub, Int.reduceToNat, List.getD_cons_succ, List.getD_cons_zero, Int.reduceLE, Int.reduceLT, Int.reduceEq, Int.reduceNeg, Int.reduceAdd, Int.reduceMul, and_self, em_b, ne_eq, not_false_eq_true, not_true_eq_false]
      try rfl
theorem after_m {c : KC} {w m : Nat} {s : ST} (hK : okK c) (hm : isMv c m = true) : afterO c w s (deedM m) = if canM c w s m then some (toM c w s m) else none := by
  unfold afterO
  rw [moveD_deed hK hm]
theorem deedM_lt {c : KC} {m : Nat} (hK : okK c) (hm : isMv c m = true) : m < 19 ∧ deedM m < 200 := by
  have hN := hK.2.2
  have hP := hK.2.1
  obtain ⟨m', -⟩ : ∃ n, n = deedM m := ⟨_, rfl⟩
  have h1 := (moveD_some hK (moveD_deed hK hm)).2.1
  refine ⟨h1, ?_⟩
  unfold deedM
  split <;> (try split) <;> omega
theorem To_wLp {ow : Nat → Nat} {ca : Nat} {c : KC} {e m : Nat} {s : ST} {S : Nat → Bool} {l : List Int} {j : Nat} (hO : okC c) (hs : okS c s) (hm : isMv c m = true) :
    ∀ (r w : Nat) (h : PH) (sky : Nat) (i : Nat → Int) (f g : Int → Int) (o7 o8 o9 : Option PV), w + r = 10 → owF ow h → HoP ow h ca c sky e → hp h 61 = toO i → hp h 62 = aI 0 8 f → hp h 63 = aI 0 10 g → (∀ v, v < w → S v = true → g v = sbC c s m S v) → ∃ (h' : PH) (sky' : Nat) (g' : Int → Int), chg ow [1, 7] h h' ∧ HoP ow h' ca c sky' e ∧ hp h' 61 = toO i ∧ hp h' 62 = aI 0 8 f ∧ hp h' 63 = aI 0 10 g' ∧ ∀ d Q, WP (d + 10) 107 6 [some (vr 61), some (vr 27), some (vi (encC c s)), some (vi (deedM m)), some (vi (bitsF 10 S)), some (vi (mxA (sbC c s m S) w)), some (vi w), o7, o8, o9] [] h Q = Q (some (vi (mxA (sbC c s m S) 10))) h' := by
  have hK := hO.1
  have h24 := szC_le hK
  have hsl := encC_lt hK hs
  have hl := bitsF_lt (n := 10) (f := S)
  have e1024 : 2 ^ 10 = 1024 := by decide
  obtain ⟨hm19, hd200⟩ := deedM_lt hK hm
  intro r
  induction r with
  | zero =>
    intro w h sky i f g o7 o8 o9 hw hF hH v1 v2 v3 hg
    have ew : w = 10 := by omega
    subst ew
    refine ⟨h, sky, g, chg_r, hH, v1, v2, v3, fun d Q => ?_⟩
    have e10 : ((10 : Nat) : Int) = 10 := rfl
    rw [e_107_6]
    simp (disch := omega) only [e_107_8, e_107_10, e_107_134, e_107_136, e10, toO_c, toO_g0, toO_k0, toO_g1, toO_k1, toO_s1, toO_g2, toO_k2, toO_s2, toO_g3, toO_k3, toO_s3, toO_g4, toO_k4, toO_s4, toO_g5, toO_k5, toO_g6, toO_k6, toO_s6, hoO_c, hoO_g0, hoO_k0, hoO_s0, hoO_g1, hoO_k1, hoO_s1, hoO_g2, hoO_k2, hoO_s2, hoO_g3, hoO_k3, hoO_g4, hoO_k4, hoO_g5, hoO_k5, hoO_g6, hoO_k6, hoO_g7, hoO_k7, hoO_g8, hoO_k8, hoO_g9, hoO_k9, hoO_s9, iup_s, iup_n, hp_up1, hp_upn, ne_eq, not_false_eq_true, sh_0, sh_1, sh_2, sh_3, sh_4, sh_5, sh_8, sh_15, sh_16, sh_24, Int.reducePow, Int.cast_ofNat_Int, w_of, wl_of, ltT, ltF, leT, leF, eqT, eqF, okF_0, okF_s, gF_0, gF_s, consC_o, sF_0, sF_s, clsO_o, inA_i, ldA_i, stA_i, inJ_l, ldJ_l, stJ_l, inR_r, ldR_r, stR_r, tgR_r, lenA_i, lenA_l, lenA_r, lenA_ex, nl_i, nl_o, nl_l, nl_n, wd_n, wd_i, wd_l, wd_o, fit_i, fit_l, fit_o, K_v, K_n, true_and, and_true, Nat.reduceAdd, Nat.reduceLeDiff, Nat.reduceEqDiff, Nat.reduceMul, Nat.reduceLT, reduceIte, true_or, or_true, cmp_lt, cmp_gt, cmp_eq, wb_0, b_01, cmp_lt', cmp_gt', cmp_eq', b_0, b_1, wb_1, Int.reduceSub, Int.reduceToNat, List.getD_cons_succ, List.getD_cons_zero, Int.reduceLE, Int.reduceLT, Int.reduceEq, Int.reduceNeg, Int.reduceAdd, Int.reduceMul, and_self, em_b, ne_eq, not_false_eq_true, not_true_eq_false]
    try rfl
  | succ r ih =>
    intro w h sky i f g o7 o8 o9 hw hF hH v1 v2 v3 hg
    have hb := s_bit (S := S) (v := w) (by omega)
    have ew : (w : Int) + 1 = ((w + 1 : Nat) : Int) := by omega
    have hmx : ∀ n, n ≤ 10 → mxA (sbC c s m S) n ≤ 10 := fun n hn => mxA_le hn (fun w hw => cntI_le)
    have hm1 := hmx w (by omega)
    obtain ⟨iy, h27⟩ : ∃ i, hp h 27 = hoO i (vr ca) := by obtain ⟨i, A, a1, _⟩ := hH; exact ⟨i, a1⟩
    by_cases q : S w = true
    · rw [if_pos q] at hb
      obtain ⟨h1, b1, b2, b3⟩ := HoP_sky (sky' := w) hF hH (by omega)
      have hF1 := chg_F b1 hF
      obtain ⟨h2, c1, c2, c3⟩ := H_after (x := (deedM m : Int)) hF1 b2 hs ⟨by omega, by omega⟩
      rw [after_m hK hm] at c3
      have hF2 := chg_F c1 hF1
      obtain ⟨t1, t2, t3⟩ := tg_to hF
      have b12 := chg_t b1 c1
      have e61 : hp h2 61 = toO i := by rw [chg_at b12 t1 (by decide)]; exact v1
      have e62 : hp h2 62 = aI 0 8 f := by rw [chg_at b12 t2 (by decide)]; exact v2
      have e63 : hp h2 63 = aI 0 10 g := by rw [chg_at b12 t3 (by decide)]; exact v3
      obtain ⟨hKC⟩ : Nonempty (KCty ow h2 ca c) := by obtain ⟨_, _, _, _, _, _, _, _, _, _, a9⟩ := c2; exact ⟨a9⟩
      obtain ⟨y4, y5, y6, y7, y8, y9, y10, y11, y14, y15, y17, hA⟩ := KCty_sz hKC
      obtain ⟨iz, g27⟩ : ∃ i, hp h1 27 = hoO i (vr ca) := by obtain ⟨i, A, a1, _⟩ := b2; exact ⟨i, a1⟩
      obtain ⟨ix, k27⟩ : ∃ i, hp h2 27 = hoO i (vr ca) := by obtain ⟨i, A, a1, _⟩ := c2; exact ⟨i, a1⟩
      have hoo := outW_ok (w := w) hs hm
      have so := fun (d : Nat) (Q : PQ) => c_strengthsOf (d := d) (Q := Q) hK hKC.1 hoo
      have hel := encP_lt (B := 4) (n := kN c) (f := (outW c s m w).2.2) (fun i hi => (hoo.1 i hi).2)
      have eG : sbC c s m S w = (encP 4 (kN c) (outW c s m w).2.2 : Int) := by unfold sbC; rw [if_pos q]
      have h64 : 4 ^ kN c ≤ 4 ^ 3 := Nat.pow_le_pow_right (by decide) hK.2.2
      have hGb : ∀ v, S v = true → 0 ≤ sbC c s m S v ∧ sbC c s m S v < 64 := fun v hv => by
        have := encP_lt (B := 4) (n := kN c) (f := (outW c s m v).2.2) (fun i hi => ((outW_ok (w := v) hs hm).1 i hi).2)
        unfold sbC
        rw [if_pos hv]
        omega
      have hGn : ∀ v, ¬ S v = true → sbC c s m S v = -1 := fun v hv => by unfold sbC; rw [if_neg hv]
      have hg2 : ∀ v, v ≤ w → S v = true → fset g (w : Nat) (encP 4 (kN c) (outW c s m w).2.2 : Nat) v = sbC c s m S v := fun v hv hSv => by
        by_cases z : v = w
        · rw [z, fs_same, eG]
        · rw [fs_ne (by omega)]; exact hg v (by omega) hSv
      have hch : chg ow [7] h2 (hup h2 63 (aI 0 10 (fset g (w : Nat) (encP 4 (kN c) (outW c s m w).2.2 : Nat)))) := chg_up t3 (by decide)
      have lp : ∀ (x7 : Int) d Q, WP d 107 75 [some (vr 61), some (vr 27), some (vi (encC c s)), some (vi (deedM m)), some (vi (bitsF 10 S)), some (vi (mxA (sbC c s m S) w)), some (vi w), some (vi x7), some (vi (cntI (sbC c s m S) w 0)), some (vi (0 : Nat))] [] (hup h2 63 (aI 0 10 (fset g (w : Nat) (encP 4 (kN c) (outW c s m w).2.2 : Nat)))) Q = _ := fun x7 => To_aLp (i := i) (x2 := (encC c s : Int)) (x3 := (deedM m : Int)) (x5 := (mxA (sbC c s m S) w : Int)) (x7 := x7) (show w < 10 by omega) (by rw [hp_upn (by omega)]; exact e61) hp_up1 q hGb hGn hg2 (w + 1) 0 (by omega)
      rw [nc0, show ((cntI (sbC c s m S) w 0 : Nat) : Int) = 0 from rfl] at lp
      have hcl := cntI_le (f := sbC c s m S) (w := w) (n := w + 1)
      have hmax : (if (mxA (sbC c s m S) w : Int) < (cntI (sbC c s m S) w (w + 1) : Int) then (cntI (sbC c s m S) w (w + 1) : Int) else (mxA (sbC c s m S) w : Int)) = (mxA (sbC c s m S) (w + 1) : Int) := by
        rw [mxA_s]
        by_cases z : mxA (sbC c s m S) w < cntI (sbC c s m S) w (w + 1)
        · rw [if_pos z, if_pos (by omega)]
        · rw [if_neg z, if_neg (by omega)]
      have b3' := fun (d : Nat) (Q : PQ) => b3 d Q
      have c3' := fun (d : Nat) (Q : PQ) => c3 d Q
      by_cases hc : canM c w s m = true
      · have hto : okS c (toM c w s m) := toM_ok hs hm
        have htol := encC_lt hK hto
        have eo : outW c s m w = toM c w s m := by
          have : whyM c w s m = 0 := by
            unfold canM at hc
            rw [hm, Bool.true_and] at hc
            exact of_decide_eq_true hc
          unfold outW; rw [if_pos this]
        simp only [hc, if_true, encO] at c3'
        rw [eo] at so lp hch hg2 eG
        obtain ⟨h', sky', g', d1, d2, d3, d4, d5, d6⟩ := ih (w + 1) _ w i f _ (some (vi (encC c (toM c w s m)))) (some (vi (cntI (sbC c s m S) w (w + 1)))) (some (vi ((w + 1 : Nat) : Int))) (by omega) (chg_F hch hF2) (HoP_c hF2 hch (by decide) (by decide) c2) (by rw [hp_upn (by omega)]; exact e61) (by rw [hp_upn (by omega)]; exact e62) hp_up1 (fun v hv hSv => hg2 v (by omega) hSv)
        refine ⟨h', sky', g', chg_t (chg_w b12 (by decide)) (chg_t (chg_w hch (by decide)) d1), d2, d3, d4, d5, fun d Q => ?_⟩
        rw [← d6 d Q]
        rw [e_107_6]
        simp (disch := omega) only [e_107_8, e_107_10, e_107_13, e_107_15, e_107_17, e_107_18, e_107_19, e_107_20, e_107_21, e_107_24, e_107_25, e_107_26, e_107_29, e_107_31, e_107_34, e_107_35, e_107_36, e_107_37, e_107_38, e_107_41, e_107_43, e_107_44, e_107_47, e_107_49, e_107_50, e_107_53, e_107_55, e_107_56, e_107_59, e_107_60, e_107_63, e_107_65, e_107_68, e_107_69, e_107_70, e_107_72, e_107_73, e_107_119, e_107_121, e_107_123, e_107_126, e_107_128, e_107_131, h27, g27, k27, hb, b3', c3', hA, so, e61, e63, lp, m_max, hmax, ew, true_and, toO_c, toO_g0, toO_k0, toO_g1, toO_k1, toO_s1, toO_g2, toO_k2, toO_s2, toO_g3, toO_k3, toO_s3, toO_g4, toO_k4, toO_s4, toO_g5, toO_k5, toO_g6, toO_k6, toO_s6, hoO_c, hoO_g0, hoO_k0, hoO_s0, hoO_g1, hoO_k1, hoO_s1, hoO_g2, hoO_k2, hoO_s2, hoO_g3, hoO_k3, hoO_g4, hoO_k4, hoO_g5, hoO_k5, hoO_g6, hoO_k6, hoO_g7, hoO_k7, hoO_g8, hoO_k8, hoO_g9, hoO_k9, hoO_s9, iup_s, iup_n, hp_up1, hp_upn, ne_eq, not_false_eq_true, sh_0, sh_1, sh_2, sh_3, sh_4, sh_5, sh_8, sh_15, sh_16, sh_24, Int.reducePow, Int.cast_ofNat_Int, w_of, wl_of, ltT, ltF, leT, leF, eqT, eqF, okF_0, okF_s, gF_0, gF_s, consC_o, sF_0, sF_s, clsO_o, inA_i, ldA_i, stA_i, inJ_l, ldJ_l, stJ_l, inR_r, ldR_r, stR_r, tgR_r, lenA_i, lenA_l, lenA_r, lenA_ex, nl_i, nl_o, nl_l, nl_n, wd_n, wd_i, wd_l, wd_o, fit_i, fit_l, fit_o, K_v, K_n, true_and, and_true, Nat.reduceAdd, Nat.reduceLeDiff, Nat.reduceEqDiff, Nat.reduceMul, Nat.reduceLT, reduceIte, true_or, or_true, cmp_lt, cmp_gt, cmp_eq, wb_0, b_01, cmp_lt', cmp_gt', cmp_eq', b_0, b_1, wb_1, Int.reduceSub, Int.reduceToNat, List.getD_cons_succ, List.getD_cons_zero, Int.reduceLE, Int.reduceLT, Int.reduceEq, Int.reduceNeg, Int.reduceAdd, Int.reduceMul, and_self, em_b, ne_eq, not_false_eq_true, not_true_eq_false]
        try rfl
      · have eo : outW c s m w = s := by
          have : ¬ whyM c w s m = 0 := fun z => hc (by unfold canM; rw [hm, z]; rfl)
          unfold outW; rw [if_neg this]
        simp only [hc, if_false, encO, Bool.false_eq_true] at c3'
        rw [eo] at so lp hch hg2 eG
        obtain ⟨h', sky', g', d1, d2, d3, d4, d5, d6⟩ := ih (w + 1) _ w i f _ (some (vi (-1))) (some (vi (cntI (sbC c s m S) w (w + 1)))) (some (vi ((w + 1 : Nat) : Int))) (by omega) (chg_F hch hF2) (HoP_c hF2 hch (by decide) (by decide) c2) (by rw [hp_upn (by omega)]; exact e61) (by rw [hp_upn (by omega)]; exact e62) hp_up1 (fun v hv hSv => hg2 v (by omega) hSv)
        refine ⟨h', sky', g', chg_t (chg_w b12 (by decide)) (chg_t (chg_w hch (by decide)) d1), d2, d3, d4, d5, fun d Q => ?_⟩
        rw [← d6 d Q]
        rw [e_107_6]
        simp (disch := omega) only [e_107_8, e_107_10, e_107_13, e_107_15, e_107_17, e_107_18, e_107_19, e_107_20, e_107_21, e_107_24, e_107_25, e_107_26, e_107_29, e_107_31, e_107_34, e_107_35, e_107_36, e_107_37, e_107_38, e_107_41, e_107_43, e_107_44, e_107_47, e_107_49, e_107_50, e_107_53, e_107_55, e_107_56, e_107_59, e_107_60, e_107_63, e_107_65, e_107_68, e_107_69, e_107_70, e_107_72, e_107_73, e_107_119, e_107_121, e_107_123, e_107_126, e_107_128, e_107_131, h27, g27, k27, hb, b3', c3', hA, so, e61, e63, lp, m_max, hmax, ew, true_and, toO_c, toO_g0, toO_k0, toO_g1, toO_k1, toO_s1, toO_g2, toO_k2, toO_s2, toO_g3, toO_k3, toO_s3, toO_g4, toO_k4, toO_s4, toO_g5, toO_k5, toO_g6, toO_k6, toO_s6, hoO_c, hoO_g0, hoO_k0, hoO_s0, hoO_g1, hoO_k1, hoO_s1, hoO_g2, hoO_k2, hoO_s2, hoO_g3, hoO_k3, hoO_g4, hoO_k4, hoO_g5, hoO_k5, hoO_g6, hoO_k6, hoO_g7, hoO_k7, hoO_g8, hoO_k8, hoO_g9, hoO_k9, hoO_s9, iup_s, iup_n, hp_up1, hp_upn, ne_eq, not_false_eq_true, sh_0, sh_1, sh_2, sh_3, sh_4, sh_5, sh_8, sh_15, sh_16, sh_24, Int.reducePow, Int.cast_ofNat_Int, w_of, wl_of, ltT, ltF, leT, leF, eqT, eqF, okF_0, okF_s, gF_0, gF_s, consC_o, sF_0, sF_s, clsO_o, inA_i, ldA_i, stA_i, inJ_l, ldJ_l, stJ_l, inR_r, ldR_r, stR_r, tgR_r, lenA_i, lenA_l, lenA_r, lenA_ex, nl_i, nl_o, nl_l, nl_n, wd_n, wd_i, wd_l, wd_o, fit_i, fit_l, fit_o, K_v, K_n, true_and, and_true, Nat.reduceAdd, Nat.reduceLeDiff, Nat.reduceEqDiff, Nat.reduceMul, Nat.reduceLT, reduceIte, true_or, or_true, cmp_lt, cmp_gt, cmp_eq, wb_0, b_01, cmp_lt', cmp_gt', cmp_eq', b_0, b_1, wb_1, Int.reduceSub, Int.reduceToNat, List.getD_cons_succ, List.getD_cons_zero, Int.reduceLE, Int.reduceLT, Int.reduceEq, Int.reduceNeg, Int.reduceAdd, Int.reduceMul, and_self, em_b, ne_eq, not_false_eq_true, not_true_eq_false]
        try rfl
    · rw [if_neg q] at hb
      have e0 : mxA (sbC c s m S) (w + 1) = mxA (sbC c s m S) w := by
        have hz : ∀ n, cntI (sbC c s m S) w n = 0 := by
          intro n
          induction n with
          | zero => rfl
          | succ n ihn => rw [cnt_s, ihn, if_neg (fun z => z.1 (by unfold sbC; rw [if_neg q]))]
        rw [mxA_s, hz, if_neg (by omega)]
      obtain ⟨h', sky', g', d1, d2, d3, d4, d5, d6⟩ := ih (w + 1) h sky i f g o7 o8 o9 (by omega) hF hH v1 v2 v3 (fun v hv hSv => hg v (by
        have : v ≠ w := fun z => q (by rw [← z]; exact hSv)
        omega) hSv)
      refine ⟨h', sky', g', d1, d2, d3, d4, d5, fun d Q => ?_⟩
      rw [← d6 d Q, e0]
      rw [e_107_6]
      simp (disch := omega) only [e_107_8, e_107_10, e_107_13, e_107_15, e_107_17, e_107_18, e_107_19, e_107_20, e_107_21, e_107_128, e_107_131, hb, ew, true_and, toO_c, toO_g0, toO_k0, toO_g1, toO_k1, toO_s1, toO_g2, toO_k2, toO_s2, toO_g3, toO_k3, toO_s3, toO_g4, toO_k4, toO_s4, toO_g5, toO_k5, toO_g6, toO_k6, toO_s6, hoO_c, hoO_g0, hoO_k0, hoO_s0, hoO_g1, hoO_k1, hoO_s1, hoO_g2, hoO_k2, hoO_s2, hoO_g3, hoO_k3, hoO_g4, hoO_k4, hoO_g5, hoO_k5, hoO_g6, hoO_k6, hoO_g7, hoO_k7, hoO_g8, hoO_k8, hoO_g9, hoO_k9, hoO_s9, iup_s, iup_n, hp_up1, hp_upn, ne_eq, not_false_eq_true, sh_0, sh_1, sh_2, sh_3, sh_4, sh_5, sh_8, sh_15, sh_16, sh_24, Int.reducePow, Int.cast_ofNat_Int, w_of, wl_of, ltT, ltF, leT, leF, eqT, eqF, okF_0, okF_s, gF_0, gF_s, consC_o, sF_0, sF_s, clsO_o, inA_i, ldA_i, stA_i, inJ_l, ldJ_l, stJ_l, inR_r, ldR_r, stR_r, tgR_r, lenA_i, lenA_l, lenA_r, lenA_ex, nl_i, nl_o, nl_l, nl_n, wd_n, wd_i, wd_l, wd_o, fit_i, fit_l, fit_o, K_v, K_n, true_and, and_true, Nat.reduceAdd, Nat.reduceLeDiff, Nat.reduceEqDiff, Nat.reduceMul, Nat.reduceLT, reduceIte, true_or, or_true, cmp_lt, cmp_gt, cmp_eq, wb_0, b_01, cmp_lt', cmp_gt', cmp_eq', b_0, b_1, wb_1, Int.reduceSub, Int.reduceToNat, List.getD_cons_succ, List.getD_cons_zero, Int.reduceLE, Int.reduceLT, Int.reduceEq, Int.reduceNeg, Int.reduceAdd, Int.reduceMul, and_self, em_b, ne_eq, not_false_eq_true, not_true_eq_false]
      try rfl
