/-! A COUNTY READ: its function; the class's call -/
def cyP (b : List Int) (n : Nat) (x : TS × KC × List Int) : Prop := RLp b n x.1 x.2.1 x.2.2 ∧ JCc b n x.1 x.2.1 x.2.2 ∧ JCf b n x.1 x.2.1 x.2.2
noncomputable def cyX (b : List Int) (n : Nat) : TS × KC × List Int := @Classical.epsilon _ ⟨(.inl 0, kc0 1, [])⟩ (cyP b n)
theorem cyX_s {b : List Int} {n : Nat} (hnb : n ≤ b.length) (hb9 : b.length ≤ 900) : cyP b n (cyX b n) := by
  refine Classical.epsilon_spec (p := cyP b n) ?_
  obtain ⟨s', c', C', h1, h2, h3⟩ := JC_ex hnb hb9
  exact ⟨(s', c', C'), h1, h2, h3⟩
def cyM (M : MS) (x : TS × KC × List Int) : Int × MS := match x.1 with
  | .inl _ => ((kLines x.2.1 : Int), (x.2.1, (kFst x.2.1, kSky x.2.1, 0), [], mI M, mT M, [], 0, -1))
  | .inr (f, a) => (-30 - f, (mC M, mZ M, mP M, mI M, mT M, [], f, a))
noncomputable def ctyF (M : MS) (x : Int) : Int × MS := if 0 ≤ x ∧ x ≤ ((mB M).length : Int) then cyM M (cyX (mB M) x.toNat) else (-3, M)
theorem okD_C {c : KC} (h : okD c) (hl : kLines c ≤ 900) : okC c := ⟨h.1, h.2.1, h.2.2.1, h.2.2.2.1, h.2.2.2.2.1, h.2.2.2.2.2.1, h.2.2.2.2.2.2.1, h.2.2.2.2.2.2.2.1, hl, h.2.2.2.2.2.2.2.2.1, h.2.2.2.2.2.2.2.2.2.1⟩
def rdA (f12 f14 f15 f16 f17 f18 f19 : Int → Int) : Nat → Int → Int := fun k => if k = 12 then f12 else if k = 14 then f14 else if k = 15 then f15 else if k = 16 then f16 else if k = 17 then f17 else if k = 18 then f18 else f19
theorem rh_self {h : PH} {i j : Nat → Int} {f12 f14 f15 f16 f17 f18 f19 : Int → Int} (h11 : hp h 11 = tkO i) (h12 : hp h 12 = aI 1 900 f12) (h13 : hp h 13 = rdO j) (h14 : hp h 14 = aI 0 900 f14) (h15 : hp h 15 = aI 0 5 f15) (h16 : hp h 16 = aI 0 5 f16) (h17 : hp h 17 = aI 0 3 f17) (h18 : hp h 18 = aI 0 3 f18) (h19 : hp h 19 = aI 0 3 f19) : rdH h i j (rdA f12 f14 f15 f16 f17 f18 f19) = h := by
  refine Prod.ext rfl (Prod.ext rfl (funext fun k => ?_))
  show hp (rdH h i j (rdA f12 f14 f15 f16 f17 f18 f19)) k = hp h k
  by_cases q : k < 11 ∨ 19 < k
  · exact rh_out q
  · rcases (by omega : k = 11 ∨ k = 12 ∨ k = 13 ∨ k = 14 ∨ k = 15 ∨ k = 16 ∨ k = 17 ∨ k = 18 ∨ k = 19) with z | z | z | z | z | z | z | z | z <;> subst z
    · exact h11.symm
    · exact h12.symm
    · exact h13.symm
    · exact h14.symm
    · exact h15.symm
    · exact h16.symm
    · exact h17.symm
    · exact h18.symm
    · exact h19.symm
/-- what a call of the class does, at a depth -/
def cResD (D : Nat) (ow : Nat → Nat) (h : PH) (S0 k : Nat) (ml : Nat) (ls : PL) (mkv : Int → PV) (R : Int → MS → Prop) : Prop := ∃ (kc' : Nat → KC) (ow' : Nat → Nat) (h' : PH) (e' : Nat) (v : Int) (M' : MS), R v M' ∧ bkI kc' ow' h' M' S0 e' (k + 1) ∧ extO ow h ow' h' allT ∧ ∀ d Q, WP (d + D) ml 0 ls [] h Q = Q (some (mkv v)) h'
theorem hup_com {h : PH} {a b : Nat} {x y : PC} (hn : a ≠ b) : hup (hup h a x) b y = hup (hup h b y) a x := by
  unfold hup
  refine Prod.ext rfl (Prod.ext rfl (funext fun k => ?_))
  dsimp only
  by_cases e : k = b
  · rw [if_pos e, if_neg (by omega), if_pos e]
  · rw [if_neg e, if_neg e]
section kcs
variable {kc kc' : Nat → KC} {ow : Nat → Nat} {h : PH}
theorem cm_inj {i i' : Nat → Int} {a a' : Nat} {p q p' q' : PV} (e : cmO i (vr a) p q = cmO i' (vr a') p' q') : a = a' := by
  have e' : vr a = vr a' := congrArg (fun c => gF c 0) e
  cases e'
  rfl
theorem kp_inj {i i' : Nat → Int} {a a' : Nat} {p p' : PV} (e : kpO i (vr a) p = kpO i' (vr a') p') : a = a' := by
  have e' : vr a = vr a' := congrArg (fun c => gF c 1) e
  cases e'
  rfl
theorem be_inj {i i' : Nat → Int} {a a' : Nat} {p p' : PV} (e : beO i (vr a) p = beO i' (vr a') p') : a = a' := by
  have e' : vr a = vr a' := congrArg (fun c => gF c 1) e
  cases e'
  rfl
theorem EngP_k {nd nc nk nr nb : Nat} {t : Nat} (hk : ∀ a, a < t → kc' a = kc a) (ht : (∃ i cca p, hp h 41 = kpO i (vr cca) p ∧ cca < t) ∧ (∃ i cca p q, hp h 38 = cmO i (vr cca) p q ∧ cca < t) ∧ (∃ i cca p, hp h 59 = beO i (vr cca) p ∧ cca < t)) (hP : EngP kc ow h nd nc nk nr nb) : EngP kc' ow h nd nc nk nr nb := by
  obtain ⟨p1, p2, p3, p4, p5, p6, p7, p8, p9⟩ := hP
  obtain ⟨⟨i1, c1, q1, x1, y1⟩, ⟨i2, c2, q2, r2, x2, y2⟩, ⟨i3, c3, q3, x3, y3⟩⟩ := ht
  refine ⟨p1, ?_, ?_, p4, p5, p6, ?_, p8, p9⟩
  · obtain ⟨i, cca, q, g, fq, fg, m, w1, w2⟩ := p2
    have e : c2 = cca := by have := w1.1; rw [x2] at this; exact cm_inj this
    exact ⟨i, cca, q, g, fq, fg, m, w1, by rw [hk cca (by omega)]; exact w2⟩
  · obtain ⟨i, cca, wA, fw, w1, w2⟩ := p3
    have e : c1 = cca := by have := w1.1; rw [x1] at this; exact kp_inj this
    exact ⟨i, cca, wA, fw, w1, by rw [hk cca (by omega)]; exact w2⟩
  · obtain ⟨i, cca, wA, W, w1, w2⟩ := p7
    have e : c3 = cca := by have := w1; rw [x3] at this; exact be_inj this
    exact ⟨i, cca, wA, W, w1, by rw [hk cca (by omega)]; exact w2⟩
theorem ImO_k {x : Option Nat} {m : Option (KC × ZT)} {t : Nat} (hk : ∀ a, a < t → kc' a = kc a) (ht : h.1 ≤ t) (hP : ImO kc ow h x m) : ImO kc' ow h x m := by
  match m, hP with
  | none, hP => exact hP
  | some (c, z), ⟨a, ca, a1, a2, a3, a4, a5, a6⟩ =>
    have : ca + 6 < h.1 := by
      obtain ⟨_, _, _, _, _, _, w⟩ := a6
      exact w.2.2.2.2
    exact ⟨a, ca, a1, a2, a3, a4, by rw [hk ca (by omega)]; exact a5, a6⟩
theorem ImP_k {I : Nat → Option (KC × ZT)} {t : Nat} (hk : ∀ a, a < t → kc' a = kc a) (ht : h.1 ≤ t) (hP : ImP kc ow h I) : ImP kc' ow h I := by
  obtain ⟨f, i1, i2, i3, i4⟩ := hP
  exact ⟨f, i1, ImO_k hk ht i2, ImO_k hk ht i3, i4⟩
end kcs
theorem Mo_begin {h : PH} {ca : Nat} {c : KC} {i : Nat → Int} {p : PV} (hC : CtyAt h ca c) (h1 : hp h 64 = moO i p) (hne : ca ≠ 64) (hca : 10 ≤ ca) : ∃ k : Nat → Int, k 1 = (encC c (kFst c) : Int) ∧ k 2 = (kSky c : Int) ∧ k 3 = 0 ∧ ∀ d Q, WP d 57 0 [some (vr 64), some (vr ca)] [] h Q = Q none (hup h 64 (moO k (vr ca))) := by
  obtain ⟨tf, tt, mf, mt, n, fh, fw, fa, fc, fg, fp, hA, -⟩ := hC
  refine ⟨iup (iup (iup i 1 (encC c (kFst c))) 2 (kSky c)) 3 0, by rw [iup_n (by omega), iup_n (by omega), iup_s], by rw [iup_n (by omega), iup_s], iup_s, fun d Q => ?_⟩
  simp (disch := omega) only [e_57_0, e_57_1, e_57_2, e_57_5, e_57_6, e_57_7, e_57_10, e_57_13, e_57_14, e_57_15, e_57_18, e_57_21, e_57_22, e_57_23, e_57_26, h1, hA, hca, hne, hup_tt, true_and, moO_c, moO_g0, moO_k0, moO_g1, moO_k1, moO_g2, moO_k2, moO_g3, moO_k3, moO_s0, moO_s1, moO_s2, moO_s3, hoO_c, hoO_g0, hoO_k0, hoO_g1, hoO_k1, hoO_g2, hoO_k2, hoO_g3, hoO_k3, hoO_g4, hoO_k4, hoO_g5, hoO_k5, hoO_g6, hoO_k6, hoO_g7, hoO_k7, hoO_g8, hoO_k8, hoO_g9, hoO_k9, hoO_s0, hoO_s1, hoO_s2, hoO_s9, iup_s, iup_n, hp_up1, hp_upn, ne_eq, not_false_eq_true, sh_0, sh_1, sh_2, sh_3, sh_4, sh_5, sh_8, sh_15, sh_16, sh_24, Int.reducePow, Int.cast_ofNat_Int, w_of, wl_of, ltT, ltF, leT, leF, eqT, eqF, okF_0, okF_s, gF_0, gF_s, consC_o, sF_0, sF_s, clsO_o, inA_i, ldA_i, stA_i, inJ_l, ldJ_l, stJ_l, inR_r, ldR_r, stR_r, tgR_r, lenA_i, lenA_l, lenA_r, lenA_ex, nl_i, nl_o, nl_l, nl_n, wd_n, wd_i, wd_l, wd_o, fit_i, fit_l, fit_o, K_v, K_n, true_and, and_true, Nat.reduceAdd, Nat.reduceLeDiff, Nat.reduceEqDiff, Nat.reduceMul, Nat.reduceLT, reduceIte, true_or, or_true, cmp_lt, cmp_gt, cmp_eq, wb_0, b_01, cmp_lt', cmp_gt', cmp_eq', b_0, b_1, wb_1, Int.reduceSub, Int.reduceToNat, List.getD_cons_succ, List.getD_cons_zero, Int.reduceLE, Int.reduceLT, Int.reduceEq, Int.reduceNeg, Int.reduceAdd, Int.reduceMul, and_self, em_b, ne_eq, not_false_eq_true, not_true_eq_false]
  try rfl
section parts
variable {kc : Nat → KC} {ow : Nat → Nat} {M : MS} {S0 e k : Nat}
theorem C_county {h : PH} {x : Int} (hB : bkI kc ow h M S0 e k) (hX : txE h) (hx1 : -2147483648 ≤ x) (hx2 : x < 2147483648) : cResD 100 ow h S0 k 114 [some (vr 10), some (vi x)] vi (fun v M' => (v, M') = ctyF M x) := by
  have hB' := hB
  obtain ⟨hF, ⟨⟨i, b1, b2, b3, b4⟩, ⟨ca, k1, s2⟩, ⟨i65, p65, s3⟩, s4, s5, s6, s7, s8⟩, ⟨ca0, sky0, hH⟩, he0, nd, nc, nk, nr, nb, hE, hR⟩ := hB
  have h90 := hF.1
  obtain ⟨t64, t65, t66, t67, -, -, -, t10, t11, t12⟩ := tg_64 hF
  have s7' := s7
  obtain ⟨i0, f0, v1, v2, v3, v4, v5⟩ := s7
  obtain ⟨j0, f14, f15, f16, f17, f18, f19, r1, r2, r3, r4, r5, r6, r7⟩ := s8
  unfold ctyF
  by_cases q : 0 ≤ x ∧ x ≤ ((mB M).length : Int)
  · rw [if_pos q]
    obtain ⟨n, rfl⟩ : ∃ n : Nat, x = n := ⟨x.toNat, by omega⟩
    rw [Int.toNat_natCast]
    have hnb : n ≤ (mB M).length := by omega
    have hsp := cyX_s hnb v4
    generalize cyX (mB M) n = X at hsp ⊢
    obtain ⟨s', c', C'⟩ := X
    obtain ⟨hp1, hc1, -⟩ := hsp
    have hself := rh_self v1 v2 r1 r2 r3 r4 r5 r6 r7
    obtain ⟨i', j', A', w1, w2, w3, w4, w5, w6⟩ := hc1 h i0 j0 (rdA f0 f14 f15 f16 f17 f18 f19) hX ⟨v4, v5⟩ v3
    rw [hself] at w6
    have hch1 : ∀ u, chg ow [8, 11, 13, 14] h (rdH h u j' A') := fun u => ⟨rfl, rfl, fun y hy => by
      refine rh_out (Decidable.byContradiction fun z => hy ?_)
      by_cases z1 : y = 11
      · rw [z1, t11]; decide
      · by_cases z2 : y = 12
        · rw [z2, t12]; decide
        · rw [tg_rd hF (by omega) (by omega)]; decide⟩
    have r10 : hp (rdH h i' j' A') 10 = bkO i := by rw [rh_out (by omega)]; exact b1
    have w6' := fun (d : Nat) (Q : PQ) => w6 (d + 99) Q (by omega)
    have u11 : ∀ c u, hup (hup (rdH h i' j' A') 10 c) 11 (tkO u) = hup (rdH h u j' A') 10 c := fun c u => by rw [hup_com (by omega), rh_u11]
    match s', hp1, w1, w2, w3 with
    | .inr (f, a), hp1, w1, w2, w3 =>
      obtain ⟨-, y7, y8, -, y1, y4⟩ := w1
      have hch : chg ow [8, 11, 13, 14] h (hup (rdH h (iup i' 1 0) j' A') 10 (bkO (iup (iup i 16 f) 17 a))) := chg_t (hch1 _) (chg_up t10 (by decide))
      have hx' := ext_c hch
      refine ⟨kc, ow, hup (rdH h (iup i' 1 0) j' A') 10 (bkO (iup (iup i 16 f) 17 a)), e, -30 - f, _, rfl, ⟨chg_F hch hF, ⟨⟨_, hp_up1, by rw [iup_n (by omega), iup_n (by omega)]; exact b2, by rw [iup_n (by omega), iup_s]; rfl, by rw [iup_s]; rfl⟩, ⟨ca, k1, ?_⟩, ⟨i65, p65, by rw [hx'.2.2 65 (by omega) (by rw [t65]; decide)]; exact s3⟩, ImP_e hF hx' (by decide) (by decide) s4, PaP_e hF hx' (by decide) s5, TrP_e hF hx' (by decide) s6, ⟨iup i' 1 0, A' 12, by rw [hp_upn (by omega), rh_g11], by rw [hp_upn (by omega), rh_g12], iup_s, Nat.zero_le _, fun k x hx => by simp [mB] at hx⟩, ⟨j', A' 14, A' 15, A' 16, A' 17, A' 18, A' 19, by rw [hp_upn (by omega), rh_g13], by rw [hp_upn (by omega), rh_g14], by rw [hp_upn (by omega), rh_g15], by rw [hp_upn (by omega), rh_g16], by rw [hp_upn (by omega), rh_g17], by rw [hp_upn (by omega), rh_g18], by rw [hp_upn (by omega), rh_g19]⟩⟩, ⟨ca0, sky0, HoP_c hF hch (by decide) (by decide) hH⟩, by omega, nd, nc, nk, nr, nb, EngP_e hF hx' (by decide) hE, room_up (room_same hch.1 hch.2.1 hR)⟩, ext_w hx' (by decide), fun d Q => ?_⟩
      · obtain ⟨j, m1, m2, m3, m4, m5, m6⟩ := s2
        exact ⟨j, by rw [hp_upn (by omega), rh_out (by omega)]; exact m1, m2, m3, m4, m5, KCty_c hch (by decide) m6⟩
      simp (disch := omega) only [e_114_0, e_114_1, e_114_4, e_114_5, e_114_6, e_114_9, e_114_12, e_114_18, e_114_19, e_114_20, e_114_23, e_114_24, e_114_27, e_114_30, e_114_31, e_114_32, e_114_35, e_114_38, e_114_41, e_114_42, e_114_45, e_114_46, e_114_49, e_114_50, e_114_53, e_114_56, e_114_58, e_114_59, e_114_62, e_114_63, b1, r1, v1, v3, r10, w6', u11, rh_g11, y7, y8, true_and, tkO_c, tkO_g0, tkO_k0, tkO_g1, tkO_k1, tkO_g2, tkO_k2, tkO_g3, tkO_k3, tkO_g4, tkO_k4, tkO_g5, tkO_k5, tkO_g6, tkO_k6, tkO_g7, tkO_k7, tkO_g8, tkO_k8, tkO_s1, tkO_s2, tkO_s3, tkO_s4, tkO_s5, tkO_s6, tkO_s7, tkO_s8, rdO_c, rdO_g0, rdO_k0, rdO_g1, rdO_k1, rdO_g2, rdO_k2, rdO_g3, rdO_k3, rdO_g4, rdO_k4, rdO_g5, rdO_k5, rdO_g6, rdO_k6, rdO_g7, rdO_k7, rdO_g8, rdO_k8, rdO_g9, rdO_k9, rdO_g10, rdO_k10, rdO_g11, rdO_k11, rdO_g12, rdO_k12, rdO_g13, rdO_k13, rdO_g14, rdO_k14, rdO_g15, rdO_k15, rdO_g16, rdO_k16, rdO_g17, rdO_k17, rdO_s2, rdO_s3, rdO_s4, rdO_s10, rdO_s11, rdO_s12, rdO_s13, rdO_s14, rdO_s15, rdO_s16, rdO_s17, iup_s, iup_n, hp_up1, hp_upn, ne_eq, not_false_eq_true, bkO_c, bkO_g0, bkO_k0, bkO_g1, bkO_k1, bkO_g2, bkO_k2, bkO_g3, bkO_k3, bkO_g4, bkO_k4, bkO_g5, bkO_k5, bkO_g6, bkO_k6, bkO_g7, bkO_k7, bkO_g8, bkO_k8, bkO_g9, bkO_k9, bkO_g10, bkO_k10, bkO_g11, bkO_k11, bkO_g12, bkO_k12, bkO_g13, bkO_k13, bkO_g14, bkO_k14, bkO_g15, bkO_k15, bkO_g16, bkO_k16, bkO_g17, bkO_k17, bkO_s12, bkO_s16, bkO_s17, sh_0, sh_1, sh_2, sh_3, sh_4, sh_5, sh_8, sh_15, sh_16, sh_24, Int.reducePow, Int.cast_ofNat_Int, w_of, wl_of, ltT, ltF, leT, leF, eqT, eqF, okF_0, okF_s, gF_0, gF_s, consC_o, sF_0, sF_s, clsO_o, inA_i, ldA_i, stA_i, inJ_l, ldJ_l, stJ_l, inR_r, ldR_r, stR_r, tgR_r, lenA_i, lenA_l, lenA_r, lenA_ex, nl_i, nl_o, nl_l, nl_n, wd_n, wd_i, wd_l, wd_o, fit_i, fit_l, fit_o, K_v, K_n, true_and, and_true, Nat.reduceAdd, Nat.reduceLeDiff, Nat.reduceEqDiff, Nat.reduceMul, Nat.reduceLT, reduceIte, true_or, or_true, cmp_lt, cmp_gt, cmp_eq, wb_0, b_01, cmp_lt', cmp_gt', cmp_eq', b_0, b_1, wb_1, Int.reduceSub, Int.reduceToNat, List.getD_cons_succ, List.getD_cons_zero, Int.reduceLE, Int.reduceLT, Int.reduceEq, Int.reduceNeg, Int.reduceAdd, Int.reduceMul, and_self, em_b, ne_eq, not_false_eq_true, not_true_eq_false]
      rw [hup_tt, u11]
    | .inl q', hp1, w1, w2, w3 =>
      obtain ⟨g1, g2, hD, g4, g5⟩ := hp1 q' rfl
      dsimp only at g1 g2 hD g4 g5
      have hCC : okC c' := okD_C hD (by omega)
      have en : nrm (mB M) n (.inl q') = .inl q' := by unfold nrm; dsimp only; rw [if_neg (by omega)]
      dsimp only at w1
      rw [en] at w1
      obtain ⟨-, -, -, y7, y8, -⟩ := w1
      obtain ⟨jm, m1, m2, m3, m4, m5, m6⟩ := s2
      generalize hG0 : hup (rdH h (iup i' 1 0) j' A') 10 (bkO (iup (iup i 16 0) 17 (-1))) = G0
      have hch : chg ow [8, 11, 13, 14] h G0 := by rw [← hG0]; exact chg_t (hch1 _) (chg_up t10 (by decide))
      have n10 : hp G0 10 = bkO (iup (iup i 16 0) 17 (-1)) := by rw [← hG0, hp_up1]
      have n64 : hp G0 64 = moO jm (vr ca) := by rw [← hG0, hp_upn (by omega), rh_out (by omega)]; exact m1
      have nrd : rdX G0 j' A' := by
        rw [← hG0]
        exact ⟨by rw [hp_upn (by omega), rh_g13], by rw [hp_upn (by omega), rh_g14], by rw [hp_upn (by omega), rh_g15], by rw [hp_upn (by omega), rh_g16], by rw [hp_upn (by omega), rh_g17], by rw [hp_upn (by omega), rh_g18], by rw [hp_upn (by omega), rh_g19]⟩
      have nT : TkP G0 [] := by
        rw [← hG0]
        exact ⟨iup i' 1 0, A' 12, by rw [hp_upn (by omega), rh_g11], by rw [hp_upn (by omega), rh_g12], iup_s, Nat.zero_le _, fun k x hx => by simp at hx⟩
      have e1 : G0.1 = h.1 := hch.1
      have e2 : G0.2.1 = h.2.1 := hch.2.1
      obtain ⟨X', sl, hsl, hCt, hW⟩ := ci_all (h := G0) (a := h.1) (by omega) hD nrd (w2 ⟨q', rfl⟩) (cd_t w3 (fun _ => ⟨q', rfl⟩))
      have nw : mk1 G0 18 (oC 2 [vi 0, vi 0, vi 0, vi 0, vn, vn, vn, vn, vi 0, vi 0, vi 0, vi 0, vi 0, vi 0, vn, vn, vi 0, vi 0]) = cH G0 h.1 1 18 (fun _ => cy0) := by
        rw [show oC 2 [vi 0, vi 0, vi 0, vi 0, vn, vn, vn, vn, vi 0, vi 0, vi 0, vi 0, vi 0, vi 0, vn, vn, vi 0, vi 0] = cy0 from rfl]
        have z := cH_mk (h := G0) (a := h.1) (m := 0) (sl := 0) (X := fun _ => cy0) (n := 18) (c := cy0)
        rw [cH_00 e1, xup_id rfl] at z
        exact z
      have lo : ∀ m s X y, y < h.1 → hp (cH G0 h.1 m s X) y = hp G0 y := fun m s X y hy => cH_lo hy
      obtain ⟨km, o1, o2, o3, o4⟩ := Mo_begin (h := cH G0 h.1 7 sl X') hCt (by rw [lo _ _ _ 64 (by omega)]; exact n64) (by omega) (by omega)
      generalize hG : hup (hup (cH G0 h.1 7 sl X') 64 (moO km (vr h.1))) 10 (bkO (iup (iup (iup i 16 0) 17 (-1)) 12 0)) = G
      have gl : ∀ y, y < h.1 → y ≠ 64 → y ≠ 10 → hp G y = hp G0 y := fun y h1 h2 h3 => by rw [← hG, hp_upn h3, hp_upn h2, lo _ _ _ y h1]
      have hx' : extO ow h (fun k => if k < h.1 then ow k else 0) G [8, 11, 13, 14] := ⟨by rw [← hG]; show h.1 ≤ h.1 + 7; omega, fun k hk => if_pos hk, fun y hy ht => by
        rw [gl y hy (fun z => ht (by rw [z, t64]; decide)) (fun z => ht (by rw [z, t10]; decide))]
        exact hch.2.2 y ht⟩
      have kk : ∀ a, a < h.1 → (fun y => if y = h.1 then c' else kc y) a = kc a := fun a ha => if_neg (by omega)
      have g10 : hp G 10 = bkO (iup (iup (iup i 16 0) 17 (-1)) 12 0) := by rw [← hG, hp_up1]
      have g64 : hp G 64 = moO km (vr h.1) := by rw [← hG, hp_upn (by omega), hp_up1]
      have hKC : KCty (fun k => if k < h.1 then ow k else 0) G h.1 c' := ⟨CtyAt_frame (fun y y1 y2 => by rw [← hG, hp_upn (by omega), hp_upn (by omega)]) hCt, hCC, fun j hj => if_neg (by omega), by omega, by rw [← hG]; show h.1 + 6 < h.1 + 7; omega⟩
      have hI' := ImP_e hF hx' (by decide) (by decide) (ImP_k kk (Nat.le_refl _) s4)
      have hca0 : ca0 + 6 < h.1 := by
        obtain ⟨_, _, _, _, _, _, _, _, _, _, z⟩ := hH
        exact z.2.2.2.2
      have hH' := HoP_e hF hx' (by decide) (by decide) hH
      have hE' := EngP_e hF hx' (by decide) (EngP_k kk hE.2.2.2.2.2.2.2.2 hE)
      refine ⟨fun y => if y = h.1 then c' else kc y, fun k => if k < h.1 then ow k else 0, G, e, (kLines c' : Int), _, rfl, ⟨ext_F hx' hF, ⟨⟨_, g10, iup_s, by rw [iup_n (by omega), iup_n (by omega), iup_s]; rfl, by rw [iup_n (by omega), iup_s]; rfl⟩, ⟨h.1, if_pos rfl, ⟨km, g64, o1, o2, o3, ⟨hD.2.2.2.2.2.1, by have := hD.2.2.2.2.1; show kSky c' < 10; omega⟩, hKC⟩⟩, ⟨i65, p65, by rw [hx'.2.2 65 (by omega) (by rw [t65]; decide)]; exact s3⟩, ?_, ?_, TrP_e hF hx' (by decide) s6, ?_, ?_⟩, ⟨ca0, sky0, by rw [kk ca0 (by omega)]; exact hH'⟩, by omega, nd, nc, nk, nr, nb, ?_, ?_⟩, ext_w hx' (by decide), fun d Q => ?_⟩
      · exact hI'
      · obtain ⟨fp, p1, -⟩ := s5
        exact ⟨fp, by rw [gl 67 (by omega) (by omega) (by omega), hch.2.2 67 (by rw [t67]; decide)]; exact p1, Nat.zero_le _, (fun y hy => by cases hy), fun k z hz => by simp [mP] at hz⟩
      · obtain ⟨i1, f1, q1, q2, q3⟩ := nT
        exact ⟨i1, f1, by rw [gl 11 (by omega) (by omega) (by omega)]; exact q1, by rw [gl 12 (by omega) (by omega) (by omega)]; exact q2, q3⟩
      · obtain ⟨z13, z14, z15, z16, z17, z18, z19⟩ := nrd
        exact ⟨j', A' 14, A' 15, A' 16, A' 17, A' 18, A' 19, by rw [gl 13 (by omega) (by omega) (by omega)]; exact z13, by rw [gl 14 (by omega) (by omega) (by omega)]; exact z14, by rw [gl 15 (by omega) (by omega) (by omega)]; exact z15, by rw [gl 16 (by omega) (by omega) (by omega)]; exact z16, by rw [gl 17 (by omega) (by omega) (by omega)]; exact z17, by rw [gl 18 (by omega) (by omega) (by omega)]; exact z18, by rw [gl 19 (by omega) (by omega) (by omega)]; exact z19⟩
      · exact hE'
      · have z1 : G.1 = h.1 + 7 := by rw [← hG]; rfl
        have z2 : G.2.1 = h.2.1 + sl := by rw [← hG]; show G0.2.1 + sl = _; rw [e2]
        unfold roomI at *
        omega
      · have hW' := fun (Q : PQ) => hW (d + 97) Q
        have h10 : (10 ≤ h.1) = True := eq_true (by omega)
        have a10 : ∀ m s X, hp (cH G0 h.1 m s X) 10 = bkO (iup (iup i 16 0) 17 (-1)) := fun m s X => by rw [lo _ _ _ 10 (by omega)]; exact n10
        have a13 : ∀ m s X, clsO (hp (cH G0 h.1 m s X) 13) = some 7 := fun m s X => by rw [lo _ _ _ 13 (by omega), nrd.1]; rfl
        have a64 : ∀ m s X, clsO (hp (cH G0 h.1 m s X) 64) = some 6 := fun m s X => by rw [lo _ _ _ 64 (by omega), n64]; rfl
        have b0 : hup (hup (hup (rdH h i' j' A') 10 (bkO (iup i 16 0))) 10 (bkO (iup (iup i 16 0) 17 (-1)))) 11 (tkO (iup i' 1 0)) = G0 := by rw [hup_tt, u11, hG0]
        have b64 : hp (hup (cH G0 h.1 7 sl X') 64 (moO km (vr h.1))) 10 = bkO (iup (iup i 16 0) 17 (-1)) := by rw [hp_upn (by omega)]; exact a10 _ _ _
        obtain ⟨tf, tt, mf, mt, nn, fh, fw, fa, fc, fg, fp, hA, -⟩ := hKC.1
        simp (disch := omega) only [e_114_0, e_114_1, e_114_4, e_114_5, e_114_6, e_114_9, e_114_12, e_114_18, e_114_19, e_114_20, e_114_23, e_114_24, e_114_27, e_114_30, e_114_31, e_114_32, e_114_35, e_114_38, e_114_41, e_114_42, e_114_45, e_114_46, e_114_49, e_114_50, e_114_53, e_114_56, e_114_58, e_114_59, e_114_62, e_114_63, e_114_64, e_114_65, e_114_68, e_114_71i, e_114_71a, e_114_72, e_114_73, e_114_76, e_114_79, e_114_82, e_114_83, e_114_84, e_114_87, e_114_88, e_114_91, e_114_94, e_114_97, b1, r1, v1, v3, r10, w6', rh_g11, y7, y8, b0, n10, nw, hW', o4, a10, a13, a64, e1, b64, h10, hG, g10, g64, hA, moO_g0, moO_k0, moO_c, true_and, tkO_c, tkO_g0, tkO_k0, tkO_g1, tkO_k1, tkO_g2, tkO_k2, tkO_g3, tkO_k3, tkO_g4, tkO_k4, tkO_g5, tkO_k5, tkO_g6, tkO_k6, tkO_g7, tkO_k7, tkO_g8, tkO_k8, tkO_s1, tkO_s2, tkO_s3, tkO_s4, tkO_s5, tkO_s6, tkO_s7, tkO_s8, rdO_c, rdO_g0, rdO_k0, rdO_g1, rdO_k1, rdO_g2, rdO_k2, rdO_g3, rdO_k3, rdO_g4, rdO_k4, rdO_g5, rdO_k5, rdO_g6, rdO_k6, rdO_g7, rdO_k7, rdO_g8, rdO_k8, rdO_g9, rdO_k9, rdO_g10, rdO_k10, rdO_g11, rdO_k11, rdO_g12, rdO_k12, rdO_g13, rdO_k13, rdO_g14, rdO_k14, rdO_g15, rdO_k15, rdO_g16, rdO_k16, rdO_g17, rdO_k17, rdO_s2, rdO_s3, rdO_s4, rdO_s10, rdO_s11, rdO_s12, rdO_s13, rdO_s14, rdO_s15, rdO_s16, rdO_s17, iup_s, iup_n, hp_up1, hp_upn, ne_eq, not_false_eq_true, bkO_c, bkO_g0, bkO_k0, bkO_g1, bkO_k1, bkO_g2, bkO_k2, bkO_g3, bkO_k3, bkO_g4, bkO_k4, bkO_g5, bkO_k5, bkO_g6, bkO_k6, bkO_g7, bkO_k7, bkO_g8, bkO_k8, bkO_g9, bkO_k9, bkO_g10, bkO_k10, bkO_g11, bkO_k11, bkO_g12, bkO_k12, bkO_g13, bkO_k13, bkO_g14, bkO_k14, bkO_g15, bkO_k15, bkO_g16, bkO_k16, bkO_g17, bkO_k17, bkO_s12, bkO_s16, bkO_s17, sh_0, sh_1, sh_2, sh_3, sh_4, sh_5, sh_8, sh_15, sh_16, sh_24, Int.reducePow, Int.cast_ofNat_Int, w_of, wl_of, ltT, ltF, leT, leF, eqT, eqF, okF_0, okF_s, gF_0, gF_s, consC_o, sF_0, sF_s, clsO_o, inA_i, ldA_i, stA_i, inJ_l, ldJ_l, stJ_l, inR_r, ldR_r, stR_r, tgR_r, lenA_i, lenA_l, lenA_r, lenA_ex, nl_i, nl_o, nl_l, nl_n, wd_n, wd_i, wd_l, wd_o, fit_i, fit_l, fit_o, K_v, K_n, true_and, and_true, Nat.reduceAdd, Nat.reduceLeDiff, Nat.reduceEqDiff, Nat.reduceMul, Nat.reduceLT, reduceIte, true_or, or_true, cmp_lt, cmp_gt, cmp_eq, wb_0, b_01, cmp_lt', cmp_gt', cmp_eq', b_0, b_1, wb_1, Int.reduceSub, Int.reduceToNat, List.getD_cons_succ, List.getD_cons_zero, Int.reduceLE, Int.reduceLT, Int.reduceEq, Int.reduceNeg, Int.reduceAdd, Int.reduceMul, and_self, em_b, ne_eq, not_false_eq_true, not_true_eq_false]
        try rfl
  · rw [if_neg q]
    refine ⟨kc, ow, h, e, -3, M, rfl, bk_same hB', ext_r, fun d Q => ?_⟩
    have q' : x < 0 ∨ ((mB M).length : Int) < x := by omega
    clear q
    rcases q' with g | g
    · simp (disch := omega) only [e_114_0, e_114_1, e_114_4, e_114_5, e_114_6, e_114_9, e_114_12, e_114_15, e_114_17, b1, v1, v3, true_and, tkO_c, tkO_g0, tkO_k0, tkO_g1, tkO_k1, tkO_g2, tkO_k2, tkO_g3, tkO_k3, tkO_g4, tkO_k4, tkO_g5, tkO_k5, tkO_g6, tkO_k6, tkO_g7, tkO_k7, tkO_g8, tkO_k8, tkO_s1, tkO_s2, tkO_s3, tkO_s4, tkO_s5, tkO_s6, tkO_s7, tkO_s8, rdO_c, rdO_g0, rdO_k0, rdO_g1, rdO_k1, rdO_g2, rdO_k2, rdO_g3, rdO_k3, rdO_g4, rdO_k4, rdO_g5, rdO_k5, rdO_g6, rdO_k6, rdO_g7, rdO_k7, rdO_g8, rdO_k8, rdO_g9, rdO_k9, rdO_g10, rdO_k10, rdO_g11, rdO_k11, rdO_g12, rdO_k12, rdO_g13, rdO_k13, rdO_g14, rdO_k14, rdO_g15, rdO_k15, rdO_g16, rdO_k16, rdO_g17, rdO_k17, rdO_s2, rdO_s3, rdO_s4, rdO_s10, rdO_s11, rdO_s12, rdO_s13, rdO_s14, rdO_s15, rdO_s16, rdO_s17, iup_s, iup_n, hp_up1, hp_upn, ne_eq, not_false_eq_true, bkO_c, bkO_g0, bkO_k0, bkO_g1, bkO_k1, bkO_g2, bkO_k2, bkO_g3, bkO_k3, bkO_g4, bkO_k4, bkO_g5, bkO_k5, bkO_g6, bkO_k6, bkO_g7, bkO_k7, bkO_g8, bkO_k8, bkO_g9, bkO_k9, bkO_g10, bkO_k10, bkO_g11, bkO_k11, bkO_g12, bkO_k12, bkO_g13, bkO_k13, bkO_g14, bkO_k14, bkO_g15, bkO_k15, bkO_g16, bkO_k16, bkO_g17, bkO_k17, bkO_s12, bkO_s16, bkO_s17, sh_0, sh_1, sh_2, sh_3, sh_4, sh_5, sh_8, sh_15, sh_16, sh_24, Int.reducePow, Int.cast_ofNat_Int, w_of, wl_of, ltT, ltF, leT, leF, eqT, eqF, okF_0, okF_s, gF_0, gF_s, consC_o, sF_0, sF_s, clsO_o, inA_i, ldA_i, stA_i, inJ_l, ldJ_l, stJ_l, inR_r, ldR_r, stR_r, tgR_r, lenA_i, lenA_l, lenA_r, lenA_ex, nl_i, nl_o, nl_l, nl_n, wd_n, wd_i, wd_l, wd_o, fit_i, fit_l, fit_o, K_v, K_n, true_and, and_true, Nat.reduceAdd, Nat.reduceLeDiff, Nat.reduceEqDiff, Nat.reduceMul, Nat.reduceLT, reduceIte, true_or, or_true, cmp_lt, cmp_gt, cmp_eq, wb_0, b_01, cmp_lt', cmp_gt', cmp_eq', b_0, b_1, wb_1, Int.reduceSub, Int.reduceToNat, List.getD_cons_succ, List.getD_cons_zero, Int.reduceLE, Int.reduceLT, Int.reduceEq, Int.reduceNeg, Int.reduceAdd, Int.reduceMul, and_self, em_b, ne_eq, not_false_eq_true, not_true_eq_false]
      try rfl
    · by_cases g2 : x < 0
      · simp (disch := omega) only [e_114_0, e_114_1, e_114_4, e_114_5, e_114_6, e_114_9, e_114_12, e_114_15, e_114_17, b1, v1, v3, true_and, tkO_c, tkO_g0, tkO_k0, tkO_g1, tkO_k1, tkO_g2, tkO_k2, tkO_g3, tkO_k3, tkO_g4, tkO_k4, tkO_g5, tkO_k5, tkO_g6, tkO_k6, tkO_g7, tkO_k7, tkO_g8, tkO_k8, tkO_s1, tkO_s2, tkO_s3, tkO_s4, tkO_s5, tkO_s6, tkO_s7, tkO_s8, rdO_c, rdO_g0, rdO_k0, rdO_g1, rdO_k1, rdO_g2, rdO_k2, rdO_g3, rdO_k3, rdO_g4, rdO_k4, rdO_g5, rdO_k5, rdO_g6, rdO_k6, rdO_g7, rdO_k7, rdO_g8, rdO_k8, rdO_g9, rdO_k9, rdO_g10, rdO_k10, rdO_g11, rdO_k11, rdO_g12, rdO_k12, rdO_g13, rdO_k13, rdO_g14, rdO_k14, rdO_g15, rdO_k15, rdO_g16, rdO_k16, rdO_g17, rdO_k17, rdO_s2, rdO_s3, rdO_s4, rdO_s10, rdO_s11, rdO_s12, rdO_s13, rdO_s14, rdO_s15, rdO_s16, rdO_s17, iup_s, iup_n, hp_up1, hp_upn, ne_eq, not_false_eq_true, bkO_c, bkO_g0, bkO_k0, bkO_g1, bkO_k1, bkO_g2, bkO_k2, bkO_g3, bkO_k3, bkO_g4, bkO_k4, bkO_g5, bkO_k5, bkO_g6, bkO_k6, bkO_g7, bkO_k7, bkO_g8, bkO_k8, bkO_g9, bkO_k9, bkO_g10, bkO_k10, bkO_g11, bkO_k11, bkO_g12, bkO_k12, bkO_g13, bkO_k13, bkO_g14, bkO_k14, bkO_g15, bkO_k15, bkO_g16, bkO_k16, bkO_g17, bkO_k17, bkO_s12, bkO_s16, bkO_s17, sh_0, sh_1, sh_2, sh_3, sh_4, sh_5, sh_8, sh_15, sh_16, sh_24, Int.reducePow, Int.cast_ofNat_Int, w_of, wl_of, ltT, ltF, leT, leF, eqT, eqF, okF_0, okF_s, gF_0, gF_s, consC_o, sF_0, sF_s, clsO_o, inA_i, ldA_i, stA_i, inJ_l, ldJ_l, stJ_l, inR_r, ldR_r, stR_r, tgR_r, lenA_i, lenA_l, lenA_r, lenA_ex, nl_i, nl_o, nl_l, nl_n, wd_n, wd_i, wd_l, wd_o, fit_i, fit_l, fit_o, K_v, K_n, true_and, and_true, Nat.reduceAdd, Nat.reduceLeDiff, Nat.reduceEqDiff, Nat.reduceMul, Nat.reduceLT, reduceIte, true_or, or_true, cmp_lt, cmp_gt, cmp_eq, wb_0, b_01, cmp_lt', cmp_gt', cmp_eq', b_0, b_1, wb_1, Int.reduceSub, Int.reduceToNat, List.getD_cons_succ, List.getD_cons_zero, Int.reduceLE, Int.reduceLT, Int.reduceEq, Int.reduceNeg, Int.reduceAdd, Int.reduceMul, and_self, em_b, ne_eq, not_false_eq_true, not_true_eq_false]
        try rfl
      · simp (disch := omega) only [e_114_0, e_114_1, e_114_4, e_114_5, e_114_6, e_114_9, e_114_12, e_114_15, e_114_17, b1, v1, v3, true_and, tkO_c, tkO_g0, tkO_k0, tkO_g1, tkO_k1, tkO_g2, tkO_k2, tkO_g3, tkO_k3, tkO_g4, tkO_k4, tkO_g5, tkO_k5, tkO_g6, tkO_k6, tkO_g7, tkO_k7, tkO_g8, tkO_k8, tkO_s1, tkO_s2, tkO_s3, tkO_s4, tkO_s5, tkO_s6, tkO_s7, tkO_s8, rdO_c, rdO_g0, rdO_k0, rdO_g1, rdO_k1, rdO_g2, rdO_k2, rdO_g3, rdO_k3, rdO_g4, rdO_k4, rdO_g5, rdO_k5, rdO_g6, rdO_k6, rdO_g7, rdO_k7, rdO_g8, rdO_k8, rdO_g9, rdO_k9, rdO_g10, rdO_k10, rdO_g11, rdO_k11, rdO_g12, rdO_k12, rdO_g13, rdO_k13, rdO_g14, rdO_k14, rdO_g15, rdO_k15, rdO_g16, rdO_k16, rdO_g17, rdO_k17, rdO_s2, rdO_s3, rdO_s4, rdO_s10, rdO_s11, rdO_s12, rdO_s13, rdO_s14, rdO_s15, rdO_s16, rdO_s17, iup_s, iup_n, hp_up1, hp_upn, ne_eq, not_false_eq_true, bkO_c, bkO_g0, bkO_k0, bkO_g1, bkO_k1, bkO_g2, bkO_k2, bkO_g3, bkO_k3, bkO_g4, bkO_k4, bkO_g5, bkO_k5, bkO_g6, bkO_k6, bkO_g7, bkO_k7, bkO_g8, bkO_k8, bkO_g9, bkO_k9, bkO_g10, bkO_k10, bkO_g11, bkO_k11, bkO_g12, bkO_k12, bkO_g13, bkO_k13, bkO_g14, bkO_k14, bkO_g15, bkO_k15, bkO_g16, bkO_k16, bkO_g17, bkO_k17, bkO_s12, bkO_s16, bkO_s17, sh_0, sh_1, sh_2, sh_3, sh_4, sh_5, sh_8, sh_15, sh_16, sh_24, Int.reducePow, Int.cast_ofNat_Int, w_of, wl_of, ltT, ltF, leT, leF, eqT, eqF, okF_0, okF_s, gF_0, gF_s, consC_o, sF_0, sF_s, clsO_o, inA_i, ldA_i, stA_i, inJ_l, ldJ_l, stJ_l, inR_r, ldR_r, stR_r, tgR_r, lenA_i, lenA_l, lenA_r, lenA_ex, nl_i, nl_o, nl_l, nl_n, wd_n, wd_i, wd_l, wd_o, fit_i, fit_l, fit_o, K_v, K_n, true_and, and_true, Nat.reduceAdd, Nat.reduceLeDiff, Nat.reduceEqDiff, Nat.reduceMul, Nat.reduceLT, reduceIte, true_or, or_true, cmp_lt, cmp_gt, cmp_eq, wb_0, b_01, cmp_lt', cmp_gt', cmp_eq', b_0, b_1, wb_1, Int.reduceSub, Int.reduceToNat, List.getD_cons_succ, List.getD_cons_zero, Int.reduceLE, Int.reduceLT, Int.reduceEq, Int.reduceNeg, Int.reduceAdd, Int.reduceMul, and_self, em_b, ne_eq, not_false_eq_true, not_true_eq_false]
        try rfl
end parts
