/-! THE CLASS: Rows, canGoOn -/
def ahF (j : Int) : Option Nat := if 0 ≤ j ∧ j < 8 then some (50 + j.toNat) else none
theorem ah_at {v : Nat} (h : v < 8) : ahF (v : Int) = some (50 + v) := by
  unfold ahF
  rw [if_pos (by omega), Int.toNat_natCast]
def AhS (ow : Nat → Nat) (h : PH) (ca : Nat) (c : KC) (sky e : Nat) (i : Nat → Int) (dl dx dm nd : Nat) (pa pb : PV) (fw fm : Int → Int) : Prop := owF ow h ∧ HoP ow h ca c sky e ∧ hp h 34 = dkO (vr dl) (vr dx) (vr dm) ∧ hp h 45 = rwO i pa pb ∧ hp h 48 = aI 0 8 fw ∧ hp h 49 = aR 1 8 ahF ∧ (∀ u, u < 8 → ∃ f, hp h (50 + u) = aI 0 16 f) ∧ hp h dm = aI 0 nd fm
def chy (ow : Nat → Nat) (dm v : Nat) (h h' : PH) : Prop := h'.1 = h.1 ∧ h'.2.1 = h.2.1 ∧ ∀ k, ow k ≠ 1 → k ≠ dm → ¬ (50 + v ≤ k ∧ k < 58) → hp h' k = hp h k
theorem chy_r {ow : Nat → Nat} {dm v : Nat} {h : PH} : chy ow dm v h h := ⟨rfl, rfl, fun _ _ _ _ => rfl⟩
theorem chy_t {ow : Nat → Nat} {dm v : Nat} {h h1 h2 : PH} (a : chy ow dm v h h1) (b : chy ow dm v h1 h2) : chy ow dm v h h2 := ⟨by rw [b.1, a.1], by rw [b.2.1, a.2.1], fun k x y z => by rw [b.2.2 k x y z, a.2.2 k x y z]⟩
theorem chy_w {ow : Nat → Nat} {dm v u : Nat} {h h' : PH} (a : chy ow dm v h h') (hu : u ≤ v) : chy ow dm u h h' := ⟨a.1, a.2.1, fun k x y z => a.2.2 k x y (by omega)⟩
theorem chy_c {ow : Nat → Nat} {dm v : Nat} {h h' : PH} (a : chg ow [1] h h') : chy ow dm v h h' := ⟨a.1, a.2.1, fun k hk _ _ => a.2.2 k (fun z => hk (List.mem_singleton.mp z))⟩
theorem chy_d {ow : Nat → Nat} {dm v : Nat} {h : PH} {x : PC} : chy ow dm v h (hup h dm x) := ⟨rfl, rfl, fun k _ hk _ => hp_upn hk⟩
theorem chy_a {ow : Nat → Nat} {dm v u : Nat} {h : PH} {x : PC} (h1 : v ≤ u) (h2 : u < 8) : chy ow dm v h (hup h (50 + u) x) := ⟨rfl, rfl, fun k _ _ hk => hp_upn (by omega)⟩
theorem tg_ah {ow : Nat → Nat} {h : PH} (hF : owF ow h) {u : Nat} (hu : u < 8) : ow (50 + u) = 20 := by
  rw [hF.2 (50 + u) (by omega)]
  unfold tgF
  rw [if_neg (by omega), if_neg (by omega), if_neg (by omega), if_neg (by omega), if_neg (by omega), if_neg (by omega), if_neg (by omega), if_neg (by omega), if_neg (by omega), if_neg (by omega), if_neg (by omega), if_neg (by omega), if_neg (by omega), if_pos (by omega)]
/-- another array ahead -/
theorem AhS_a {ow : Nat → Nat} {h : PH} {ca : Nat} {c : KC} {sky e : Nat} {i : Nat → Int} {dl dx dm nd u : Nat} {pa pb : PV} {fw fm f : Int → Int} (om : ow dm = 2) (hu : u < 8) (hA : AhS ow h ca c sky e i dl dx dm nd pa pb fw fm) : AhS ow (hup h (50 + u) (aI 0 16 f)) ca c sky e i dl dx dm nd pa pb fw fm := by
  obtain ⟨h1, h2, h3, h4, h5, h6, h7, h8⟩ := hA
  have t := tg_ah h1 hu
  have hch : chg ow [20] h (hup h (50 + u) (aI 0 16 f)) := chg_up t (by decide)
  have dm' : dm ≠ 50 + u := fun z => by rw [← z, om] at t; omega
  refine ⟨chg_F hch h1, HoP_c h1 hch (by decide) (by decide) h2, by rw [hp_upn (by omega)]; exact h3, by rw [hp_upn (by omega)]; exact h4, by rw [hp_upn (by omega)]; exact h5, by rw [hp_upn (by omega)]; exact h6, fun w hw => ?_, by rw [hp_upn dm']; exact h8⟩
  by_cases z : w = u
  · subst z; exact ⟨f, hp_up1⟩
  · obtain ⟨f', hf⟩ := h7 w hw
    exact ⟨f', by rw [hp_upn (by omega)]; exact hf⟩
/-- other marks -/
theorem AhS_d {ow : Nat → Nat} {h : PH} {ca : Nat} {c : KC} {sky e : Nat} {i : Nat → Int} {dl dx dm nd : Nat} {pa pb : PV} {fw fm f : Int → Int} (om : ow dm = 2) (om2 : 34 < dm) (hA : AhS ow h ca c sky e i dl dx dm nd pa pb fw fm) : AhS ow (hup h dm (aI 0 nd f)) ca c sky e i dl dx dm nd pa pb fw f := by
  obtain ⟨h1, h2, h3, h4, h5, h6, h7, h8⟩ := hA
  have hch : chg ow [2] h (hup h dm (aI 0 nd f)) := chg_up om (by decide)
  have t45 : ow 45 = 5 := h1.2 45 (by omega)
  have t48 : ow 48 = 18 := h1.2 48 (by omega)
  have t49 : ow 49 = 0 := h1.2 49 (by omega)
  refine ⟨chg_F hch h1, HoP_c h1 hch (by decide) (by decide) h2, by rw [hp_upn (by omega)]; exact h3, by rw [hp_upn (fun z => by rw [← z, t45] at om; omega)]; exact h4, by rw [hp_upn (fun z => by rw [← z, t48] at om; omega)]; exact h5, by rw [hp_upn (fun z => by rw [← z, t49] at om; omega)]; exact h6, fun w hw => ?_, hp_up1⟩
  obtain ⟨f', hf⟩ := h7 w hw
  exact ⟨f', by rw [hp_upn (fun z => by rw [← z, tg_ah h1 hw] at om; omega)]; exact hf⟩
/-- spread anew -/
theorem AhS_c {ow : Nat → Nat} {h h' : PH} {ca : Nat} {c : KC} {sky e : Nat} {i : Nat → Int} {dl dx dm nd : Nat} {pa pb : PV} {fw fm : Int → Int} (om : ow dm = 2) (hA : AhS ow h ca c sky e i dl dx dm nd pa pb fw fm) (hc : chg ow [1] h h') (hH : HoP ow h' ca c sky e) : AhS ow h' ca c sky e i dl dx dm nd pa pb fw fm := by
  obtain ⟨h1, h2, h3, h4, h5, h6, h7, h8⟩ := hA
  have t45 : ow 45 = 5 := h1.2 45 (by omega)
  have t48 : ow 48 = 18 := h1.2 48 (by omega)
  have t49 : ow 49 = 0 := h1.2 49 (by omega)
  refine ⟨chg_F hc h1, hH, by rw [chg_at hc (tg_34 h1) (by decide)]; exact h3, by rw [chg_at hc t45 (by decide)]; exact h4, by rw [chg_at hc t48 (by decide)]; exact h5, by rw [chg_at hc t49 (by decide)]; exact h6, fun w hw => ?_, by rw [chg_at hc om (by decide)]; exact h8⟩
  obtain ⟨f', hf⟩ := h7 w hw
  exact ⟨f', by rw [chg_at hc (tg_ah h1 hw) (by decide)]; exact hf⟩
def okH (c : KC) (sky : Nat) (lw : List Int) (r v : Nat) (x : Nat × ST) : Prop := fitB c lw v x.2 = true ∧ 0 < cmF c sky lw r (v + 1) x.2
theorem cm_ok {c : KC} {sky : Nat} {lw : List Int} {r v : Nat} {y : ST} (hK : okK c) : 0 < cmF c sky lw (r + 1) v y ↔ ∃ x, x ∈ nx c sky y ∧ okH c sky lw r v x := by
  rw [cmF_pos hK]
  constructor
  · rintro ⟨m, m1, m2, m3, m4⟩
    exact ⟨_, nx_mem.mpr ⟨m, m1, m2, rfl⟩, m3, m4⟩
  · rintro ⟨x, x1, x2, x3⟩
    obtain ⟨m, m1, m2, m3⟩ := nx_mem.mp x1
    subst m3
    exact ⟨m, m1, m2, x2, x3⟩
theorem e_cp {d : Nat} {ls : PL} {Q : PQ} {h : PH} {a b n nn kk : Nat} {f g : Int → Int} (ha : hp h a = aI 0 nn f) (hb : hp h b = aI 0 kk g) (h1 : 10 ≤ a) (h2 : 10 ≤ b) (hn : n ≤ nn) (hk : n ≤ kk) (hnn : nn ≤ 24000) : WP d 87 69 ls [vi (n : Nat), vi 0, vr b, vi 0, vr a] h Q = WP d 87 72 ls [] (hup h b (aI 0 kk (cpyF f g n))) Q := by
  rw [e_87_69 ha hb, cp_eq (by omega)]
  exact propext ⟨fun z => z.2, fun z => ⟨cp_side h1 h2 hn hk hnn, z⟩⟩
/-- the contract of canGoOn with r hours ahead -/
def canC (ow : Nat → Nat) (ca : Nat) (c : KC) (sky e : Nat) (i : Nat → Int) (dl dx dm nd : Nat) (pa pb : PV) (fw : Int → Int) (lw : List Int) (r : Nat) : Prop := ∀ (v : Nat) (h : PH) (fm : Int → Int) (y : ST), v + r = lw.length → okS c y → AhS ow h ca c sky e i dl dx dm nd pa pb fw fm → mkI c sky lw fm →
    ∃ (h' : PH) (fm' : Int → Int), chy ow dm v h h' ∧ AhS ow h' ca c sky e i dl dx dm nd pa pb fw fm' ∧ mkI c sky lw fm' ∧ ∀ d Q, WP (d + 9 + r) 87 0 [some (vr 45), some (vr 27), some (vi (encC c y)), some (vi v), none, none, none, none, none] [] h Q = Q (some (vi (if 0 < cmF c sky lw r v y then 1 else 0))) h'
theorem can_0 {ow : Nat → Nat} {ca : Nat} {c : KC} {sky e : Nat} {i : Nat → Int} {dl dx dm nd : Nat} {pa pb : PV} {fw : Int → Int} {lw : List Int} (hi : i 4 = (lw.length : Int)) (hl : lw.length ≤ 8) : canC ow ca c sky e i dl dx dm nd pa pb fw lw 0 := by
  intro v h fm y hv hy hA hm
  refine ⟨h, fm, chy_r, hA, hm, fun d Q => ?_⟩
  obtain ⟨h1, h2, h3, h4, h5, h6, h7, h8⟩ := hA
  have e : v = lw.length := by omega
  subst e
  rw [show cmF c sky lw 0 lw.length y = 1 from rfl, if_pos (by omega)]
  simp (disch := omega) only [e_87_0, e_87_1, e_87_2, e_87_5, e_87_8, e_87_9, h4, hi, rwO_c, rwO_g0, rwO_k0, rwO_g1, rwO_k1, rwO_s1, rwO_g2, rwO_k2, rwO_s2, rwO_g3, rwO_k3, rwO_g4, rwO_k4, rwO_s4, rwO_g5, rwO_k5, rwO_g6, rwO_k6, dkO_c, dkO_g0, dkO_k0, dkO_s0, dkO_g1, dkO_k1, dkO_s1, dkO_g2, dkO_k2, dkO_s2, hoO_c, hoO_g0, hoO_k0, hoO_s0, hoO_g1, hoO_k1, hoO_s1, hoO_g2, hoO_k2, hoO_s2, hoO_g3, hoO_k3, hoO_g4, hoO_k4, hoO_g5, hoO_k5, hoO_g6, hoO_k6, hoO_g7, hoO_k7, hoO_g8, hoO_k8, hoO_g9, hoO_k9, hoO_s9, iup_s, iup_n, hp_up1, hp_upn, ne_eq, not_false_eq_true, sh_0, sh_1, sh_2, sh_3, sh_4, sh_5, sh_8, sh_15, sh_16, sh_24, Int.reducePow, Int.cast_ofNat_Int, w_of, wl_of, ltT, ltF, leT, leF, eqT, eqF, okF_0, okF_s, gF_0, gF_s, consC_o, sF_0, sF_s, clsO_o, inA_i, ldA_i, stA_i, inJ_l, ldJ_l, stJ_l, inR_r, ldR_r, stR_r, tgR_r, lenA_i, lenA_l, lenA_r, lenA_ex, nl_i, nl_o, nl_l, nl_n, wd_n, wd_i, wd_l, wd_o, fit_i, fit_l, fit_o, K_v, K_n, true_and, and_true, Nat.reduceAdd, Nat.reduceLeDiff, Nat.reduceEqDiff, Nat.reduceMul, Nat.reduceLT, reduceIte, true_or, or_true, cmp_lt, cmp_gt, cmp_eq, wb_0, b_01, cmp_lt', cmp_gt', cmp_eq', b_0, b_1, wb_1, Int.reduceSub, Int.reduceToNat, List.getD_cons_succ, List.getD_cons_zero, Int.reduceLE, Int.reduceLT, Int.reduceEq, Int.reduceNeg, Int.reduceAdd, Int.reduceMul, and_self, em_b, ne_eq, not_false_eq_true, not_true_eq_false]
  try rfl
theorem can_Lp {ow : Nat → Nat} {ca : Nat} {c : KC} {sky e : Nat} {i : Nat → Int} {dl dx dm nd : Nat} {pa pb : PV} {fw fa : Int → Int} {lw : List Int} {r v : Nat} {y : ST} {L : List (Nat × ST)} {x4 : Int} (hO : okC c) (hL : nx c sky y = L) (hy : okS c y) (hv : v + (r + 1) = lw.length) (hl : lw.length ≤ 8) (om : ow dm = 2) (hfw : fw v = lw.getD v 0) (hb : -1 ≤ lw.getD v 0 ∧ lw.getD v 0 < 5) (ih : canC ow ca c sky e i dl dx dm nd pa pb fw lw r) (hfa : ∀ (k : Nat) x, L[k]? = some x → fa k = encC c x.2) :
    ∀ (q j : Nat) (h : PH) (fm : Int → Int) (o8 : Option PV), j + q = L.length → AhS ow h ca c sky e i dl dx dm nd pa pb fw fm → mkI c sky lw fm → hp h (50 + v) = aI 0 16 fa → (∀ (k : Nat) x, k < j → L[k]? = some x → ¬ okH c sky lw r v x) →
    ∃ (h' : PH) (fm' : Int → Int) (p7 p8 : Option PV), chy ow dm v h h' ∧ AhS ow h' ca c sky e i dl dx dm nd pa pb fw fm' ∧ mkI c sky lw fm' ∧ ∀ d Q, WP (d + 9 + (r + 1)) 87 78 [some (vr 45), some (vr 27), some (vi (encC c y)), some (vi v), some (vi x4), some (vi L.length), some (vi 0), some (vi j), o8] [] h Q = WP (d + 9 + (r + 1)) 87 141 [some (vr 45), some (vr 27), some (vi (encC c y)), some (vi v), some (vi x4), some (vi L.length), some (vi (if 0 < cmF c sky lw (r + 1) v y then 1 else 0)), p7, p8] [] h' Q := by
  have hK := hO.1
  have hlen := nx_len (sky := sky) hO hy
  rw [hL] at hlen
  intro q
  induction q with
  | zero =>
    intro j h fm o8 hj hA hm hfv hno
    have ej : j = L.length := by omega
    subst ej
    have hn : ¬ 0 < cmF c sky lw (r + 1) v y := by
      rw [cm_ok hK]
      rintro ⟨x, x1, x2⟩
      rw [hL] at x1
      obtain ⟨k, hk⟩ := List.getElem?_of_mem x1
      exact hno k x (List.getElem?_eq_some_iff.mp hk).1 hk x2
    refine ⟨h, fm, some (vi L.length), o8, chy_r, hA, hm, fun d Q => ?_⟩
    rw [if_neg hn]
    rw [e_87_78]
    simp (disch := omega) only [e_87_80, e_87_82, rwO_c, rwO_g0, rwO_k0, rwO_g1, rwO_k1, rwO_s1, rwO_g2, rwO_k2, rwO_s2, rwO_g3, rwO_k3, rwO_g4, rwO_k4, rwO_s4, rwO_g5, rwO_k5, rwO_g6, rwO_k6, dkO_c, dkO_g0, dkO_k0, dkO_s0, dkO_g1, dkO_k1, dkO_s1, dkO_g2, dkO_k2, dkO_s2, hoO_c, hoO_g0, hoO_k0, hoO_s0, hoO_g1, hoO_k1, hoO_s1, hoO_g2, hoO_k2, hoO_s2, hoO_g3, hoO_k3, hoO_g4, hoO_k4, hoO_g5, hoO_k5, hoO_g6, hoO_k6, hoO_g7, hoO_k7, hoO_g8, hoO_k8, hoO_g9, hoO_k9, hoO_s9, iup_s, iup_n, hp_up1, hp_upn, ne_eq, not_false_eq_true, sh_0, sh_1, sh_2, sh_3, sh_4, sh_5, sh_8, sh_15, sh_16, sh_24, Int.reducePow, Int.cast_ofNat_Int, w_of, wl_of, ltT, ltF, leT, leF, eqT, eqF, okF_0, okF_s, gF_0, gF_s, consC_o, sF_0, sF_s, clsO_o, inA_i, ldA_i, stA_i, inJ_l, ldJ_l, stJ_l, inR_r, ldR_r, stR_r, tgR_r, lenA_i, lenA_l, lenA_r, lenA_ex, nl_i, nl_o, nl_l, nl_n, wd_n, wd_i, wd_l, wd_o, fit_i, fit_l, fit_o, K_v, K_n, true_and, and_true, Nat.reduceAdd, Nat.reduceLeDiff, Nat.reduceEqDiff, Nat.reduceMul, Nat.reduceLT, reduceIte, true_or, or_true, cmp_lt, cmp_gt, cmp_eq, wb_0, b_01, cmp_lt', cmp_gt', cmp_eq', b_0, b_1, wb_1, Int.reduceSub, Int.reduceToNat, List.getD_cons_succ, List.getD_cons_zero, Int.reduceLE, Int.reduceLT, Int.reduceEq, Int.reduceNeg, Int.reduceAdd, Int.reduceMul, and_self, em_b, ne_eq, not_false_eq_true, not_true_eq_false]
    try rfl
  | succ q ihq =>
    intro j h fm o8 hj hA hm hfv hno
    have hA' := hA
    obtain ⟨h1, h2, h3, h4, h5, h6, h7, h8⟩ := hA
    obtain ⟨hKC⟩ : Nonempty (KCty ow h ca c) := by obtain ⟨_, _, _, _, _, _, _, _, _, _, a9⟩ := h2; exact ⟨a9⟩
    obtain ⟨iy, h27⟩ : ∃ i, hp h 27 = hoO i (vr ca) := by obtain ⟨i, A, a1, _⟩ := h2; exact ⟨i, a1⟩
    obtain ⟨y4, y5, y6, y7, y8, y9, y10, y11, y14, y15, y17, hAc⟩ := KCty_sz hKC
    have hx : L[j]? = some L[j] := List.getElem?_eq_getElem (by omega)
    generalize L[j] = x at hx
    have hxm : x ∈ nx c sky y := by rw [hL]; exact List.mem_of_getElem? hx
    have hxo := nx_ok hy hxm
    have hxl := encC_lt hK hxo
    have h24 := szC_le hK
    have hf := hfa j x hx
    have ft := fun (d : Nat) (Q : PQ) => Ro_fits (d := d) (Q := Q) (l := lw) hK hKC.1 hxo rfl h4 h5 (show v < 8 by omega) hfw hb
    have ej : (j : Int) + 1 = ((j + 1 : Nat) : Int) := by omega
    have ev : (v : Int) + 1 = ((v + 1 : Nat) : Int) := by omega
    have av := ah_at (v := v) (by omega)
    have step : ¬ okH c sky lw r v x → ∀ (k : Nat) z, k < j + 1 → L[k]? = some z → ¬ okH c sky lw r v z := fun hx' k z hk hz => by
      by_cases w : k = j
      · rw [w, hx] at hz
        have ez : x = z := Option.some.inj hz
        rw [← ez]; exact hx'
      · exact hno k z (by omega) hz
    by_cases hft : fitB c lw v x.2 = true
    · simp only [hft, if_true] at ft
      obtain ⟨g, fm1, b1, b2, b3, b4⟩ := ih (v + 1) h fm x.2 (by omega) hxo hA' hm
      have gv : hp g (50 + v) = aI 0 16 fa := by
        rw [b1.2.2 (50 + v) (by rw [tg_ah h1 (by omega)]; decide) (fun z => by have := tg_ah h1 (u := v) (by omega); rw [z, om] at this; omega) (by omega)]
        exact hfv
      by_cases hc : 0 < cmF c sky lw r (v + 1) x.2
      · have hy1 : 0 < cmF c sky lw (r + 1) v y := (cm_ok hK).mpr ⟨x, hxm, hft, hc⟩
        refine ⟨g, fm1, some (vi ((j + 1 : Nat) : Int)), some (vi (encC c x.2)), chy_w b1 (by omega), b2, b3, fun d Q => ?_⟩
        rw [if_pos hy1]
        have b4' := fun (Q : PQ) => b4 d Q
        simp only [hc, if_true] at b4'
        rw [show d + 9 + (r + 1) = d + 7 + r + 2 + 1 by omega]
        rw [show d + 9 + r = d + 7 + r + 2 by omega] at b4'
        by_cases hlast : j + 1 < L.length
        · simp (disch := omega) only [e_87_78, e_87_80, e_87_82, e_87_85, e_87_87, e_87_90, e_87_91, e_87_94, e_87_95, e_87_96, e_87_98, e_87_99, e_87_101, e_87_102, e_87_103, e_87_106, e_87_108, e_87_109, e_87_112, e_87_115, e_87_116, e_87_117, e_87_119, e_87_120, e_87_121, e_87_122, e_87_125, e_87_128, e_87_129, e_87_132, e_87_133, e_87_135, e_87_138, h27, h4, h6, hfv, hAc, hf, ft, av, b4', ej, ev, true_and, rwO_c, rwO_g0, rwO_k0, rwO_g1, rwO_k1, rwO_s1, rwO_g2, rwO_k2, rwO_s2, rwO_g3, rwO_k3, rwO_g4, rwO_k4, rwO_s4, rwO_g5, rwO_k5, rwO_g6, rwO_k6, dkO_c, dkO_g0, dkO_k0, dkO_s0, dkO_g1, dkO_k1, dkO_s1, dkO_g2, dkO_k2, dkO_s2, hoO_c, hoO_g0, hoO_k0, hoO_s0, hoO_g1, hoO_k1, hoO_s1, hoO_g2, hoO_k2, hoO_s2, hoO_g3, hoO_k3, hoO_g4, hoO_k4, hoO_g5, hoO_k5, hoO_g6, hoO_k6, hoO_g7, hoO_k7, hoO_g8, hoO_k8, hoO_g9, hoO_k9, hoO_s9, iup_s, iup_n, hp_up1, hp_upn, ne_eq, not_false_eq_true, sh_0, sh_1, sh_2, sh_3, sh_4, sh_5, sh_8, sh_15, sh_16, sh_24, Int.reducePow, Int.cast_ofNat_Int, w_of, wl_of, ltT, ltF, leT, leF, eqT, eqF, okF_0, okF_s, gF_0, gF_s, consC_o, sF_0, sF_s, clsO_o, inA_i, ldA_i, stA_i, inJ_l, ldJ_l, stJ_l, inR_r, ldR_r, stR_r, tgR_r, lenA_i, lenA_l, lenA_r, lenA_ex, nl_i, nl_o, nl_l, nl_n, wd_n, wd_i, wd_l, wd_o, fit_i, fit_l, fit_o, K_v, K_n, true_and, and_true, Nat.reduceAdd, Nat.reduceLeDiff, Nat.reduceEqDiff, Nat.reduceMul, Nat.reduceLT, reduceIte, true_or, or_true, cmp_lt, cmp_gt, cmp_eq, wb_0, b_01, cmp_lt', cmp_gt', cmp_eq', b_0, b_1, wb_1, Int.reduceSub, Int.reduceToNat, List.getD_cons_succ, List.getD_cons_zero, Int.reduceLE, Int.reduceLT, Int.reduceEq, Int.reduceNeg, Int.reduceAdd, Int.reduceMul, and_self, em_b, ne_eq, not_false_eq_true, not_true_eq_false]
          try rfl
        · simp (disch := omega) only [e_87_78, e_87_80, e_87_82, e_87_85, e_87_87, e_87_90, e_87_91, e_87_94, e_87_95, e_87_96, e_87_98, e_87_99, e_87_101, e_87_102, e_87_103, e_87_106, e_87_108, e_87_109, e_87_112, e_87_115, e_87_116, e_87_117, e_87_119, e_87_120, e_87_121, e_87_122, e_87_125, e_87_128, e_87_129, e_87_132, e_87_133, e_87_135, e_87_138, h27, h4, h6, hfv, hAc, hf, ft, av, b4', ej, ev, true_and, rwO_c, rwO_g0, rwO_k0, rwO_g1, rwO_k1, rwO_s1, rwO_g2, rwO_k2, rwO_s2, rwO_g3, rwO_k3, rwO_g4, rwO_k4, rwO_s4, rwO_g5, rwO_k5, rwO_g6, rwO_k6, dkO_c, dkO_g0, dkO_k0, dkO_s0, dkO_g1, dkO_k1, dkO_s1, dkO_g2, dkO_k2, dkO_s2, hoO_c, hoO_g0, hoO_k0, hoO_s0, hoO_g1, hoO_k1, hoO_s1, hoO_g2, hoO_k2, hoO_s2, hoO_g3, hoO_k3, hoO_g4, hoO_k4, hoO_g5, hoO_k5, hoO_g6, hoO_k6, hoO_g7, hoO_k7, hoO_g8, hoO_k8, hoO_g9, hoO_k9, hoO_s9, iup_s, iup_n, hp_up1, hp_upn, ne_eq, not_false_eq_true, sh_0, sh_1, sh_2, sh_3, sh_4, sh_5, sh_8, sh_15, sh_16, sh_24, Int.reducePow, Int.cast_ofNat_Int, w_of, wl_of, ltT, ltF, leT, leF, eqT, eqF, okF_0, okF_s, gF_0, gF_s, consC_o, sF_0, sF_s, clsO_o, inA_i, ldA_i, stA_i, inJ_l, ldJ_l, stJ_l, inR_r, ldR_r, stR_r, tgR_r, lenA_i, lenA_l, lenA_r, lenA_ex, nl_i, nl_o, nl_l, nl_n, wd_n, wd_i, wd_l, wd_o, fit_i, fit_l, fit_o, K_v, K_n, true_and, and_true, Nat.reduceAdd, Nat.reduceLeDiff, Nat.reduceEqDiff, Nat.reduceMul, Nat.reduceLT, reduceIte, true_or, or_true, cmp_lt, cmp_gt, cmp_eq, wb_0, b_01, cmp_lt', cmp_gt', cmp_eq', b_0, b_1, wb_1, Int.reduceSub, Int.reduceToNat, List.getD_cons_succ, List.getD_cons_zero, Int.reduceLE, Int.reduceLT, Int.reduceEq, Int.reduceNeg, Int.reduceAdd, Int.reduceMul, and_self, em_b, ne_eq, not_false_eq_true, not_true_eq_false]
          try rfl
      · obtain ⟨h', fm', p7, p8, c1, c2, c3, c4⟩ := ihq (j + 1) g fm1 (some (vi (encC c x.2))) (by omega) b2 b3 gv (step (fun z => hc z.2))
        refine ⟨h', fm', p7, p8, chy_t (chy_w b1 (by omega)) c1, c2, c3, fun d Q => ?_⟩
        rw [← c4 d Q]
        have b4' := fun (Q : PQ) => b4 d Q
        simp only [hc, if_false] at b4'
        rw [show d + 9 + (r + 1) = d + 7 + r + 2 + 1 by omega]
        rw [show d + 9 + r = d + 7 + r + 2 by omega] at b4'
        rw [e_87_78]
        simp (disch := omega) only [e_87_80, e_87_82, e_87_85, e_87_87, e_87_90, e_87_91, e_87_94, e_87_95, e_87_96, e_87_98, e_87_99, e_87_101, e_87_102, e_87_103, e_87_106, e_87_108, e_87_109, e_87_112, e_87_115, e_87_116, e_87_117, e_87_119, e_87_120, e_87_121, e_87_122, e_87_125, e_87_128, e_87_129, e_87_132, e_87_133, e_87_135, e_87_138, h27, h4, h6, hfv, hAc, hf, ft, av, b4', ej, ev, true_and, rwO_c, rwO_g0, rwO_k0, rwO_g1, rwO_k1, rwO_s1, rwO_g2, rwO_k2, rwO_s2, rwO_g3, rwO_k3, rwO_g4, rwO_k4, rwO_s4, rwO_g5, rwO_k5, rwO_g6, rwO_k6, dkO_c, dkO_g0, dkO_k0, dkO_s0, dkO_g1, dkO_k1, dkO_s1, dkO_g2, dkO_k2, dkO_s2, hoO_c, hoO_g0, hoO_k0, hoO_s0, hoO_g1, hoO_k1, hoO_s1, hoO_g2, hoO_k2, hoO_s2, hoO_g3, hoO_k3, hoO_g4, hoO_k4, hoO_g5, hoO_k5, hoO_g6, hoO_k6, hoO_g7, hoO_k7, hoO_g8, hoO_k8, hoO_g9, hoO_k9, hoO_s9, iup_s, iup_n, hp_up1, hp_upn, ne_eq, not_false_eq_true, sh_0, sh_1, sh_2, sh_3, sh_4, sh_5, sh_8, sh_15, sh_16, sh_24, Int.reducePow, Int.cast_ofNat_Int, w_of, wl_of, ltT, ltF, leT, leF, eqT, eqF, okF_0, okF_s, gF_0, gF_s, consC_o, sF_0, sF_s, clsO_o, inA_i, ldA_i, stA_i, inJ_l, ldJ_l, stJ_l, inR_r, ldR_r, stR_r, tgR_r, lenA_i, lenA_l, lenA_r, lenA_ex, nl_i, nl_o, nl_l, nl_n, wd_n, wd_i, wd_l, wd_o, fit_i, fit_l, fit_o, K_v, K_n, true_and, and_true, Nat.reduceAdd, Nat.reduceLeDiff, Nat.reduceEqDiff, Nat.reduceMul, Nat.reduceLT, reduceIte, true_or, or_true, cmp_lt, cmp_gt, cmp_eq, wb_0, b_01, cmp_lt', cmp_gt', cmp_eq', b_0, b_1, wb_1, Int.reduceSub, Int.reduceToNat, List.getD_cons_succ, List.getD_cons_zero, Int.reduceLE, Int.reduceLT, Int.reduceEq, Int.reduceNeg, Int.reduceAdd, Int.reduceMul, and_self, em_b, ne_eq, not_false_eq_true, not_true_eq_false]
        try rfl
    · simp only [hft, if_false, Bool.false_eq_true] at ft
      obtain ⟨h', fm', p7, p8, c1, c2, c3, c4⟩ := ihq (j + 1) h fm (some (vi (encC c x.2))) (by omega) hA' hm hfv (step (fun z => hft z.1))
      refine ⟨h', fm', p7, p8, c1, c2, c3, fun d Q => ?_⟩
      rw [← c4 d Q]
      rw [show d + 9 + (r + 1) = d + 7 + r + 2 + 1 by omega]
      rw [e_87_78]
      simp (disch := omega) only [e_87_80, e_87_82, e_87_85, e_87_87, e_87_90, e_87_91, e_87_94, e_87_95, e_87_96, e_87_98, e_87_99, e_87_101, e_87_102, e_87_103, e_87_106, e_87_108, e_87_109, e_87_112, e_87_132, e_87_133, e_87_135, e_87_138, h27, h4, h6, hfv, hAc, hf, ft, av, ej, ev, true_and, rwO_c, rwO_g0, rwO_k0, rwO_g1, rwO_k1, rwO_s1, rwO_g2, rwO_k2, rwO_s2, rwO_g3, rwO_k3, rwO_g4, rwO_k4, rwO_s4, rwO_g5, rwO_k5, rwO_g6, rwO_k6, dkO_c, dkO_g0, dkO_k0, dkO_s0, dkO_g1, dkO_k1, dkO_s1, dkO_g2, dkO_k2, dkO_s2, hoO_c, hoO_g0, hoO_k0, hoO_s0, hoO_g1, hoO_k1, hoO_s1, hoO_g2, hoO_k2, hoO_s2, hoO_g3, hoO_k3, hoO_g4, hoO_k4, hoO_g5, hoO_k5, hoO_g6, hoO_k6, hoO_g7, hoO_k7, hoO_g8, hoO_k8, hoO_g9, hoO_k9, hoO_s9, iup_s, iup_n, hp_up1, hp_upn, ne_eq, not_false_eq_true, sh_0, sh_1, sh_2, sh_3, sh_4, sh_5, sh_8, sh_15, sh_16, sh_24, Int.reducePow, Int.cast_ofNat_Int, w_of, wl_of, ltT, ltF, leT, leF, eqT, eqF, okF_0, okF_s, gF_0, gF_s, consC_o, sF_0, sF_s, clsO_o, inA_i, ldA_i, stA_i, inJ_l, ldJ_l, stJ_l, inR_r, ldR_r, stR_r, tgR_r, lenA_i, lenA_l, lenA_r, lenA_ex, nl_i, nl_o, nl_l, nl_n, wd_n, wd_i, wd_l, wd_o, fit_i, fit_l, fit_o, K_v, K_n, true_and, and_true, Nat.reduceAdd, Nat.reduceLeDiff, Nat.reduceEqDiff, Nat.reduceMul, Nat.reduceLT, reduceIte, true_or, or_true, cmp_lt, cmp_gt, cmp_eq, wb_0, b_01, cmp_lt', cmp_gt', cmp_eq', b_0, b_1, wb_1, Int.reduceSub, Int.reduceToNat, List.getD_cons_succ, List.getD_cons_zero, Int.reduceLE, Int.reduceLT, Int.reduceEq, Int.reduceNeg, Int.reduceAdd, Int.reduceMul, and_self, em_b, ne_eq, not_false_eq_true, not_true_eq_false]
      try rfl
