/-! THE CLASS: Rows, goOn, forget, total -/
/-- told: how many hours, and where it was seen -/
def RowV (ow : Nat → Nat) (h : PH) (n : Nat) (lw : List Int) : Prop := ∃ (i : Nat → Int) (kA sA : Nat) (f g fw : Int → Int), hp h 45 = rwO i (vr kA) (vr sA) ∧ hp h 48 = aI 0 8 fw ∧ i 4 = (lw.length : Int) ∧ lw.length ≤ 8 ∧ (∀ k, k < lw.length → fw k = lw.getD k 0) ∧ hp h kA = aL n f ∧ hp h sA = aL n g ∧ (∀ j : Nat, f j = 0) ∧ (∀ j : Nat, g j = 0) ∧ ow kA = 5 ∧ ow sA = 5 ∧ kA ≠ sA ∧ 45 < kA ∧ 45 < sA ∧ kA < h.1 ∧ sA < h.1 ∧ n ≤ 24000
theorem Ro_prep {ow : Nat → Nat} {h : PH} {ca : Nat} {c : KC} {sky e n nd : Nat} {lw : List Int} {x2 x3 : Int} (hF : owF ow h) (hH : HoP ow h ca c sky e) (hD : DesP ow h nd) (hV : RowV ow h n lw) :
    ∃ (h' : PH) (ow' : Nat → Nat) (n' nd' d1 d2 : Nat), extO ow h ow' h' [2, 5] ∧ ((nd' = nd ∧ d1 = 0) ∨ (nd < nd' ∧ nd' = szC c ∧ d1 = 1)) ∧ ((n' = n ∧ d2 = 0) ∨ (n < n' ∧ n' = szC c ∧ d2 = 1)) ∧ h'.1 = h.1 + 3 * d1 + 2 * d2 ∧ h'.2.1 = h.2.1 + (3 * d1 + 2 * d2) * szC c ∧ HoP ow' h' ca c sky e ∧ DesP ow' h' nd' ∧ szC c ≤ nd' ∧ RowV ow' h' n' lw ∧ szC c ≤ n' ∧ ∀ d Q, WP (d + 10) 83 0 [some (vr 45), some (vr 27), some (vi x2), some (vi x3), none, none, none] [] h Q = WP (d + 10) 83 44 [some (vr 45), some (vr 27), some (vi x2), some (vi x3), some (vi (szC c)), none, none] [] h' Q := by
  have hKC := hH
  obtain ⟨ih, A, a1, a2, a3, a4, a5, a6, a7, a8, hKC⟩ := hKC
  have h24 := szC_le hKC.2.1.1
  have h90 := hF.1
  obtain ⟨y4, y5, y6, y7, y8, y9, y10, y11, y14, y15, y17, hA⟩ := KCty_sz hKC
  obtain ⟨h1, ow1, nd1, f1, f2, f3, f4, f5, f6⟩ := D_fit (z := szC c) hF hD h24
  have hF1 := ext_F f1 hF
  have hH1 := HoP_e hF f1 (by decide) (by decide) hH
  obtain ⟨p1, p2, p3, d34⟩ : ∃ a b c, hp h 34 = dkO a b c := by obtain ⟨l, o, m, _, _, _, ⟨z, _⟩, _⟩ := hD; exact ⟨_, _, _, z⟩
  obtain ⟨i, kA, sA, f, g, fw, v1, v2, v3, v3', v4, v5, v6, v7, v8, v9, v10, v11, v12, v13, v14, v15, v16⟩ := hV
  have t45 : ow 45 = 5 := hF.2 45 (by omega)
  have t48 : ow 48 = 18 := hF.2 48 (by omega)
  have u45 : ow1 45 = 5 := hF1.2 45 (by omega)
  have e45 : hp h1 45 = rwO i (vr kA) (vr sA) := by rw [f1.2.2 45 (by omega) (by rw [t45]; decide)]; exact v1
  have e48 : hp h1 48 = aI 0 8 fw := by rw [f1.2.2 48 (by omega) (by rw [t48]; decide)]; exact v2
  have ek : hp h1 kA = aL n f := by rw [f1.2.2 kA v14 (by rw [v9]; decide)]; exact v5
  have es : hp h1 sA = aL n g := by rw [f1.2.2 sA v15 (by rw [v10]; decide)]; exact v6
  have ok : ow1 kA = 5 := by rw [f1.2.1 kA v14]; exact v9
  have os : ow1 sA = 5 := by rw [f1.2.1 sA v15]; exact v10
  have hl1 := f1.1
  have f6' := fun (d : Nat) (Q : PQ) => f6 d Q
  by_cases hn : szC c ≤ n
  · have hV1 : RowV ow1 h1 n lw := ⟨i, kA, sA, f, g, fw, e45, e48, v3, v3', v4, ek, es, v7, v8, ok, os, v11, v12, v13, by omega, by omega, v16⟩
    have run : ∀ d Q, WP (d + 10) 83 0 [some (vr 45), some (vr 27), some (vi x2), some (vi x3), none, none, none] [] h Q = WP (d + 10) 83 44 [some (vr 45), some (vr 27), some (vi x2), some (vi x3), some (vi (szC c)), none, none] [] h1 Q := by
      intro d Q
      simp (disch := omega) only [e_83_0, e_83_1, e_83_4, e_83_7, e_83_9, e_83_10, e_83_13, e_83_15, e_83_18, e_83_19, e_83_22, e_83_23, e_83_25, a1, hA, v1, d34, f6', e45, ek, true_and, rwO_c, rwO_g0, rwO_k0, rwO_g1, rwO_k1, rwO_s1, rwO_g2, rwO_k2, rwO_s2, rwO_g3, rwO_k3, rwO_g4, rwO_k4, rwO_s4, rwO_g5, rwO_k5, rwO_g6, rwO_k6, dkO_c, dkO_g0, dkO_k0, dkO_s0, dkO_g1, dkO_k1, dkO_s1, dkO_g2, dkO_k2, dkO_s2, hoO_c, hoO_g0, hoO_k0, hoO_s0, hoO_g1, hoO_k1, hoO_s1, hoO_g2, hoO_k2, hoO_s2, hoO_g3, hoO_k3, hoO_g4, hoO_k4, hoO_g5, hoO_k5, hoO_g6, hoO_k6, hoO_g7, hoO_k7, hoO_g8, hoO_k8, hoO_g9, hoO_k9, hoO_s9, iup_s, iup_n, hp_up1, hp_upn, ne_eq, not_false_eq_true, sh_0, sh_1, sh_2, sh_3, sh_4, sh_5, sh_8, sh_15, sh_16, sh_24, Int.reducePow, Int.cast_ofNat_Int, w_of, wl_of, ltT, ltF, leT, leF, eqT, eqF, okF_0, okF_s, gF_0, gF_s, consC_o, sF_0, sF_s, clsO_o, inA_i, ldA_i, stA_i, inJ_l, ldJ_l, stJ_l, inR_r, ldR_r, stR_r, tgR_r, lenA_i, lenA_l, lenA_r, lenA_ex, nl_i, nl_o, nl_l, nl_n, wd_n, wd_i, wd_l, wd_o, fit_i, fit_l, fit_o, K_v, K_n, true_and, and_true, Nat.reduceAdd, Nat.reduceLeDiff, Nat.reduceEqDiff, Nat.reduceMul, Nat.reduceLT, reduceIte, true_or, or_true, cmp_lt, cmp_gt, cmp_eq, wb_0, b_01, cmp_lt', cmp_gt', cmp_eq', b_0, b_1, wb_1, Int.reduceSub, Int.reduceToNat, List.getD_cons_succ, List.getD_cons_zero, Int.reduceLE, Int.reduceLT, Int.reduceEq, Int.reduceNeg, Int.reduceAdd, Int.reduceMul, and_self, em_b, ne_eq, not_false_eq_true, not_true_eq_false]
      try rfl
    rcases f3 with ⟨z1, z2, z3⟩ | ⟨z1, z2, z3, z4⟩
    · exact ⟨h1, ow1, n, nd1, 0, 0, ext_w f1 (by decide), Or.inl ⟨z1, rfl⟩, Or.inl ⟨rfl, rfl⟩, by rw [z2]; omega, by rw [z2]; omega, hH1, f4, f5, hV1, hn, run⟩
    · exact ⟨h1, ow1, n, nd1, 1, 0, ext_w f1 (by decide), Or.inr ⟨z1, z2, rfl⟩, Or.inl ⟨rfl, rfl⟩, by rw [z3], by rw [z4]; omega, hH1, f4, f5, hV1, hn, run⟩
  · have z1 : 0 ≤ (szC c : Int) := by omega
    have z2 : (szC c : Int) ≤ 500000 := by omega
    have hx : extO ow1 h1 (fun k => if k < h1.1 then ow1 k else 5) (hup (mk1 (mk1 h1 (szC c) (aL (szC c) (fun _ => 0))) (szC c) (aL (szC c) (fun _ => 0))) 45 (rwO i (vr h1.1) (vr (h1.1 + 1)))) [5] := ⟨by show h1.1 ≤ h1.1 + 1 + 1; omega, fun k hk => if_pos hk, fun k k1 k2 => by rw [hp_upn (fun z => k2 (by rw [z, u45]; decide)), hp_mk2 (by omega), hp_mkn (by omega)]⟩
    have hV1 : RowV (fun k => if k < h1.1 then ow1 k else 5) (hup (mk1 (mk1 h1 (szC c) (aL (szC c) (fun _ => 0))) (szC c) (aL (szC c) (fun _ => 0))) 45 (rwO i (vr h1.1) (vr (h1.1 + 1)))) (szC c) lw := ⟨i, h1.1, h1.1 + 1, (fun _ => 0), (fun _ => 0), fw, hp_up1, by rw [hp_upn (by omega), hp_mk2 (by omega), hp_mkn (by omega)]; exact e48, v3, v3', v4, by rw [hp_upn (by omega), hp_mk2 (by omega), hp_mk1], by rw [hp_upn (by omega), hp_mk12], fun _ => rfl, fun _ => rfl, if_neg (by omega), if_neg (by omega), by omega, by omega, by omega, by show h1.1 < h1.1 + 1 + 1; omega, by show h1.1 + 1 < h1.1 + 1 + 1; omega, h24⟩
    have run : ∀ d Q, WP (d + 10) 83 0 [some (vr 45), some (vr 27), some (vi x2), some (vi x3), none, none, none] [] h Q = WP (d + 10) 83 44 [some (vr 45), some (vr 27), some (vi x2), some (vi x3), some (vi (szC c)), none, none] [] (hup (mk1 (mk1 h1 (szC c) (aL (szC c) (fun _ => 0))) (szC c) (aL (szC c) (fun _ => 0))) 45 (rwO i (vr h1.1) (vr (h1.1 + 1)))) Q := by
      intro d Q
      simp (disch := omega) only [e_83_0, e_83_1, e_83_4, e_83_7, e_83_9, e_83_10, e_83_13, e_83_15, e_83_18, e_83_19, e_83_22, e_83_23, e_83_25, e_83_28, e_83_29, e_83_31, e_83_33, e_83_36, e_83_37, e_83_39, e_83_41, a1, hA, v1, d34, f6', e45, ek, true_and, z1, z2, hup_n1, mk1_n1, hp_mk1, hp_mkn, hp_mk2, hp_mk12, mk_hup, mk_hup2, hup_tt, Int.toNat_natCast, rwO_c, rwO_g0, rwO_k0, rwO_g1, rwO_k1, rwO_s1, rwO_g2, rwO_k2, rwO_s2, rwO_g3, rwO_k3, rwO_g4, rwO_k4, rwO_s4, rwO_g5, rwO_k5, rwO_g6, rwO_k6, dkO_c, dkO_g0, dkO_k0, dkO_s0, dkO_g1, dkO_k1, dkO_s1, dkO_g2, dkO_k2, dkO_s2, hoO_c, hoO_g0, hoO_k0, hoO_s0, hoO_g1, hoO_k1, hoO_s1, hoO_g2, hoO_k2, hoO_s2, hoO_g3, hoO_k3, hoO_g4, hoO_k4, hoO_g5, hoO_k5, hoO_g6, hoO_k6, hoO_g7, hoO_k7, hoO_g8, hoO_k8, hoO_g9, hoO_k9, hoO_s9, iup_s, iup_n, hp_up1, hp_upn, ne_eq, not_false_eq_true, sh_0, sh_1, sh_2, sh_3, sh_4, sh_5, sh_8, sh_15, sh_16, sh_24, Int.reducePow, Int.cast_ofNat_Int, w_of, wl_of, ltT, ltF, leT, leF, eqT, eqF, okF_0, okF_s, gF_0, gF_s, consC_o, sF_0, sF_s, clsO_o, inA_i, ldA_i, stA_i, inJ_l, ldJ_l, stJ_l, inR_r, ldR_r, stR_r, tgR_r, lenA_i, lenA_l, lenA_r, lenA_ex, nl_i, nl_o, nl_l, nl_n, wd_n, wd_i, wd_l, wd_o, fit_i, fit_l, fit_o, K_v, K_n, true_and, and_true, Nat.reduceAdd, Nat.reduceLeDiff, Nat.reduceEqDiff, Nat.reduceMul, Nat.reduceLT, reduceIte, true_or, or_true, cmp_lt, cmp_gt, cmp_eq, wb_0, b_01, cmp_lt', cmp_gt', cmp_eq', b_0, b_1, wb_1, Int.reduceSub, Int.reduceToNat, List.getD_cons_succ, List.getD_cons_zero, Int.reduceLE, Int.reduceLT, Int.reduceEq, Int.reduceNeg, Int.reduceAdd, Int.reduceMul, and_self, em_b, ne_eq, not_false_eq_true, not_true_eq_false]
      try rfl
    have hH2 := HoP_e hF1 hx (by decide) (by decide) hH1
    have hD2 := DesP_e hF1 hx (by decide) f4
    have hxt := ext_t (ext_w (U := [2, 5]) f1 (by decide)) (ext_w (U := [2, 5]) hx (by decide))
    rcases f3 with ⟨y1, y2, y3⟩ | ⟨y1, y2, y3, y4⟩
    · exact ⟨_, _, szC c, nd1, 0, 1, hxt, Or.inl ⟨y1, rfl⟩, Or.inr ⟨by omega, rfl, rfl⟩, by show h1.1 + 1 + 1 = _; rw [y2], by show h1.2.1 + szC c + szC c = _; rw [y2]; omega, hH2, hD2, f5, hV1, Nat.le_refl _, run⟩
    · exact ⟨_, _, szC c, nd1, 1, 1, hxt, Or.inr ⟨y1, y2, rfl⟩, Or.inr ⟨by omega, rfl, rfl⟩, by show h1.1 + 1 + 1 = _; rw [y3], by show h1.2.1 + szC c + szC c = _; rw [y4]; omega, hH2, hD2, f5, hV1, Nat.le_refl _, run⟩
theorem nx_down {c : KC} {sky : Nat} {s : ST} (hd : downB c s = true) : nx c sky s = [] := nxTo_down hd 19
theorem can_down {c : KC} {sky : Nat} {s : ST} {m : Nat} (hd : downB c s = true) (hm : m < 19) (hc : canM c sky s m = true) : False := by
  have := nx_mem (c := c) (sky := sky) (s := s).mpr ⟨m, hm, hc, rfl⟩
  rw [nx_down hd] at this
  cases this
theorem tK_down {c : KC} {sky : Nat} {lw : List Int} {s : ST} (hd : downB c s = true) : ∀ {k : Nat} {W : ST → Int}, tK c sky lw s (k + 1) W = 0
  | 0, W => by
    show hsum (fitB c lw 0) W (nx c sky s) = 0
    rw [nx_down hd]; rfl
  | k + 1, W => tK_down hd (k := k)
theorem fw_down {c : KC} {sky : Nat} {lw : List Int} {s : ST} (hd : downB c s = true) : ∀ {k : Nat} {z : ST}, ¬ fwS c sky lw (k + 1) s z
  | 0, z => by
    rintro ⟨u, m, h1, h2, h3, -⟩
    have e : u = s := h1
    rw [e] at h3
    exact can_down hd h2 h3
  | k + 1, z => by
    rintro ⟨u, m, h1, -⟩
    exact fw_down hd h1
theorem Ro_goOn {ow : Nat → Nat} {h : PH} {ca : Nat} {c : KC} {sky e n nd nn : Nat} {lw : List Int} {s : ST} (hF : owF ow h) (hH : HoP ow h ca c sky e) (hD : DesP ow h nd) (hV : RowV ow h n lw) (hs : okS c s) (hnn : nn ≤ lw.length) (hb : ∀ k, k < nn → -1 ≤ lw.getD k 0 ∧ lw.getD k 0 < 5) (hdn : downB c s = false ∨ 1 ≤ nn) :
    ∃ (h' : PH) (ow' : Nat → Nat) (n' nd' d1 d2 : Nat) (i : Nat → Int) (dl dx dm kA sA : Nat) (fw fm : Int → Int) (M : List ST), extO ow h ow' h' [1, 2, 5] ∧ ((nd' = nd ∧ d1 = 0) ∨ (nd < nd' ∧ nd' = szC c ∧ d1 = 1)) ∧ ((n' = n ∧ d2 = 0) ∨ (n < n' ∧ n' = szC c ∧ d2 = 1)) ∧ h'.1 = h.1 + 3 * d1 + 2 * d2 ∧ h'.2.1 = h.2.1 + (3 * d1 + 2 * d2) * szC c ∧ HoP ow' h' ca c sky e ∧ szC c ≤ nd' ∧ nd' ≤ 24000 ∧ szC c ≤ n' ∧ n' ≤ 24000 ∧ RwW ow' dl dx kA sA ∧ (kA < h'.1 ∧ sA < h'.1) ∧ deW ow' h' dl dx dm nd' ∧ hp h' dm = aI 0 nd' fm ∧ i 4 = (lw.length : Int) ∧ (∀ k, k < lw.length → fw k = lw.getD k 0) ∧ RwS c h' i dl dx dm kA sA n' nd' fw M (tK c sky lw s nn) (fwS c sky lw nn s) ∧ tK c sky lw s nn (fun _ => 1) ≤ 15 ^ nn ∧ ∀ d Q, WP (d + 10) 83 0 [some (vr 45), some (vr 27), some (vi (encC c s)), some (vi nn), none, none, none] [] h Q = Q (some (vi M.length)) h' := by
  obtain ⟨hO⟩ : Nonempty (okC c) := by obtain ⟨_, _, _, _, _, _, _, _, _, _, a9⟩ := hH; exact ⟨a9.2.1⟩
  have hK := hO.1
  have h24 := szC_le hK
  have hsl := encC_lt hK hs
  obtain ⟨h1, ow1, n1, nd1, d1, d2, f1, f2, f3, f4, f5, f6, f7, f8, f9, f10, f11⟩ := Ro_prep (x2 := (encC c s : Int)) (x3 := (nn : Int)) hF hH hD hV
  have hF1 := ext_F f1 hF
  obtain ⟨i, kA, sA, f, g, fw, v1, v2, v3, v3', v4, v5, v6, v7, v8, v9, v10, v11, v12, v13, v14, v15, v16⟩ := f9
  obtain ⟨l, o, m, fl, fo, fm, ⟨c1, c2, c3, c4⟩, hdW⟩ := f7
  have hdW' := hdW
  obtain ⟨x1, x2, x3, x4, x5, x6, x7, x8, x9, x10, x11, x12, x13⟩ := hdW
  have hKC := f6
  obtain ⟨ih, A, a1, a2, a3, a4, a5, a6, a7, a8, hKC⟩ := hKC
  obtain ⟨y4, y5, y6, y7, y8, y9, y10, y11, y14, y15, y17, hA⟩ := KCty_sz hKC
  have dn := fun (d : Nat) (Q : PQ) => c_isDown (d := d) (Q := Q) hK hKC.1 hs
  have hW : RwW ow1 l o kA sA := ⟨v10, v9, x2, x1, v13, x8, v12, v11, x4, x7⟩
  by_cases hd : downB c s = true
  · have h1n : 1 ≤ nn := by
      rcases hdn with z | z
      · rw [hd] at z; cases z
      · exact z
    simp only [hd, if_true] at dn
    obtain ⟨k, rfl⟩ : ∃ k, nn = k + 1 := ⟨nn - 1, by omega⟩
    refine ⟨h1, ow1, n1, nd1, d1, d2, i, l, o, m, kA, sA, fw, fm, [], ext_w f1 (by decide), f2, f3, f4, f5, f6, f8, x13, f10, v16, hW, ⟨v14, v15⟩, hdW', c4, v3, v4, ⟨f, g, fl, fo, c1, v1, v2, v5, v6, v8, c2, c3, rc_ext (rc_0 v7) (fun W => (tK_down hd).symm) (fun z => ⟨fun y => y.elim, fun y => fw_down hd y⟩), (fun j s hj => by simp at hj)⟩, ?_, fun d Q => ?_⟩
    · rw [tK_down hd]
      have : (0 : Int) ≤ ((15 ^ (k + 1) : Nat) : Int) := Int.natCast_nonneg _
      rw [Int.natCast_pow] at this
      exact this
    · rw [f11 d Q, show ((([] : List ST).length : Nat) : Int) = 0 from rfl]
      simp (disch := omega) only [e_83_44, e_83_45, e_83_48, e_83_49, e_83_52, e_83_55, e_83_56, a1, hA, dn, true_and, rwO_c, rwO_g0, rwO_k0, rwO_g1, rwO_k1, rwO_s1, rwO_g2, rwO_k2, rwO_s2, rwO_g3, rwO_k3, rwO_g4, rwO_k4, rwO_s4, rwO_g5, rwO_k5, rwO_g6, rwO_k6, dkO_c, dkO_g0, dkO_k0, dkO_s0, dkO_g1, dkO_k1, dkO_s1, dkO_g2, dkO_k2, dkO_s2, hoO_c, hoO_g0, hoO_k0, hoO_s0, hoO_g1, hoO_k1, hoO_s1, hoO_g2, hoO_k2, hoO_s2, hoO_g3, hoO_k3, hoO_g4, hoO_k4, hoO_g5, hoO_k5, hoO_g6, hoO_k6, hoO_g7, hoO_k7, hoO_g8, hoO_k8, hoO_g9, hoO_k9, hoO_s9, iup_s, iup_n, hp_up1, hp_upn, ne_eq, not_false_eq_true, sh_0, sh_1, sh_2, sh_3, sh_4, sh_5, sh_8, sh_15, sh_16, sh_24, Int.reducePow, Int.cast_ofNat_Int, w_of, wl_of, ltT, ltF, leT, leF, eqT, eqF, okF_0, okF_s, gF_0, gF_s, consC_o, sF_0, sF_s, clsO_o, inA_i, ldA_i, stA_i, inJ_l, ldJ_l, stJ_l, inR_r, ldR_r, stR_r, tgR_r, lenA_i, lenA_l, lenA_r, lenA_ex, nl_i, nl_o, nl_l, nl_n, wd_n, wd_i, wd_l, wd_o, fit_i, fit_l, fit_o, K_v, K_n, true_and, and_true, Nat.reduceAdd, Nat.reduceLeDiff, Nat.reduceEqDiff, Nat.reduceMul, Nat.reduceLT, reduceIte, true_or, or_true, cmp_lt, cmp_gt, cmp_eq, wb_0, b_01, cmp_lt', cmp_gt', cmp_eq', b_0, b_1, wb_1, Int.reduceSub, Int.reduceToNat, List.getD_cons_succ, List.getD_cons_zero, Int.reduceLE, Int.reduceLT, Int.reduceEq, Int.reduceNeg, Int.reduceAdd, Int.reduceMul, and_self, em_b, ne_eq, not_false_eq_true, not_true_eq_false]
      try rfl
  · have hd' : downB c s = false := by simpa using hd
    simp only [hd', if_false, Bool.false_eq_true] at dn
    have lk : l ≠ kA := fun z => by rw [z, v9] at x1; omega
    have ls : l ≠ sA := fun z => by rw [z, v10] at x1; omega
    have ok : o ≠ kA := fun z => by rw [z, v9] at x2; omega
    have t45 : ow1 45 = 5 := hF1.2 45 (by omega)
    have t48 : ow1 48 = 18 := hF1.2 48 (by omega)
    have l45 : l ≠ 45 := fun z => by rw [z, t45] at x1; omega
    have l48 : l ≠ 48 := fun z => by rw [z, t48] at x1; omega
    have k48 : kA ≠ 48 := fun z => by rw [z, t48] at v9; omega
    have hch : chs [kA, l] h1 (hup (hup h1 l (aI 0 nd1 (fset fl 0 (encC c s)))) kA (aL n1 (fset f (encC c s : Nat) 1))) := chs_t (chs_up (by simp)) (chs_up (by simp))
    have hc2 : chg ow1 [2, 5] h1 _ := chs_c hch (fun y hy => by
      simp at hy
      rcases hy with z | z
      · rw [z, v9]; simp
      · rw [z, x1]; simp)
    have hrc := rc_new (a := 1) (rc_0 (c := c) v7) hs (v7 _) (by omega)
    rw [v7] at hrc
    have hS : RwS c (hup (hup h1 l (aI 0 nd1 (fset fl 0 (encC c s)))) kA (aL n1 (fset f (encC c s : Nat) 1))) i l o m kA sA n1 nd1 fw [s] (tK c sky lw s 0) (fwS c sky lw 0 s) := ⟨fset f (encC c s : Nat) 1, g, fset fl 0 (encC c s), fo, by rw [hch.2.2 34 (by simp; omega)]; exact c1, by rw [hch.2.2 45 (by simp; omega)]; exact v1, by rw [hch.2.2 48 (by simp; omega)]; exact v2, hp_up1, by rw [hch.2.2 sA (by simp; exact ⟨fun z => v11 z.symm, fun z => ls z.symm⟩)]; exact v6, v8, by rw [hp_upn lk, hp_up1], by rw [hch.2.2 o (by simp; exact ⟨ok, fun z => x4 z.symm⟩)]; exact c3, rc_ext hrc (fun W => by show 0 + 1 * W s = W s; omega) (fun z => ⟨fun y => by rcases y with y | y; exact y.elim; exact y, fun y => Or.inr y⟩), by
      have := path_push (c := c) (P := []) (f := fl) (t := s) (fun j s hj => by simp at hj)
      exact this⟩
    obtain ⟨h', M', dl', dx', kA', sA', e1, e2, e3, e4, e5, e6, e7⟩ := Ro_goLp (nn := nn) (lw := lw) (s := s) (x2 := (encC c s : Int)) (x4 := (szC c : Int)) hO f10 v16 f8 x13 (by omega) (fun k hk => v4 k (by omega)) hb nn 0 _ [s] l o kA sA (by omega) (chg_F hc2 hF1) (HoP_c hF1 hc2 (by decide) (by decide) f6) hW hS (by show (1 : Int) ≤ 15 ^ 0; decide)
    have g1 : h'.1 = h1.1 := by rw [e1.1]; rfl
    have g2 : h'.2.1 = h1.2.1 := by rw [e1.2.1]; rfl
    have u34 := tg_34 hF1
    have hx : extO ow1 h1 ow1 h' [1, 2, 5] := ⟨by rw [g1]; exact Nat.le_refl _, fun _ _ => rfl, fun k k1 k2 => by
      have hne : ¬ k ∈ [34, 45, kA, sA, l, o] := fun z => k2 (by
        simp at z
        rcases z with z | z | z | z | z | z
        · rw [z, u34]; simp
        · rw [z, t45]; simp
        · rw [z, v9]; simp
        · rw [z, v10]; simp
        · rw [z, x1]; simp
        · rw [z, x2]; simp)
      rw [e1.2.2 k (fun z => k2 (by rw [z]; simp)) hne, hch.2.2 k (fun z => hne (by simp at z ⊢; omega))]⟩
    have hm : hp h' m = aI 0 nd1 fm := by
      have m45 : m ≠ 45 := fun z => by rw [z, t45] at x3; omega
      have mk : m ≠ kA := fun z => by rw [z, v9] at x3; omega
      have ms : m ≠ sA := fun z => by rw [z, v10] at x3; omega
      rw [e1.2.2 m (by rw [x3]; decide) (by simp; exact ⟨by omega, m45, mk, ms, fun z => x5 z.symm, fun z => x6 z.symm⟩), hch.2.2 m (by simp; exact ⟨mk, fun z => x5 z.symm⟩)]
      exact c4
    have hsw : (kA' < h'.1 ∧ sA' < h'.1) ∧ deW ow1 h' dl' dx' m nd1 := by
      rcases e4 with ⟨z1, z2, z3, z4⟩ | ⟨z1, z2, z3, z4⟩
      · subst z1 z2 z3 z4
        exact ⟨⟨by rw [g1]; exact v14, by rw [g1]; exact v15⟩, x1, x2, x3, x4, x5, x6, x7, x8, x9, by rw [g1]; exact x10, by rw [g1]; exact x11, by rw [g1]; exact x12, x13⟩
      · subst z1 z2 z3 z4
        exact ⟨⟨by rw [g1]; exact v15, by rw [g1]; exact v14⟩, x2, x1, x3, fun z => x4 z.symm, x6, x5, x8, x7, x9, by rw [g1]; exact x11, by rw [g1]; exact x10, by rw [g1]; exact x12, x13⟩
    refine ⟨h', ow1, n1, nd1, d1, d2, i, dl', dx', m, kA', sA', fw, fm, M', ext_t (ext_w f1 (by decide)) hx, f2, f3, by rw [g1]; exact f4, by rw [g2]; exact f5, e2, f8, x13, f10, v16, e3, hsw.1, hsw.2, hm, v3, v4, e5, e6, fun d Q => ?_⟩
    rw [f11 d Q]
    have e7' := e7 d Q
    rw [nc0, show ((([s] : List ST).length : Nat) : Int) = 1 from rfl] at e7'
    rw [← e7']
    have l10 : 10 ≤ l := by omega
    have k10 : 10 ≤ kA := by omega
    simp (disch := omega) only [e_83_44, e_83_45, e_83_48, e_83_49, e_83_52, e_83_55, e_83_56, e_83_57, e_83_58, e_83_61, e_83_64, e_83_65, e_83_66, e_83_67, e_83_68, e_83_71, e_83_72, e_83_73, e_83_74, e_83_75, e_83_77, e_83_78, a1, hA, dn, v1, c1, c2, v5, l10, k10, true_and, rwO_c, rwO_g0, rwO_k0, rwO_g1, rwO_k1, rwO_s1, rwO_g2, rwO_k2, rwO_s2, rwO_g3, rwO_k3, rwO_g4, rwO_k4, rwO_s4, rwO_g5, rwO_k5, rwO_g6, rwO_k6, dkO_c, dkO_g0, dkO_k0, dkO_s0, dkO_g1, dkO_k1, dkO_s1, dkO_g2, dkO_k2, dkO_s2, hoO_c, hoO_g0, hoO_k0, hoO_s0, hoO_g1, hoO_k1, hoO_s1, hoO_g2, hoO_k2, hoO_s2, hoO_g3, hoO_k3, hoO_g4, hoO_k4, hoO_g5, hoO_k5, hoO_g6, hoO_k6, hoO_g7, hoO_k7, hoO_g8, hoO_k8, hoO_g9, hoO_k9, hoO_s9, iup_s, iup_n, hp_up1, hp_upn, ne_eq, not_false_eq_true, sh_0, sh_1, sh_2, sh_3, sh_4, sh_5, sh_8, sh_15, sh_16, sh_24, Int.reducePow, Int.cast_ofNat_Int, w_of, wl_of, ltT, ltF, leT, leF, eqT, eqF, okF_0, okF_s, gF_0, gF_s, consC_o, sF_0, sF_s, clsO_o, inA_i, ldA_i, stA_i, inJ_l, ldJ_l, stJ_l, inR_r, ldR_r, stR_r, tgR_r, lenA_i, lenA_l, lenA_r, lenA_ex, nl_i, nl_o, nl_l, nl_n, wd_n, wd_i, wd_l, wd_o, fit_i, fit_l, fit_o, K_v, K_n, true_and, and_true, Nat.reduceAdd, Nat.reduceLeDiff, Nat.reduceEqDiff, Nat.reduceMul, Nat.reduceLT, reduceIte, true_or, or_true, cmp_lt, cmp_gt, cmp_eq, wb_0, b_01, cmp_lt', cmp_gt', cmp_eq', b_0, b_1, wb_1, Int.reduceSub, Int.reduceToNat, List.getD_cons_succ, List.getD_cons_zero, Int.reduceLE, Int.reduceLT, Int.reduceEq, Int.reduceNeg, Int.reduceAdd, Int.reduceMul, and_self, em_b, ne_eq, not_false_eq_true, not_true_eq_false]
    try rfl
