/-! Keeping: deedAt -/
def cpyF (f g : Int → Int) (n : Nat) : Int → Int := fun j => if 0 ≤ j ∧ j < (n : Int) then f j else g j
theorem cp_eq {f g : Int → Int} {n : Nat} (hn : n < 2147483648) : (fun j => if w 0 ≤ j ∧ j < w 0 + w (n : Int) then f (j - w 0 + w 0) else g j) = cpyF f g n := by
  funext j
  unfold cpyF
  rw [w_nat hn, show w 0 = 0 from rfl, Int.zero_add, Int.sub_zero, Int.add_zero]
theorem cp_at {f g : Int → Int} {n j : Nat} (hj : j < n) : cpyF f g n j = f j := by
  unfold cpyF
  rw [if_pos (by omega)]
theorem cp_side {a b n nn kk : Nat} (h1 : 10 ≤ a) (h2 : 10 ≤ b) (hn : n ≤ nn) (hk : n ≤ kk) (hnn : nn ≤ 24000) : 10 ≤ a ∧ 10 ≤ b ∧ wd [] ≤ 8 ∧ 0 ≤ w 0 ∧ 0 ≤ w 0 ∧ 0 ≤ w (n : Int) ∧ w 0 + w (n : Int) ≤ nn ∧ w 0 + w (n : Int) ≤ kk := by
  rw [w_nat (by omega), show w 0 = 0 from rfl]
  exact ⟨h1, h2, by decide, by omega, by omega, by omega, by omega, by omega⟩
theorem k_cp1 {d : Nat} {ls : PL} {Q : PQ} {h : PH} {a b n nn kk : Nat} {f g : Int → Int} (ha : hp h a = aI 0 nn f) (hb : hp h b = aI 0 kk g) (h1 : 10 ≤ a) (h2 : 10 ≤ b) (hn : n ≤ nn) (hk : n ≤ kk) (hnn : nn ≤ 24000) : WP d 52 90 ls [vi (n : Nat), vi 0, vr b, vi 0, vr a] h Q = WP d 52 93 ls [] (hup h b (aI 0 kk (cpyF f g n))) Q := by
  rw [e_52_90 ha hb, cp_eq (by omega)]
  exact propext ⟨fun z => z.2, fun z => ⟨cp_side h1 h2 hn hk hnn, z⟩⟩
theorem k_cp2 {d : Nat} {ls : PL} {Q : PQ} {h : PH} {a b n nn kk : Nat} {f g : Int → Int} (ha : hp h a = aI 0 nn f) (hb : hp h b = aI 0 kk g) (h1 : 10 ≤ a) (h2 : 10 ≤ b) (hn : n ≤ nn) (hk : n ≤ kk) (hnn : nn ≤ 24000) : WP d 52 105 ls [vi (n : Nat), vi 0, vr b, vi 0, vr a] h Q = WP d 52 108 ls [] (hup h b (aI 0 kk (cpyF f g n))) Q := by
  rw [e_52_105 ha hb, cp_eq (by omega)]
  exact propext ⟨fun z => z.2, fun z => ⟨cp_side h1 h2 hn hk hnn, z⟩⟩
/-- an hour behind which it can be kept up as long as can be -/
def kgd (c : KC) (sky : Nat) (s : ST) (x : Nat × ST) : Prop := downB c x.2 = false ∧ ∀ n, surv c sky 3 (n + 1) s → surv c sky 3 n x.2
def wntR (c : KC) (sky : Nat) (s : ST) (u : Int) : Prop := (u = 2147483647 ∧ endl c sky 3 s) ∨ ∃ v : Nat, u = (v : Int) ∧ valS c sky 3 s v ∧ v < 24000
theorem kgd_iff {c : KC} {sky : Nat} {s : ST} {x : Nat × ST} {u v : Int} (hx : x ∈ nx c sky s) (hd : downB c x.2 = false) (hw : wntR c sky s u) (hu : u ≠ 0) (hr : wrtR c sky 3 x.2 v) : v = u ↔ kgd c sky s x := by
  have hxe : x ∈ en c sky 3 s := en_mem.mpr ⟨hx, hd, need_3 (nx_deed3 hx)⟩
  rcases hw with ⟨rfl, hw⟩ | ⟨k, rfl, hw, hk⟩
  · rcases hr with ⟨rfl, hr⟩ | ⟨m, rfl, hr, hm⟩
    · exact ⟨fun _ => ⟨hd, fun n _ => hr n⟩, fun _ => rfl⟩
    · exact ⟨fun z => by omega, fun z => absurd (z.2 (m + 1) (hw _)) hr.2⟩
  · rcases hr with ⟨rfl, hr⟩ | ⟨m, rfl, hr, hm⟩
    · exact absurd (surv_s.mpr ⟨x, hxe, hr k⟩) hw.2
    · constructor
      · intro z
        refine ⟨hd, fun n hn => ?_⟩
        refine surv_le (n := m) ?_ hr.1
        by_cases q : n ≤ m
        · exact q
        · exact absurd (surv_le (by omega) hn) hw.2
      · intro z
        have h1 : k ≠ 0 := fun y => hu (by rw [y]; rfl)
        have h2 := z.2 (k - 1) (by rw [show k - 1 + 1 = k by omega]; exact hw.1)
        by_cases q : m + 1 = k
        · omega
        · by_cases q2 : m + 1 < k
          · exact absurd (surv_le (by omega) h2) hr.2
          · exact absurd (surv_s.mpr ⟨x, hxe, surv_le (by omega) hr.1⟩ : surv c sky 3 (k + 1) s) hw.2
theorem kgd_good {c : KC} {sky : Nat} {s : ST} {m : Nat} (hK : okK c) (hc : canM c sky s m = true) : goodM c sky 0 s m ↔ kgd c sky s (deedM m, toM c sky s m) := by
  constructor
  · intro z
    exact ⟨z.2.1.1, fun n hn => (sv_surv hK _ _).mp (z.2.2 n ((sv_surv hK _ _).mpr hn)).1⟩
  · intro z
    exact ⟨hc, ⟨z.1, fun p hp => absurd hp (by omega)⟩, fun n hn => ⟨(sv_surv hK _ _).mpr (z.2 n ((sv_surv hK _ _).mp hn)), fun p hp => absurd hp (by omega)⟩⟩
theorem kgd_fst {c : KC} {sky : Nat} {s : ST} {j : Nat} {x : Nat × ST} (hK : okK c) (hx : (nx c sky s)[j]? = some x) (hg : kgd c sky s x) (hf : ∀ (k : Nat) y, k < j → (nx c sky s)[k]? = some y → ¬ kgd c sky s y) : ∃ m, fstG c sky 0 s m ∧ x.1 = deedM m ∧ x.2 = toM c sky s m := by
  obtain ⟨m, m1, m2, m3, m4⟩ := nx_idx hx
  subst m3
  refine ⟨m, ⟨m1, (kgd_good hK m2).mpr hg, fun m' hm' z => ?_⟩, rfl, rfl⟩
  have hc' := z.1
  have h1 := nx_at (c := c) (sky := sky) (s := s) (m := m') (by omega) hc'
  exact hf _ _ (by rw [m4]; exact nxTo_lt hm' hc') h1 ((kgd_good hK hc').mp z)
theorem kgd_ex {c : KC} {sky : Nat} {s : ST} (hK : okK c) (h1 : surv c sky 3 1 s) : ∃ (j : Nat) (x : Nat × ST), (nx c sky s)[j]? = some x ∧ kgd c sky s x := by
  obtain ⟨m, h2, h3⟩ := good_ex ((sv_surv (sky := sky) hK 1 s).mpr h1)
  exact ⟨_, _, nx_at h2 h3.1, (kgd_good hK h3.1).mp h3⟩
theorem K_dIn {ow : Nat → Nat} {ca : Nat} {c : KC} {sky e n nd wA l I st : Nat} {s : ST} {u x2 x4 x5 : Int} {po pm : PV} {L : List (Nat × ST)} {f43 f44 : Int → Int} (hL : nx c sky s = L) (hO : okC c) (hs : okS c s) (hn : szC c ≤ n) (hn1 : n ≤ 24000) (hn2 : szC c ≤ nd) (hn3 : nd ≤ 24000) (hwA : ow wA = 4) (hwA2 : wA = 42 ∨ 44 < wA) (hl : ow l = 2) (hl2 : 34 < l) (hw : wntR c sky s u) (hu : u ≠ 0) (hca : 10 ≤ ca) (hff : ∀ (k : Nat) x, L[k]? = some x → f43 k = x.1 ∧ f44 k = encC c x.2) :
    ∀ (r j : Nat) (h : PH) (i : Nat → Int) (kn fl : Int → Int), j + r = L.length → owF ow h → HoP ow h ca c sky e → hp h 34 = dkO (vr l) po pm → hp h 41 = kpO i (vr ca) (vr wA) → hp h wA = aI 0 n kn → hp h l = aI 0 nd fl → hp h 43 = aI 0 16 f43 → hp h 44 = aI 0 16 f44 → knI c sky 3 kn [] → (∀ (k : Nat) x, k < j → L[k]? = some x → ¬ kgd c sky s x) →
    ∃ (h' : PH) (i' : Nat → Int) (kn' fl' : Int → Int), chx ow [41, wA, l] h h' ∧ HoP ow h' ca c sky e ∧ hp h' 41 = kpO i' (vr ca) (vr wA) ∧ i' 2 = i 2 ∧ hp h' wA = aI 0 n kn' ∧ hp h' l = aI 0 nd fl' ∧ knI c sky 3 kn' [] ∧
      ((∀ (k : Nat) x, L[k]? = some x → ¬ kgd c sky s x) ∨ ∃ (k : Nat) (x : Nat × ST), L[k]? = some x ∧ kgd c sky s x ∧ (∀ (k' : Nat) x', k' < k → L[k']? = some x' → ¬ kgd c sky s x') ∧ kn' (encC c x.2) ≠ 0 ∧ ∀ d Q, WP (d + 11) 52 114 [some (vr 41), some (vr 27), some (vi x2), some (vi I), some (vi x4), some (vi x5), some (vi st), some (vi u), some (vi L.length), some (vi 0), some (vi j)] [] h Q = WP (d + 11) 52 211 [some (vr 41), some (vr 27), some (vi x2), some (vi I), some (vi (encC c x.2)), some (vi x.1), some (vi st), some (vi u), some (vi L.length), some (vi 1), some (vi ((k + 1 : Nat) : Int))] [] h' Q) := by
  have hK := hO.1
  have h24 := szC_le hK
  have hub : -1 ≤ u ∧ u ≤ 2147483647 := by
    rcases hw with ⟨z, -⟩ | ⟨v, z, -, z2⟩ <;> omega
  have hl := hl
  intro r
  induction r with
  | zero =>
    intro j h i kn fl hj hF hH h34 h41 hkn hfl h43 h44 hI hno
    refine ⟨h, i, kn, fl, chx_r, hH, h41, rfl, hkn, hfl, hI, Or.inl (fun k x hx => hno k x ?_ hx)⟩
    have := (List.getElem?_eq_some_iff.mp hx).1
    omega
  | succ r ih =>
    intro j h i kn fl hj hF hH h34 h41 hkn hfl h43 h44 hI hno
    obtain ⟨hKC⟩ : Nonempty (KCty ow h ca c) := by obtain ⟨_, _, _, _, _, _, _, _, _, _, a9⟩ := hH; exact ⟨a9⟩
    obtain ⟨y4, y5, y6, y7, y8, y9, y10, y11, y14, y15, y17, hA⟩ := KCty_sz hKC
    have hx : L[j]? = some L[j] := List.getElem?_eq_getElem (by omega)
    generalize L[j] = x at hx
    have hlen := nx_len (sky := sky) hO hs
    rw [hL] at hlen
    obtain ⟨f1, f2⟩ := hff j x hx
    have hxm : x ∈ nx c sky s := by rw [hL]; exact List.mem_of_getElem? hx
    have hxo := nx_ok hs hxm
    have hxl := encC_lt hK hxo
    have dn := fun (d : Nat) (Q : PQ) => c_isDown (d := d) (Q := Q) hK hKC.1 hxo
    have ej : (j : Int) + 1 = ((j + 1 : Nat) : Int) := by omega
    by_cases hd : downB c x.2 = true
    · obtain ⟨h', i', kn', fl', b1, b2, b3, b4, b5, b6, b7, b8⟩ := ih (j + 1) h i kn fl (by omega) hF hH h34 h41 hkn hfl h43 h44 hI (fun k y hk hy => by
        by_cases z : k = j
        · rw [z, hx] at hy
          have ey : x = y := Option.some.inj hy
          rw [← ey]
          intro w
          rw [w.1] at hd
          exact absurd hd (by decide)
        · exact hno k y (by omega) hy)
      refine ⟨h', i', kn', fl', b1, b2, b3, b4, b5, b6, b7, ?_⟩
      rcases b8 with z | ⟨k, y, z1, z2, z3, z4, z5⟩
      · exact Or.inl z
      · refine Or.inr ⟨k, y, z1, z2, z3, z4, fun d Q => ?_⟩
        rw [← z5 d Q]
        simp only [hd, if_true] at dn
        rw [e_52_114]
        simp (disch := omega) only [e_52_116, e_52_118, e_52_121, e_52_123, e_52_126, e_52_127, e_52_130, e_52_131, e_52_134, e_52_136, e_52_137, e_52_140, e_52_198, e_52_201, hA, h41, h43, h44, hkn, f2, dn, ej, true_and, kpO_c, kpO_g0, kpO_k0, kpO_g1, kpO_k1, kpO_s1, kpO_g2, kpO_k2, kpO_s2, kpO_g3, kpO_k3, kpO_s3, kpO_g4, kpO_k4, kpO_s4, kpO_g5, kpO_k5, kpO_g6, kpO_k6, dkO_c, dkO_g0, dkO_k0, dkO_s0, dkO_g1, dkO_k1, dkO_s1, dkO_g2, dkO_k2, dkO_s2, hoO_c, hoO_g0, hoO_k0, hoO_s0, hoO_g1, hoO_k1, hoO_s1, hoO_g2, hoO_k2, hoO_s2, hoO_g3, hoO_k3, hoO_g4, hoO_k4, hoO_g5, hoO_k5, hoO_g6, hoO_k6, hoO_g7, hoO_k7, hoO_g8, hoO_k8, hoO_g9, hoO_k9, hoO_s9, iup_s, iup_n, hp_up1, hp_upn, ne_eq, not_false_eq_true, sh_0, sh_1, sh_2, sh_3, sh_4, sh_5, sh_8, sh_15, sh_16, sh_24, Int.reducePow, Int.cast_ofNat_Int, w_of, wl_of, ltT, ltF, leT, leF, eqT, eqF, okF_0, okF_s, gF_0, gF_s, consC_o, sF_0, sF_s, clsO_o, inA_i, ldA_i, stA_i, inJ_l, ldJ_l, stJ_l, inR_r, ldR_r, stR_r, tgR_r, lenA_i, lenA_l, lenA_r, lenA_ex, nl_i, nl_o, nl_l, nl_n, wd_n, wd_i, wd_l, wd_o, fit_i, fit_l, fit_o, K_v, K_n, true_and, and_true, Nat.reduceAdd, Nat.reduceLeDiff, Nat.reduceEqDiff, Nat.reduceMul, Nat.reduceLT, reduceIte, true_or, or_true, cmp_lt, cmp_gt, cmp_eq, wb_0, b_01, cmp_lt', cmp_gt', cmp_eq', b_0, b_1, wb_1, Int.reduceSub, Int.reduceToNat, List.getD_cons_succ, List.getD_cons_zero, Int.reduceLE, Int.reduceLT, Int.reduceEq, Int.reduceNeg, Int.reduceAdd, Int.reduceMul, and_self, em_b, ne_eq, not_false_eq_true, not_true_eq_false]
        try rfl
    · have hd' : downB c x.2 = false := by simpa using hd
      simp only [hd', if_false, Bool.false_eq_true] at dn
      have t41 := tg_41 hF
      have l41 : l ≠ 41 := fun z => by rw [z, t41] at hl; omega
      have lw : l ≠ wA := fun z => by rw [z, hwA] at hl; omega
      have ww : wA ≠ 41 := by omega
      have t43 : ow 43 = 17 := hF.2 43 (by omega)
      have t44 : ow 44 = 17 := hF.2 44 (by omega)
      have l43 : 43 ≠ l := fun z => by rw [← z, t43] at hl; omega
      have l44 : 44 ≠ l := fun z => by rw [← z, t44] at hl; omega
      obtain ⟨h1, i1, kn1, fl1, a1, a2, a3, a4, a5, a6, a7, a8, a9⟩ := K_solve (b := 3) (lf := -1) hF hH hxo (Or.inl ⟨rfl, rfl⟩) hn hn1 hn2 hn3 (by omega) (by omega) lw ww l41 (by rw [hwA]; decide) (by rw [hl]; decide) (by rw [hwA]; decide) (by rw [hl]; decide) h34 h41 hkn hfl hI
      have wr := kn_wrt hK hxo a7 a8
      have gi := kgd_iff hxm hd' hw hu wr
      have hF1 : owF ow h1 := ⟨by rw [a1.1]; exact hF.1, hF.2⟩
      have e34 : hp h1 34 = dkO (vr l) po pm := by rw [a1.2.2 34 (by rw [tg_34 hF]; decide) (by simp; omega)]; exact h34
      have e43 : hp h1 43 = aI 0 16 f43 := by rw [a1.2.2 43 (by rw [t43]; decide) (by simp; exact ⟨by omega, l43⟩)]; exact h43
      have e44 : hp h1 44 = aI 0 16 f44 := by rw [a1.2.2 44 (by rw [t44]; decide) (by simp; exact ⟨by omega, l44⟩)]; exact h44
      have kr : -1 ≤ kn1 (encC c x.2) ∧ kn1 (encC c x.2) ≤ 2147483647 := by
        rcases wr with ⟨z1, z2⟩ | ⟨v, z1, z2, z3⟩ <;> omega
      by_cases hk : kn1 (encC c x.2) = u
      · refine ⟨h1, i1, kn1, fl1, a1, a2, a3, a4, a5, a6, a7, Or.inr ⟨j, x, hx, gi.mp hk, hno, a8, fun d Q => ?_⟩⟩
        have a9' := fun (Q : PQ) => a9 d Q
        by_cases hlast : j + 1 < L.length
        · simp (disch := omega) only [e_52_114, e_52_116, e_52_118, e_52_121, e_52_123, e_52_126, e_52_127, e_52_130, e_52_131, e_52_134, e_52_136, e_52_137, e_52_140, e_52_143, e_52_144, e_52_145, e_52_146, e_52_149, e_52_150, e_52_153, e_52_155, e_52_156, e_52_157, e_52_160, e_52_161, e_52_164, e_52_165, e_52_168, e_52_170, e_52_171, e_52_172, e_52_174, e_52_177, e_52_178, e_52_181, e_52_183, e_52_184, e_52_186, e_52_187, e_52_190, e_52_192, e_52_193, e_52_195, e_52_196, e_52_198, e_52_201, e_52_204, e_52_206, hA, h41, h43, h44, hkn, f1, f2, dn, ej, a9', a3, a5, e43, e44, hk, true_and, kpO_c, kpO_g0, kpO_k0, kpO_g1, kpO_k1, kpO_s1, kpO_g2, kpO_k2, kpO_s2, kpO_g3, kpO_k3, kpO_s3, kpO_g4, kpO_k4, kpO_s4, kpO_g5, kpO_k5, kpO_g6, kpO_k6, dkO_c, dkO_g0, dkO_k0, dkO_s0, dkO_g1, dkO_k1, dkO_s1, dkO_g2, dkO_k2, dkO_s2, hoO_c, hoO_g0, hoO_k0, hoO_s0, hoO_g1, hoO_k1, hoO_s1, hoO_g2, hoO_k2, hoO_s2, hoO_g3, hoO_k3, hoO_g4, hoO_k4, hoO_g5, hoO_k5, hoO_g6, hoO_k6, hoO_g7, hoO_k7, hoO_g8, hoO_k8, hoO_g9, hoO_k9, hoO_s9, iup_s, iup_n, hp_up1, hp_upn, ne_eq, not_false_eq_true, sh_0, sh_1, sh_2, sh_3, sh_4, sh_5, sh_8, sh_15, sh_16, sh_24, Int.reducePow, Int.cast_ofNat_Int, w_of, wl_of, ltT, ltF, leT, leF, eqT, eqF, okF_0, okF_s, gF_0, gF_s, consC_o, sF_0, sF_s, clsO_o, inA_i, ldA_i, stA_i, inJ_l, ldJ_l, stJ_l, inR_r, ldR_r, stR_r, tgR_r, lenA_i, lenA_l, lenA_r, lenA_ex, nl_i, nl_o, nl_l, nl_n, wd_n, wd_i, wd_l, wd_o, fit_i, fit_l, fit_o, K_v, K_n, true_and, and_true, Nat.reduceAdd, Nat.reduceLeDiff, Nat.reduceEqDiff, Nat.reduceMul, Nat.reduceLT, reduceIte, true_or, or_true, cmp_lt, cmp_gt, cmp_eq, wb_0, b_01, cmp_lt', cmp_gt', cmp_eq', b_0, b_1, wb_1, Int.reduceSub, Int.reduceToNat, List.getD_cons_succ, List.getD_cons_zero, Int.reduceLE, Int.reduceLT, Int.reduceEq, Int.reduceNeg, Int.reduceAdd, Int.reduceMul, and_self, em_b, ne_eq, not_false_eq_true, not_true_eq_false]
          try rfl
        · simp (disch := omega) only [e_52_114, e_52_116, e_52_118, e_52_121, e_52_123, e_52_126, e_52_127, e_52_130, e_52_131, e_52_134, e_52_136, e_52_137, e_52_140, e_52_143, e_52_144, e_52_145, e_52_146, e_52_149, e_52_150, e_52_153, e_52_155, e_52_156, e_52_157, e_52_160, e_52_161, e_52_164, e_52_165, e_52_168, e_52_170, e_52_171, e_52_172, e_52_174, e_52_177, e_52_178, e_52_181, e_52_183, e_52_184, e_52_186, e_52_187, e_52_190, e_52_192, e_52_193, e_52_195, e_52_196, e_52_198, e_52_201, e_52_204, e_52_206, hA, h41, h43, h44, hkn, f1, f2, dn, ej, a9', a3, a5, e43, e44, hk, true_and, kpO_c, kpO_g0, kpO_k0, kpO_g1, kpO_k1, kpO_s1, kpO_g2, kpO_k2, kpO_s2, kpO_g3, kpO_k3, kpO_s3, kpO_g4, kpO_k4, kpO_s4, kpO_g5, kpO_k5, kpO_g6, kpO_k6, dkO_c, dkO_g0, dkO_k0, dkO_s0, dkO_g1, dkO_k1, dkO_s1, dkO_g2, dkO_k2, dkO_s2, hoO_c, hoO_g0, hoO_k0, hoO_s0, hoO_g1, hoO_k1, hoO_s1, hoO_g2, hoO_k2, hoO_s2, hoO_g3, hoO_k3, hoO_g4, hoO_k4, hoO_g5, hoO_k5, hoO_g6, hoO_k6, hoO_g7, hoO_k7, hoO_g8, hoO_k8, hoO_g9, hoO_k9, hoO_s9, iup_s, iup_n, hp_up1, hp_upn, ne_eq, not_false_eq_true, sh_0, sh_1, sh_2, sh_3, sh_4, sh_5, sh_8, sh_15, sh_16, sh_24, Int.reducePow, Int.cast_ofNat_Int, w_of, wl_of, ltT, ltF, leT, leF, eqT, eqF, okF_0, okF_s, gF_0, gF_s, consC_o, sF_0, sF_s, clsO_o, inA_i, ldA_i, stA_i, inJ_l, ldJ_l, stJ_l, inR_r, ldR_r, stR_r, tgR_r, lenA_i, lenA_l, lenA_r, lenA_ex, nl_i, nl_o, nl_l, nl_n, wd_n, wd_i, wd_l, wd_o, fit_i, fit_l, fit_o, K_v, K_n, true_and, and_true, Nat.reduceAdd, Nat.reduceLeDiff, Nat.reduceEqDiff, Nat.reduceMul, Nat.reduceLT, reduceIte, true_or, or_true, cmp_lt, cmp_gt, cmp_eq, wb_0, b_01, cmp_lt', cmp_gt', cmp_eq', b_0, b_1, wb_1, Int.reduceSub, Int.reduceToNat, List.getD_cons_succ, List.getD_cons_zero, Int.reduceLE, Int.reduceLT, Int.reduceEq, Int.reduceNeg, Int.reduceAdd, Int.reduceMul, and_self, em_b, ne_eq, not_false_eq_true, not_true_eq_false]
          try rfl
      · obtain ⟨h', i', kn', fl', b1, b2, b3, b4, b5, b6, b7, b8⟩ := ih (j + 1) h1 i1 kn1 fl1 (by omega) hF1 a2 e34 a3 a5 a6 e43 e44 a7 (fun k y hk' hy => by
          by_cases z : k = j
          · rw [z, hx] at hy
            have ey : x = y := Option.some.inj hy
            rw [← ey]
            exact fun w => hk (gi.mpr w)
          · exact hno k y (by omega) hy)
        refine ⟨h', i', kn', fl', chx_t a1 b1, b2, b3, by rw [b4, a4], b5, b6, b7, ?_⟩
        rcases b8 with z | ⟨k, y, z1, z2, z3, z4, z5⟩
        · exact Or.inl z
        · refine Or.inr ⟨k, y, z1, z2, z3, z4, fun d Q => ?_⟩
          rw [← z5 d Q]
          have a9' := fun (Q : PQ) => a9 d Q
          rw [e_52_114]
          simp (disch := omega) only [e_52_116, e_52_118, e_52_121, e_52_123, e_52_126, e_52_127, e_52_130, e_52_131, e_52_134, e_52_136, e_52_137, e_52_140, e_52_143, e_52_144, e_52_145, e_52_146, e_52_149, e_52_150, e_52_153, e_52_155, e_52_156, e_52_157, e_52_160, e_52_161, e_52_164, e_52_165, e_52_168, e_52_170, e_52_171, e_52_172, e_52_174, e_52_198, e_52_201, hA, h41, h43, h44, hkn, f1, f2, dn, ej, a9', a3, a5, e43, e44, hk, true_and, kpO_c, kpO_g0, kpO_k0, kpO_g1, kpO_k1, kpO_s1, kpO_g2, kpO_k2, kpO_s2, kpO_g3, kpO_k3, kpO_s3, kpO_g4, kpO_k4, kpO_s4, kpO_g5, kpO_k5, kpO_g6, kpO_k6, dkO_c, dkO_g0, dkO_k0, dkO_s0, dkO_g1, dkO_k1, dkO_s1, dkO_g2, dkO_k2, dkO_s2, hoO_c, hoO_g0, hoO_k0, hoO_s0, hoO_g1, hoO_k1, hoO_s1, hoO_g2, hoO_k2, hoO_s2, hoO_g3, hoO_k3, hoO_g4, hoO_k4, hoO_g5, hoO_k5, hoO_g6, hoO_k6, hoO_g7, hoO_k7, hoO_g8, hoO_k8, hoO_g9, hoO_k9, hoO_s9, iup_s, iup_n, hp_up1, hp_upn, ne_eq, not_false_eq_true, sh_0, sh_1, sh_2, sh_3, sh_4, sh_5, sh_8, sh_15, sh_16, sh_24, Int.reducePow, Int.cast_ofNat_Int, w_of, wl_of, ltT, ltF, leT, leF, eqT, eqF, okF_0, okF_s, gF_0, gF_s, consC_o, sF_0, sF_s, clsO_o, inA_i, ldA_i, stA_i, inJ_l, ldJ_l, stJ_l, inR_r, ldR_r, stR_r, tgR_r, lenA_i, lenA_l, lenA_r, lenA_ex, nl_i, nl_o, nl_l, nl_n, wd_n, wd_i, wd_l, wd_o, fit_i, fit_l, fit_o, K_v, K_n, true_and, and_true, Nat.reduceAdd, Nat.reduceLeDiff, Nat.reduceEqDiff, Nat.reduceMul, Nat.reduceLT, reduceIte, true_or, or_true, cmp_lt, cmp_gt, cmp_eq, wb_0, b_01, cmp_lt', cmp_gt', cmp_eq', b_0, b_1, wb_1, Int.reduceSub, Int.reduceToNat, List.getD_cons_succ, List.getD_cons_zero, Int.reduceLE, Int.reduceLT, Int.reduceEq, Int.reduceNeg, Int.reduceAdd, Int.reduceMul, and_self, em_b, ne_eq, not_false_eq_true, not_true_eq_false]
          try rfl
