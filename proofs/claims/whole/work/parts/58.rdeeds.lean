/-! DEEDS: what each does; the reference's deeds -/
abbrev ZT : Type := ST × Nat × Nat
def okZ (c : KC) (z : ZT) : Prop := okS c z.1 ∧ z.2.1 < 10
noncomputable def actW (c : KC) (z : ZT) (x : Int) : Nat := if 20 ≤ x ∧ x ≤ 29 then (if x - 20 < (kN c : Int) then 0 else 1) else if 30 ≤ x ∧ x ≤ 39 then 0 else whyD c z.2.1 z.1 x
noncomputable def actN (c : KC) (z : ZT) (x : Int) : ZT := if 20 ≤ x ∧ x ≤ 29 then (fedS z.1 (x - 20).toNat, z.2.1, z.2.2) else if 30 ≤ x ∧ x ≤ 39 then (z.1, (x - 30).toNat, z.2.2) else (toM c z.2.1 z.1 ((moveD c x).getD 0), z.2.1, z.2.2 + 1)
theorem whyD_lt {c : KC} {sky : Nat} {s : ST} {x : Int} : whyD c sky s x < 5 := by
  unfold whyD
  cases moveD c x with
  | none => show 1 < 5; omega
  | some m => show whyM c sky s m < 5; unfold whyM; split <;> (try split) <;> (try split) <;> (try split) <;> (try split) <;> omega
theorem actW_lt {c : KC} {z : ZT} {x : Int} : actW c z x < 5 := by
  unfold actW
  split
  · split <;> omega
  · split
    · omega
    · exact whyD_lt
theorem whyD_0 {c : KC} {sky : Nat} {s : ST} {x : Int} (h : whyD c sky s x = 0) : ∃ m, moveD c x = some m ∧ whyM c sky s m = 0 := by
  unfold whyD at h
  cases e : moveD c x with
  | none => rw [e] at h; dsimp only at h; exact absurd h (by decide)
  | some m => rw [e] at h; exact ⟨m, rfl, h⟩
theorem actW_b {c : KC} {z : ZT} {x : Int} (hK : okK c) (h : actW c z x = 0) : 0 ≤ x ∧ x ≤ 199 := by
  unfold actW at h
  by_cases q : 20 ≤ x ∧ x ≤ 29
  · omega
  · rw [if_neg q] at h
    by_cases q2 : 30 ≤ x ∧ x ≤ 39
    · omega
    · rw [if_neg q2] at h
      obtain ⟨m, h1, -⟩ := whyD_0 h
      have h3 := (moveD_some hK h1).2.2
      have h4 := (moveD_some hK h1).2.1
      unfold deedM at h3
      split at h3 <;> (try split at h3) <;> omega
theorem actN_ok {c : KC} {z : ZT} {x : Int} (hK : okK c) (hz : okZ c z) (h : actW c z x = 0) : okZ c (actN c z x) := by
  unfold actW at h
  unfold actN
  by_cases q : 20 ≤ x ∧ x ≤ 29
  · rw [if_pos q] at h ⊢
    by_cases q2 : x - 20 < (kN c : Int)
    · exact ⟨fedS_ok hz.1 (by omega), hz.2⟩
    · rw [if_neg q2] at h; exact absurd h (by decide)
  · rw [if_neg q] at h ⊢
    by_cases q2 : 30 ≤ x ∧ x ≤ 39
    · rw [if_pos q2]; exact ⟨hz.1, by show (x - 30).toNat < 10; omega⟩
    · rw [if_neg q2] at h ⊢
      obtain ⟨m, h1, -⟩ := whyD_0 h
      rw [h1]
      exact ⟨toM_ok hz.1 (moveD_some hK h1).1, hz.2⟩
noncomputable def doAll (c : KC) : List Int → ZT → Nat × ZT × Nat
  | [], z => (0, z, 0)
  | x :: r, z => if actW c z x = 0 then ((doAll c r (actN c z x)).1 + 1, (doAll c r (actN c z x)).2) else (0, z, actW c z x)
def frK (lo hi : Int) (f g : Int → Int) : Prop := ∀ k, k < lo ∨ hi ≤ k → g k = f k
theorem frK_r {lo hi : Int} {f : Int → Int} : frK lo hi f f := fun _ _ => rfl
theorem frK_t {lo hi : Int} {f g e : Int → Int} (h1 : frK lo hi f g) (h2 : frK lo hi g e) : frK lo hi f e := fun k hk => by rw [h2 k hk, h1 k hk]
theorem frK_w {lo hi lo' hi' : Int} {f g : Int → Int} (h : frK lo hi f g) (h1 : lo' ≤ lo) (h2 : hi ≤ hi') : frK lo' hi' f g := fun k hk => h k (by omega)
theorem frK_u {lo hi : Int} {f : Int → Int} {k v : Int} (h1 : lo ≤ k) (h2 : k < hi) : frK lo hi f (fset f k v) := fun j hj => fs_ne (by omega)
theorem lawR2_fr {f g : Int → Int} {l : Nat} {x : Option (List Int)} (hl : l < 2) (h : ∀ k : Int, (0 ≤ k ∧ k < 22) ∨ (123 ≤ k ∧ k < 1023) → g k = f k) (hf : lawR2 f l x) : lawR2 g l x := by
  cases x with
  | none => show g (3 + (l : Int)) = 0; rw [h _ (by omega)]; exact hf
  | some o =>
    obtain ⟨h1, h2, gg, h3, h4, h5⟩ := hf
    refine ⟨by rw [h _ (by omega)]; exact h1, by rw [h _ (by omega)]; exact h2, gg, by rw [h _ (by omega)]; exact h3, h4, fun i hi => ?_⟩
    rw [h _ (by omega)]; exact h5 i hi
theorem ctyR_fr {f g : Int → Int} {c : KC} (hK : okK c) (h : ∀ k : Int, (0 ≤ k ∧ k < 22) ∨ (123 ≤ k ∧ k < 1023) → g k = f k) (hf : ctyR f c) : ctyR g c := by
  have hN := hK.2.2
  obtain ⟨h1, h2, h3, h4, h5, h6, h7, h8⟩ := hf
  refine ⟨by rw [h _ (by omega)]; exact h1, by rw [h _ (by omega)]; exact h2, by rw [h _ (by omega)]; exact h3, fun k hk => by rw [h _ (by omega)]; exact h4 k hk, fun k hk => by rw [h _ (by omega)]; exact h5 k hk, fun k hk => by rw [h _ (by omega)]; exact h6 k hk, lawR2_fr (by omega) h h7, lawR2_fr (by omega) h h8⟩
theorem stdR_fr {f g : Int → Int} {s : ST} {sky hrs : Nat} (h : ∀ k : Int, 22 ≤ k → k ≤ 30 → g k = f k) (hf : stdR f s sky hrs) : stdR g s sky hrs := by
  obtain ⟨h1, h2, h3, h4⟩ := hf
  exact ⟨fun p hp => ⟨by rw [h _ (by omega) (by omega)]; exact (h1 p hp).1, by rw [h _ (by omega) (by omega)]; exact (h1 p hp).2⟩, by rw [h _ (by omega) (by omega)]; exact h2, by rw [h _ (by omega) (by omega)]; exact h3, by rw [h _ (by omega) (by omega)]; exact h4⟩
theorem r_whyHour {h : PH} {c : KC} {s : ST} {sky hrs : Nat} {i : Nat → Int} {A : Nat → Int → Int} {x : Int} (hq : refQ c s sky hrs A) (hx : i64 x) :
    ∃ B, sameR A B ∧ ∀ d Q, WP (d + 5) 219 0 [some (vr 71), some (vl x), none, none] [] (mdH h i A) Q = Q (some (vi (whyD c sky s x))) (mdH h i B) := by
  obtain ⟨hO, hR, hS, hs, hsky⟩ := hq
  have hK := hO.1
  have mo := fun (d : Nat) (Q : PQ) => r_moveOf (d := d) (h := h) (i := i) (A := A) (x := x) (Q := Q) hK hR hx.1 hx.2
  unfold whyD
  cases em : moveD c x with
  | none =>
    rw [em] at mo
    have mo' : ∀ (d : Nat) (Q : PQ), WP (d + 2) 213 0 [some (vr 71), some (vl x), none] [] (mdH h i A) Q = Q (some (vi (-1))) (mdH h i A) := mo
    refine ⟨A, sameR_r, fun d Q => ?_⟩
    simp (disch := omega) only [e_219_0, e_219_1, e_219_2, e_219_5, e_219_6, e_219_7, e_219_8, e_219_11, e_219_12, e_219_15, e_219_16, e_219_17, e_219_20, e_219_21, e_219_22, e_219_25, e_219_27, e_219_28, e_219_31, mo', mdO_c, mdO_g0, mdO_k0, mdO_g1, mdO_k1, mdO_g2, mdO_k2, mdO_g3, mdO_k3, mdO_g4, mdO_k4, mdO_g5, mdO_k5, mdO_g6, mdO_k6, mdO_g7, mdO_k7, mdO_g8, mdO_k8, mdO_g9, mdO_k9, mdO_g10, mdO_k10, mdO_g11, mdO_k11, mdO_g12, mdO_k12, mdO_g13, mdO_k13, mdO_g14, mdO_k14, mdO_g15, mdO_k15, mdO_g16, mdO_k16, mdO_g17, mdO_k17, mdO_g18, mdO_k18, mdO_g19, mdO_k19, mdO_g20, mdO_k20, mdO_g21, mdO_k21, mdO_g22, mdO_k22, mdO_g23, mdO_k23, mdO_g24, mdO_k24, mdO_g25, mdO_k25, mdO_g26, mdO_k26, mdO_g27, mdO_k27, mdO_g28, mdO_k28, mdO_g29, mdO_k29, mdO_g30, mdO_k30, mdO_g31, mdO_k31, mdO_g32, mdO_k32, mdO_g33, mdO_k33, mdO_g34, mdO_k34, mdO_g35, mdO_k35, mdO_s0, mdO_s5, mdO_s6, mdO_s7, mdO_s8, mdO_s9, mdO_s10, mdO_s11, mdO_s12, mdO_s13, mdO_s14, mdO_s15, mdO_s19, mdO_s20, mdO_s25, mdO_s26, mdO_s31, mdO_s32, md_1, md_2, md_g71, md_g72, md_g73, md_g74, md_g75, md_g76, md_g77, md_g78, md_g79, md_g80, md_g81, md_g82, md_g83, md_g84, md_g85, md_g86, md_g87, md_g88, md_g89, md_out, md_u71, md_u72, md_u73, md_u74, md_u75, md_u76, md_u77, md_u78, md_u79, md_u80, md_u81, md_u82, md_u83, md_u84, md_u85, md_u86, md_u87, md_u88, md_u89, md_uo, iup_s, iup_n, aup_s, aup_n, ne_eq, not_false_eq_true, sh_0, sh_1, sh_2, sh_3, sh_4, sh_5, sh_8, sh_15, sh_16, sh_24, Int.reducePow, Int.cast_ofNat_Int, w_of, wl_of, ltT, ltF, leT, leF, eqT, eqF, okF_0, okF_s, gF_0, gF_s, consC_o, sF_0, sF_s, clsO_o, inA_i, ldA_i, stA_i, inJ_l, ldJ_l, stJ_l, inR_r, ldR_r, stR_r, tgR_r, lenA_i, lenA_l, lenA_r, lenA_ex, nl_i, nl_o, nl_l, nl_n, wd_n, wd_i, wd_l, wd_o, fit_i, fit_l, fit_o, K_v, K_n, true_and, and_true, Nat.reduceAdd, Nat.reduceLeDiff, Nat.reduceEqDiff, Nat.reduceMul, Nat.reduceLT, reduceIte, true_or, or_true, cmp_lt, cmp_gt, cmp_eq, wb_0, b_01, cmp_lt', cmp_gt', cmp_eq', b_0, b_1, wb_1, Int.reduceSub, Int.reduceToNat, List.getD_cons_succ, List.getD_cons_zero, Int.reduceLE, Int.reduceLT, Int.reduceEq, Int.reduceNeg, Int.reduceAdd, Int.reduceMul, and_self, em_b, ne_eq, not_false_eq_true, not_true_eq_false]
    try rfl
  | some m =>
    rw [em] at mo
    have mo' : ∀ (d : Nat) (Q : PQ), WP (d + 2) 213 0 [some (vr 71), some (vl x), none] [] (mdH h i A) Q = Q (some (vi (m : Nat))) (mdH h i A) := mo
    obtain ⟨hmv, hm19, -⟩ := moveD_some hK em
    obtain ⟨B, s1, g1⟩ := r_whyBy (h := h) (i := i) (A := A) hO hR hs hsky hmv hm19
    have sn := fun (d : Nat) (Q : PQ) => r_standNow (d := d) (h := h) (i := i) (A := A) (Q := Q) hK hR hS hs
    have h29 := hS.2.2.1
    refine ⟨B, s1, fun d Q => ?_⟩
    simp (disch := omega) only [e_219_0, e_219_1, e_219_2, e_219_5, e_219_6, e_219_7, e_219_8, e_219_11, e_219_12, e_219_15, e_219_16, e_219_17, e_219_20, e_219_21, e_219_22, e_219_25, e_219_27, e_219_28, e_219_31, mo', sn, h29, g1, mdO_c, mdO_g0, mdO_k0, mdO_g1, mdO_k1, mdO_g2, mdO_k2, mdO_g3, mdO_k3, mdO_g4, mdO_k4, mdO_g5, mdO_k5, mdO_g6, mdO_k6, mdO_g7, mdO_k7, mdO_g8, mdO_k8, mdO_g9, mdO_k9, mdO_g10, mdO_k10, mdO_g11, mdO_k11, mdO_g12, mdO_k12, mdO_g13, mdO_k13, mdO_g14, mdO_k14, mdO_g15, mdO_k15, mdO_g16, mdO_k16, mdO_g17, mdO_k17, mdO_g18, mdO_k18, mdO_g19, mdO_k19, mdO_g20, mdO_k20, mdO_g21, mdO_k21, mdO_g22, mdO_k22, mdO_g23, mdO_k23, mdO_g24, mdO_k24, mdO_g25, mdO_k25, mdO_g26, mdO_k26, mdO_g27, mdO_k27, mdO_g28, mdO_k28, mdO_g29, mdO_k29, mdO_g30, mdO_k30, mdO_g31, mdO_k31, mdO_g32, mdO_k32, mdO_g33, mdO_k33, mdO_g34, mdO_k34, mdO_g35, mdO_k35, mdO_s0, mdO_s5, mdO_s6, mdO_s7, mdO_s8, mdO_s9, mdO_s10, mdO_s11, mdO_s12, mdO_s13, mdO_s14, mdO_s15, mdO_s19, mdO_s20, mdO_s25, mdO_s26, mdO_s31, mdO_s32, md_1, md_2, md_g71, md_g72, md_g73, md_g74, md_g75, md_g76, md_g77, md_g78, md_g79, md_g80, md_g81, md_g82, md_g83, md_g84, md_g85, md_g86, md_g87, md_g88, md_g89, md_out, md_u71, md_u72, md_u73, md_u74, md_u75, md_u76, md_u77, md_u78, md_u79, md_u80, md_u81, md_u82, md_u83, md_u84, md_u85, md_u86, md_u87, md_u88, md_u89, md_uo, iup_s, iup_n, aup_s, aup_n, ne_eq, not_false_eq_true, sh_0, sh_1, sh_2, sh_3, sh_4, sh_5, sh_8, sh_15, sh_16, sh_24, Int.reducePow, Int.cast_ofNat_Int, w_of, wl_of, ltT, ltF, leT, leF, eqT, eqF, okF_0, okF_s, gF_0, gF_s, consC_o, sF_0, sF_s, clsO_o, inA_i, ldA_i, stA_i, inJ_l, ldJ_l, stJ_l, inR_r, ldR_r, stR_r, tgR_r, lenA_i, lenA_l, lenA_r, lenA_ex, nl_i, nl_o, nl_l, nl_n, wd_n, wd_i, wd_l, wd_o, fit_i, fit_l, fit_o, K_v, K_n, true_and, and_true, Nat.reduceAdd, Nat.reduceLeDiff, Nat.reduceEqDiff, Nat.reduceMul, Nat.reduceLT, reduceIte, true_or, or_true, cmp_lt, cmp_gt, cmp_eq, wb_0, b_01, cmp_lt', cmp_gt', cmp_eq', b_0, b_1, wb_1, Int.reduceSub, Int.reduceToNat, List.getD_cons_succ, List.getD_cons_zero, Int.reduceLE, Int.reduceLT, Int.reduceEq, Int.reduceNeg, Int.reduceAdd, Int.reduceMul, and_self, em_b, ne_eq, not_false_eq_true, not_true_eq_false]
    try rfl
theorem r_whyNot {h : PH} {c : KC} {z : ZT} {i : Nat → Int} {A : Nat → Int → Int} {x : Int} (hq : refQ c z.1 z.2.1 z.2.2 A) (hx : i64 x) :
    ∃ B, sameR A B ∧ ∀ d Q, WP (d + 6) 230 0 [some (vr 71), some (vl x), none] [] (mdH h i A) Q = Q (some (vi (actW c z x))) (mdH h i B) := by
  have hq' := hq
  obtain ⟨hO, hR, hS, hs, hsky⟩ := hq
  have hK := hO.1
  have hN := hK.2.2
  unfold i64 at hx
  have w1 := fun (d : Nat) (h : PH) (Q : PQ) => r_within (d := d) (h := h) (Q := Q) (v := x) (lo := 20) (hi := 29) (by omega) (by omega) (by omega) (by omega) (by omega) (by omega)
  have w2 := fun (d : Nat) (h : PH) (Q : PQ) => r_within (d := d) (h := h) (Q := Q) (v := x) (lo := 30) (hi := 39) (by omega) (by omega) (by omega) (by omega) (by omega) (by omega)
  unfold actW
  by_cases q : 20 ≤ x ∧ x ≤ 29
  · have q' := eq_true q
    simp only [q', if_true] at w1 ⊢
    have ik := fun (d : Nat) (Q : PQ) => r_isKin (d := d) (h := h) (i := i) (A := A) (x := x - 20) (Q := Q) hK hR (by omega) (by omega)
    refine ⟨A, sameR_r, fun d Q => ?_⟩
    by_cases q2 : x - 20 < (kN c : Int)
    · have t : (0 ≤ x - 20 ∧ x - 20 ≤ (kN c : Int) - 1) = True := eq_true (by omega)
      simp only [t, if_true] at ik
      rw [if_pos q2]
      simp (disch := omega) only [e_230_0, e_230_1, e_230_4, e_230_7, e_230_10, e_230_13, e_230_14, e_230_15, e_230_18, e_230_19, e_230_22, e_230_25, e_230_26, e_230_29, e_230_30, w1, ik, mdO_c, mdO_g0, mdO_k0, mdO_g1, mdO_k1, mdO_g2, mdO_k2, mdO_g3, mdO_k3, mdO_g4, mdO_k4, mdO_g5, mdO_k5, mdO_g6, mdO_k6, mdO_g7, mdO_k7, mdO_g8, mdO_k8, mdO_g9, mdO_k9, mdO_g10, mdO_k10, mdO_g11, mdO_k11, mdO_g12, mdO_k12, mdO_g13, mdO_k13, mdO_g14, mdO_k14, mdO_g15, mdO_k15, mdO_g16, mdO_k16, mdO_g17, mdO_k17, mdO_g18, mdO_k18, mdO_g19, mdO_k19, mdO_g20, mdO_k20, mdO_g21, mdO_k21, mdO_g22, mdO_k22, mdO_g23, mdO_k23, mdO_g24, mdO_k24, mdO_g25, mdO_k25, mdO_g26, mdO_k26, mdO_g27, mdO_k27, mdO_g28, mdO_k28, mdO_g29, mdO_k29, mdO_g30, mdO_k30, mdO_g31, mdO_k31, mdO_g32, mdO_k32, mdO_g33, mdO_k33, mdO_g34, mdO_k34, mdO_g35, mdO_k35, mdO_s0, mdO_s5, mdO_s6, mdO_s7, mdO_s8, mdO_s9, mdO_s10, mdO_s11, mdO_s12, mdO_s13, mdO_s14, mdO_s15, mdO_s19, mdO_s20, mdO_s25, mdO_s26, mdO_s31, mdO_s32, md_1, md_2, md_g71, md_g72, md_g73, md_g74, md_g75, md_g76, md_g77, md_g78, md_g79, md_g80, md_g81, md_g82, md_g83, md_g84, md_g85, md_g86, md_g87, md_g88, md_g89, md_out, md_u71, md_u72, md_u73, md_u74, md_u75, md_u76, md_u77, md_u78, md_u79, md_u80, md_u81, md_u82, md_u83, md_u84, md_u85, md_u86, md_u87, md_u88, md_u89, md_uo, iup_s, iup_n, aup_s, aup_n, ne_eq, not_false_eq_true, sh_0, sh_1, sh_2, sh_3, sh_4, sh_5, sh_8, sh_15, sh_16, sh_24, Int.reducePow, Int.cast_ofNat_Int, w_of, wl_of, ltT, ltF, leT, leF, eqT, eqF, okF_0, okF_s, gF_0, gF_s, consC_o, sF_0, sF_s, clsO_o, inA_i, ldA_i, stA_i, inJ_l, ldJ_l, stJ_l, inR_r, ldR_r, stR_r, tgR_r, lenA_i, lenA_l, lenA_r, lenA_ex, nl_i, nl_o, nl_l, nl_n, wd_n, wd_i, wd_l, wd_o, fit_i, fit_l, fit_o, K_v, K_n, true_and, and_true, Nat.reduceAdd, Nat.reduceLeDiff, Nat.reduceEqDiff, Nat.reduceMul, Nat.reduceLT, reduceIte, true_or, or_true, cmp_lt, cmp_gt, cmp_eq, wb_0, b_01, cmp_lt', cmp_gt', cmp_eq', b_0, b_1, wb_1, Int.reduceSub, Int.reduceToNat, List.getD_cons_succ, List.getD_cons_zero, Int.reduceLE, Int.reduceLT, Int.reduceEq, Int.reduceNeg, Int.reduceAdd, Int.reduceMul, and_self, em_b, ne_eq, not_false_eq_true, not_true_eq_false]
      try rfl
    · have t : (0 ≤ x - 20 ∧ x - 20 ≤ (kN c : Int) - 1) = False := eq_false (by omega)
      simp only [t, if_false] at ik
      rw [if_neg q2]
      simp (disch := omega) only [e_230_0, e_230_1, e_230_4, e_230_7, e_230_10, e_230_13, e_230_14, e_230_15, e_230_18, e_230_19, e_230_22, e_230_25, e_230_26, e_230_29, e_230_30, w1, ik, mdO_c, mdO_g0, mdO_k0, mdO_g1, mdO_k1, mdO_g2, mdO_k2, mdO_g3, mdO_k3, mdO_g4, mdO_k4, mdO_g5, mdO_k5, mdO_g6, mdO_k6, mdO_g7, mdO_k7, mdO_g8, mdO_k8, mdO_g9, mdO_k9, mdO_g10, mdO_k10, mdO_g11, mdO_k11, mdO_g12, mdO_k12, mdO_g13, mdO_k13, mdO_g14, mdO_k14, mdO_g15, mdO_k15, mdO_g16, mdO_k16, mdO_g17, mdO_k17, mdO_g18, mdO_k18, mdO_g19, mdO_k19, mdO_g20, mdO_k20, mdO_g21, mdO_k21, mdO_g22, mdO_k22, mdO_g23, mdO_k23, mdO_g24, mdO_k24, mdO_g25, mdO_k25, mdO_g26, mdO_k26, mdO_g27, mdO_k27, mdO_g28, mdO_k28, mdO_g29, mdO_k29, mdO_g30, mdO_k30, mdO_g31, mdO_k31, mdO_g32, mdO_k32, mdO_g33, mdO_k33, mdO_g34, mdO_k34, mdO_g35, mdO_k35, mdO_s0, mdO_s5, mdO_s6, mdO_s7, mdO_s8, mdO_s9, mdO_s10, mdO_s11, mdO_s12, mdO_s13, mdO_s14, mdO_s15, mdO_s19, mdO_s20, mdO_s25, mdO_s26, mdO_s31, mdO_s32, md_1, md_2, md_g71, md_g72, md_g73, md_g74, md_g75, md_g76, md_g77, md_g78, md_g79, md_g80, md_g81, md_g82, md_g83, md_g84, md_g85, md_g86, md_g87, md_g88, md_g89, md_out, md_u71, md_u72, md_u73, md_u74, md_u75, md_u76, md_u77, md_u78, md_u79, md_u80, md_u81, md_u82, md_u83, md_u84, md_u85, md_u86, md_u87, md_u88, md_u89, md_uo, iup_s, iup_n, aup_s, aup_n, ne_eq, not_false_eq_true, sh_0, sh_1, sh_2, sh_3, sh_4, sh_5, sh_8, sh_15, sh_16, sh_24, Int.reducePow, Int.cast_ofNat_Int, w_of, wl_of, ltT, ltF, leT, leF, eqT, eqF, okF_0, okF_s, gF_0, gF_s, consC_o, sF_0, sF_s, clsO_o, inA_i, ldA_i, stA_i, inJ_l, ldJ_l, stJ_l, inR_r, ldR_r, stR_r, tgR_r, lenA_i, lenA_l, lenA_r, lenA_ex, nl_i, nl_o, nl_l, nl_n, wd_n, wd_i, wd_l, wd_o, fit_i, fit_l, fit_o, K_v, K_n, true_and, and_true, Nat.reduceAdd, Nat.reduceLeDiff, Nat.reduceEqDiff, Nat.reduceMul, Nat.reduceLT, reduceIte, true_or, or_true, cmp_lt, cmp_gt, cmp_eq, wb_0, b_01, cmp_lt', cmp_gt', cmp_eq', b_0, b_1, wb_1, Int.reduceSub, Int.reduceToNat, List.getD_cons_succ, List.getD_cons_zero, Int.reduceLE, Int.reduceLT, Int.reduceEq, Int.reduceNeg, Int.reduceAdd, Int.reduceMul, and_self, em_b, ne_eq, not_false_eq_true, not_true_eq_false]
      try rfl
  · have q' := eq_false q
    simp only [q', if_false] at w1 ⊢
    clear q q'
    by_cases q2 : 30 ≤ x ∧ x ≤ 39
    · have t := eq_true q2
      simp only [t, if_true] at w2 ⊢
      refine ⟨A, sameR_r, fun d Q => ?_⟩
      simp (disch := omega) only [e_230_0, e_230_1, e_230_4, e_230_7, e_230_10, e_230_13, e_230_14, e_230_15, e_230_18, e_230_19, e_230_22, e_230_25, e_230_26, e_230_29, e_230_30, e_230_31, e_230_32, e_230_35, e_230_38, e_230_41, e_230_44, e_230_45, e_230_48, e_230_49, e_230_50, e_230_53, w1, w2, mdO_c, mdO_g0, mdO_k0, mdO_g1, mdO_k1, mdO_g2, mdO_k2, mdO_g3, mdO_k3, mdO_g4, mdO_k4, mdO_g5, mdO_k5, mdO_g6, mdO_k6, mdO_g7, mdO_k7, mdO_g8, mdO_k8, mdO_g9, mdO_k9, mdO_g10, mdO_k10, mdO_g11, mdO_k11, mdO_g12, mdO_k12, mdO_g13, mdO_k13, mdO_g14, mdO_k14, mdO_g15, mdO_k15, mdO_g16, mdO_k16, mdO_g17, mdO_k17, mdO_g18, mdO_k18, mdO_g19, mdO_k19, mdO_g20, mdO_k20, mdO_g21, mdO_k21, mdO_g22, mdO_k22, mdO_g23, mdO_k23, mdO_g24, mdO_k24, mdO_g25, mdO_k25, mdO_g26, mdO_k26, mdO_g27, mdO_k27, mdO_g28, mdO_k28, mdO_g29, mdO_k29, mdO_g30, mdO_k30, mdO_g31, mdO_k31, mdO_g32, mdO_k32, mdO_g33, mdO_k33, mdO_g34, mdO_k34, mdO_g35, mdO_k35, mdO_s0, mdO_s5, mdO_s6, mdO_s7, mdO_s8, mdO_s9, mdO_s10, mdO_s11, mdO_s12, mdO_s13, mdO_s14, mdO_s15, mdO_s19, mdO_s20, mdO_s25, mdO_s26, mdO_s31, mdO_s32, md_1, md_2, md_g71, md_g72, md_g73, md_g74, md_g75, md_g76, md_g77, md_g78, md_g79, md_g80, md_g81, md_g82, md_g83, md_g84, md_g85, md_g86, md_g87, md_g88, md_g89, md_out, md_u71, md_u72, md_u73, md_u74, md_u75, md_u76, md_u77, md_u78, md_u79, md_u80, md_u81, md_u82, md_u83, md_u84, md_u85, md_u86, md_u87, md_u88, md_u89, md_uo, iup_s, iup_n, aup_s, aup_n, ne_eq, not_false_eq_true, sh_0, sh_1, sh_2, sh_3, sh_4, sh_5, sh_8, sh_15, sh_16, sh_24, Int.reducePow, Int.cast_ofNat_Int, w_of, wl_of, ltT, ltF, leT, leF, eqT, eqF, okF_0, okF_s, gF_0, gF_s, consC_o, sF_0, sF_s, clsO_o, inA_i, ldA_i, stA_i, inJ_l, ldJ_l, stJ_l, inR_r, ldR_r, stR_r, tgR_r, lenA_i, lenA_l, lenA_r, lenA_ex, nl_i, nl_o, nl_l, nl_n, wd_n, wd_i, wd_l, wd_o, fit_i, fit_l, fit_o, K_v, K_n, true_and, and_true, Nat.reduceAdd, Nat.reduceLeDiff, Nat.reduceEqDiff, Nat.reduceMul, Nat.reduceLT, reduceIte, true_or, or_true, cmp_lt, cmp_gt, cmp_eq, wb_0, b_01, cmp_lt', cmp_gt', cmp_eq', b_0, b_1, wb_1, Int.reduceSub, Int.reduceToNat, List.getD_cons_succ, List.getD_cons_zero, Int.reduceLE, Int.reduceLT, Int.reduceEq, Int.reduceNeg, Int.reduceAdd, Int.reduceMul, and_self, em_b, ne_eq, not_false_eq_true, not_true_eq_false]
      try rfl
    · have t := eq_false q2
      simp only [t, if_false] at w2 ⊢
      clear q2 t
      obtain ⟨B, s1, g1⟩ := r_whyHour (h := h) (i := i) (x := x) hq' hx
      refine ⟨B, s1, fun d Q => ?_⟩
      simp (disch := omega) only [e_230_0, e_230_1, e_230_4, e_230_7, e_230_10, e_230_13, e_230_14, e_230_15, e_230_18, e_230_19, e_230_22, e_230_25, e_230_26, e_230_29, e_230_30, e_230_31, e_230_32, e_230_35, e_230_38, e_230_41, e_230_44, e_230_45, e_230_48, e_230_49, e_230_50, e_230_53, w1, w2, g1, mdO_c, mdO_g0, mdO_k0, mdO_g1, mdO_k1, mdO_g2, mdO_k2, mdO_g3, mdO_k3, mdO_g4, mdO_k4, mdO_g5, mdO_k5, mdO_g6, mdO_k6, mdO_g7, mdO_k7, mdO_g8, mdO_k8, mdO_g9, mdO_k9, mdO_g10, mdO_k10, mdO_g11, mdO_k11, mdO_g12, mdO_k12, mdO_g13, mdO_k13, mdO_g14, mdO_k14, mdO_g15, mdO_k15, mdO_g16, mdO_k16, mdO_g17, mdO_k17, mdO_g18, mdO_k18, mdO_g19, mdO_k19, mdO_g20, mdO_k20, mdO_g21, mdO_k21, mdO_g22, mdO_k22, mdO_g23, mdO_k23, mdO_g24, mdO_k24, mdO_g25, mdO_k25, mdO_g26, mdO_k26, mdO_g27, mdO_k27, mdO_g28, mdO_k28, mdO_g29, mdO_k29, mdO_g30, mdO_k30, mdO_g31, mdO_k31, mdO_g32, mdO_k32, mdO_g33, mdO_k33, mdO_g34, mdO_k34, mdO_g35, mdO_k35, mdO_s0, mdO_s5, mdO_s6, mdO_s7, mdO_s8, mdO_s9, mdO_s10, mdO_s11, mdO_s12, mdO_s13, mdO_s14, mdO_s15, mdO_s19, mdO_s20, mdO_s25, mdO_s26, mdO_s31, mdO_s32, md_1, md_2, md_g71, md_g72, md_g73, md_g74, md_g75, md_g76, md_g77, md_g78, md_g79, md_g80, md_g81, md_g82, md_g83, md_g84, md_g85, md_g86, md_g87, md_g88, md_g89, md_out, md_u71, md_u72, md_u73, md_u74, md_u75, md_u76, md_u77, md_u78, md_u79, md_u80, md_u81, md_u82, md_u83, md_u84, md_u85, md_u86, md_u87, md_u88, md_u89, md_uo, iup_s, iup_n, aup_s, aup_n, ne_eq, not_false_eq_true, sh_0, sh_1, sh_2, sh_3, sh_4, sh_5, sh_8, sh_15, sh_16, sh_24, Int.reducePow, Int.cast_ofNat_Int, w_of, wl_of, ltT, ltF, leT, leF, eqT, eqF, okF_0, okF_s, gF_0, gF_s, consC_o, sF_0, sF_s, clsO_o, inA_i, ldA_i, stA_i, inJ_l, ldJ_l, stJ_l, inR_r, ldR_r, stR_r, tgR_r, lenA_i, lenA_l, lenA_r, lenA_ex, nl_i, nl_o, nl_l, nl_n, wd_n, wd_i, wd_l, wd_o, fit_i, fit_l, fit_o, K_v, K_n, true_and, and_true, Nat.reduceAdd, Nat.reduceLeDiff, Nat.reduceEqDiff, Nat.reduceMul, Nat.reduceLT, reduceIte, true_or, or_true, cmp_lt, cmp_gt, cmp_eq, wb_0, b_01, cmp_lt', cmp_gt', cmp_eq', b_0, b_1, wb_1, Int.reduceSub, Int.reduceToNat, List.getD_cons_succ, List.getD_cons_zero, Int.reduceLE, Int.reduceLT, Int.reduceEq, Int.reduceNeg, Int.reduceAdd, Int.reduceMul, and_self, em_b, ne_eq, not_false_eq_true, not_true_eq_false]
theorem r_isStand {h : PH} {c : KC} {s t : ST} {sky hrs : Nat} {i : Nat → Int} {A : Nat → Int → Int} (hK : okK c) (hR : ctyR (A 72) c) (hS : stdR (A 72) s sky hrs) (hs : okS c s) (ht : okS c t) :
    ∃ f, frK 22 29 (A 72) f ∧ stdR f t sky hrs ∧ ∀ d Q, WP (d + 1) 205 0 [some (vr 71), some (vi (encR t)), none] [] (mdH h i A) Q = Q none (mdH h i (aup A 72 f)) := by
  have hN := hK.2.2
  have hrs := okS_R hK ht
  have hbr := fun (d : Nat) (h : PH) (Q : PQ) => r_bearerIn (d := d) (h := h) (Q := Q) hrs
  have b2 := hrs.2
  have lp : ∀ (r p : Nat) (A : Nat → Int → Int), p + r = kN c → ctyR (A 72) c → (∀ q : Nat, q < p → A 72 (22 + (q : Int)) = t.2.1 q ∧ A 72 (25 + (q : Int)) = t.2.2 q) → ∃ f, frK 22 29 (A 72) f ∧ (∀ q : Nat, q < kN c → f (22 + (q : Int)) = t.2.1 q ∧ f (25 + (q : Int)) = t.2.2 q) ∧ (∀ q : Nat, kN c ≤ q → q < 3 → f (22 + (q : Int)) = A 72 (22 + (q : Int)) ∧ f (25 + (q : Int)) = A 72 (25 + (q : Int))) ∧ f 28 = t.1 ∧ ∀ d Q, WP (d + 1) 205 2 [some (vr 71), some (vi (encR t)), some (vi p)] [] (mdH h i A) Q = Q none (mdH h i (aup A 72 f)) := by
    intro r
    induction r with
    | zero =>
      intro p A hp hR hd
      have hp' : p = kN c := by omega
      subst hp'
      have hn := hR.2.2.1
      refine ⟨fset (A 72) 28 t.1, frK_u (by omega) (by omega), fun q hq => ?_, fun q h1 h2 => ?_, fs_same, fun d Q => ?_⟩
      · rw [fs_ne (by omega), fs_ne (by omega)]; exact hd q hq
      · rw [fs_ne (by omega), fs_ne (by omega)]; exact ⟨rfl, rfl⟩
      · rw [e_205_2]
        simp (disch := omega) only [e_205_3, e_205_4, e_205_7, e_205_8, e_205_9, e_205_46, e_205_47, e_205_50, e_205_52, e_205_53, e_205_56, e_205_57, hn, hbr, mdO_c, mdO_g0, mdO_k0, mdO_g1, mdO_k1, mdO_g2, mdO_k2, mdO_g3, mdO_k3, mdO_g4, mdO_k4, mdO_g5, mdO_k5, mdO_g6, mdO_k6, mdO_g7, mdO_k7, mdO_g8, mdO_k8, mdO_g9, mdO_k9, mdO_g10, mdO_k10, mdO_g11, mdO_k11, mdO_g12, mdO_k12, mdO_g13, mdO_k13, mdO_g14, mdO_k14, mdO_g15, mdO_k15, mdO_g16, mdO_k16, mdO_g17, mdO_k17, mdO_g18, mdO_k18, mdO_g19, mdO_k19, mdO_g20, mdO_k20, mdO_g21, mdO_k21, mdO_g22, mdO_k22, mdO_g23, mdO_k23, mdO_g24, mdO_k24, mdO_g25, mdO_k25, mdO_g26, mdO_k26, mdO_g27, mdO_k27, mdO_g28, mdO_k28, mdO_g29, mdO_k29, mdO_g30, mdO_k30, mdO_g31, mdO_k31, mdO_g32, mdO_k32, mdO_g33, mdO_k33, mdO_g34, mdO_k34, mdO_g35, mdO_k35, mdO_s0, mdO_s5, mdO_s6, mdO_s7, mdO_s8, mdO_s9, mdO_s10, mdO_s11, mdO_s12, mdO_s13, mdO_s14, mdO_s15, mdO_s19, mdO_s20, mdO_s25, mdO_s26, mdO_s31, mdO_s32, md_1, md_2, md_g71, md_g72, md_g73, md_g74, md_g75, md_g76, md_g77, md_g78, md_g79, md_g80, md_g81, md_g82, md_g83, md_g84, md_g85, md_g86, md_g87, md_g88, md_g89, md_out, md_u71, md_u72, md_u73, md_u74, md_u75, md_u76, md_u77, md_u78, md_u79, md_u80, md_u81, md_u82, md_u83, md_u84, md_u85, md_u86, md_u87, md_u88, md_u89, md_uo, iup_s, iup_n, aup_s, aup_n, ne_eq, not_false_eq_true, sh_0, sh_1, sh_2, sh_3, sh_4, sh_5, sh_8, sh_15, sh_16, sh_24, Int.reducePow, Int.cast_ofNat_Int, w_of, wl_of, ltT, ltF, leT, leF, eqT, eqF, okF_0, okF_s, gF_0, gF_s, consC_o, sF_0, sF_s, clsO_o, inA_i, ldA_i, stA_i, inJ_l, ldJ_l, stJ_l, inR_r, ldR_r, stR_r, tgR_r, lenA_i, lenA_l, lenA_r, lenA_ex, nl_i, nl_o, nl_l, nl_n, wd_n, wd_i, wd_l, wd_o, fit_i, fit_l, fit_o, K_v, K_n, true_and, and_true, Nat.reduceAdd, Nat.reduceLeDiff, Nat.reduceEqDiff, Nat.reduceMul, Nat.reduceLT, reduceIte, true_or, or_true, cmp_lt, cmp_gt, cmp_eq, wb_0, b_01, cmp_lt', cmp_gt', cmp_eq', b_0, b_1, wb_1, Int.reduceSub, Int.reduceToNat, List.getD_cons_succ, List.getD_cons_zero, Int.reduceLE, Int.reduceLT, Int.reduceEq, Int.reduceNeg, Int.reduceAdd, Int.reduceMul, and_self, em_b, ne_eq, not_false_eq_true, not_true_eq_false]
    | succ r ih =>
      intro p A hp hR hd
      have hn := hR.2.2.1
      have hpl := fun (d : Nat) (h : PH) (Q : PQ) => r_placeIn (d := d) (h := h) (Q := Q) hrs (show p < 3 by omega)
      have hst := fun (d : Nat) (h : PH) (Q : PQ) => r_strengthIn (d := d) (h := h) (Q := Q) hrs (show p < 3 by omega)
      obtain ⟨f, f1, f2, f3, f4, g⟩ := ih (p + 1) (aup A 72 (fset (fset (A 72) (22 + (p : Int)) (t.2.1 p)) (25 + (p : Int)) (t.2.2 p))) (by omega) (by
        rw [aup_s]
        exact ctyR_fr hK (fun k hk => by rw [fs_ne (by omega), fs_ne (by omega)]) hR) (fun q hq => by
        rw [aup_s]
        by_cases w : q = p
        · subst w; rw [fs_ne (by omega), fs_same, fs_same]; exact ⟨rfl, rfl⟩
        · by_cases w2 : (22 + (q : Int)) = 25 + (p : Int)
          · omega
          · rw [fs_ne w2, fs_ne (by omega), fs_ne (by omega)]
            by_cases w3 : (25 + (q : Int)) = 22 + (p : Int)
            · omega
            · rw [fs_ne w3]; exact hd q (by omega))
      rw [aup_s] at f1 f3
      refine ⟨f, frK_t (frK_t (frK_u (by omega) (by omega)) (frK_u (by omega) (by omega))) f1, f2, fun q h1 h2 => ?_, f4, fun d Q => ?_⟩
      · obtain ⟨a, b⟩ := f3 q h1 h2
        rw [a, b, fs_ne (by omega), fs_ne (by omega), fs_ne (by omega), fs_ne (by omega)]; exact ⟨rfl, rfl⟩
      · have g' := g d Q
        rw [aup_aup] at g'
        rw [← g']
        rw [e_205_2]
        simp (disch := omega) only [e_205_3, e_205_4, e_205_7, e_205_8, e_205_9, e_205_12, e_205_13, e_205_16, e_205_18, e_205_19, e_205_20, e_205_21, e_205_22, e_205_25, e_205_26, e_205_27, e_205_30, e_205_32, e_205_33, e_205_34, e_205_35, e_205_36, e_205_39, e_205_40, e_205_43, hn, hpl, hst, aup_aup, mdO_c, mdO_g0, mdO_k0, mdO_g1, mdO_k1, mdO_g2, mdO_k2, mdO_g3, mdO_k3, mdO_g4, mdO_k4, mdO_g5, mdO_k5, mdO_g6, mdO_k6, mdO_g7, mdO_k7, mdO_g8, mdO_k8, mdO_g9, mdO_k9, mdO_g10, mdO_k10, mdO_g11, mdO_k11, mdO_g12, mdO_k12, mdO_g13, mdO_k13, mdO_g14, mdO_k14, mdO_g15, mdO_k15, mdO_g16, mdO_k16, mdO_g17, mdO_k17, mdO_g18, mdO_k18, mdO_g19, mdO_k19, mdO_g20, mdO_k20, mdO_g21, mdO_k21, mdO_g22, mdO_k22, mdO_g23, mdO_k23, mdO_g24, mdO_k24, mdO_g25, mdO_k25, mdO_g26, mdO_k26, mdO_g27, mdO_k27, mdO_g28, mdO_k28, mdO_g29, mdO_k29, mdO_g30, mdO_k30, mdO_g31, mdO_k31, mdO_g32, mdO_k32, mdO_g33, mdO_k33, mdO_g34, mdO_k34, mdO_g35, mdO_k35, mdO_s0, mdO_s5, mdO_s6, mdO_s7, mdO_s8, mdO_s9, mdO_s10, mdO_s11, mdO_s12, mdO_s13, mdO_s14, mdO_s15, mdO_s19, mdO_s20, mdO_s25, mdO_s26, mdO_s31, mdO_s32, md_1, md_2, md_g71, md_g72, md_g73, md_g74, md_g75, md_g76, md_g77, md_g78, md_g79, md_g80, md_g81, md_g82, md_g83, md_g84, md_g85, md_g86, md_g87, md_g88, md_g89, md_out, md_u71, md_u72, md_u73, md_u74, md_u75, md_u76, md_u77, md_u78, md_u79, md_u80, md_u81, md_u82, md_u83, md_u84, md_u85, md_u86, md_u87, md_u88, md_u89, md_uo, iup_s, iup_n, aup_s, aup_n, ne_eq, not_false_eq_true, sh_0, sh_1, sh_2, sh_3, sh_4, sh_5, sh_8, sh_15, sh_16, sh_24, Int.reducePow, Int.cast_ofNat_Int, w_of, wl_of, ltT, ltF, leT, leF, eqT, eqF, okF_0, okF_s, gF_0, gF_s, consC_o, sF_0, sF_s, clsO_o, inA_i, ldA_i, stA_i, inJ_l, ldJ_l, stJ_l, inR_r, ldR_r, stR_r, tgR_r, lenA_i, lenA_l, lenA_r, lenA_ex, nl_i, nl_o, nl_l, nl_n, wd_n, wd_i, wd_l, wd_o, fit_i, fit_l, fit_o, K_v, K_n, true_and, and_true, Nat.reduceAdd, Nat.reduceLeDiff, Nat.reduceEqDiff, Nat.reduceMul, Nat.reduceLT, reduceIte, true_or, or_true, cmp_lt, cmp_gt, cmp_eq, wb_0, b_01, cmp_lt', cmp_gt', cmp_eq', b_0, b_1, wb_1, Int.reduceSub, Int.reduceToNat, List.getD_cons_succ, List.getD_cons_zero, Int.reduceLE, Int.reduceLT, Int.reduceEq, Int.reduceNeg, Int.reduceAdd, Int.reduceMul, and_self, em_b, ne_eq, not_false_eq_true, not_true_eq_false]
        try rfl
  obtain ⟨f, f1, f2, f3, f4, g⟩ := lp (kN c) 0 A (by omega) hR (fun q hq => absurd hq (by omega))
  refine ⟨f, f1, ⟨fun p hp => ?_, f4, by rw [f1 _ (by omega)]; exact hS.2.2.1, by rw [f1 _ (by omega)]; exact hS.2.2.2⟩, fun d Q => ?_⟩
  · by_cases w : p < kN c
    · exact f2 p w
    · obtain ⟨a, b⟩ := f3 p (by omega) hp
      rw [a, b, (hS.1 p hp).1, (hS.1 p hp).2, (hs.2.1 p (by omega)).1, (hs.2.1 p (by omega)).2, (ht.2.1 p (by omega)).1, (ht.2.1 p (by omega)).2]
      exact ⟨rfl, rfl⟩
  · have g' := g d Q
    rw [nc0] at g'
    rw [← g']
    simp (disch := omega) only [e_205_0, e_205_1, mdO_c, mdO_g0, mdO_k0, mdO_g1, mdO_k1, mdO_g2, mdO_k2, mdO_g3, mdO_k3, mdO_g4, mdO_k4, mdO_g5, mdO_k5, mdO_g6, mdO_k6, mdO_g7, mdO_k7, mdO_g8, mdO_k8, mdO_g9, mdO_k9, mdO_g10, mdO_k10, mdO_g11, mdO_k11, mdO_g12, mdO_k12, mdO_g13, mdO_k13, mdO_g14, mdO_k14, mdO_g15, mdO_k15, mdO_g16, mdO_k16, mdO_g17, mdO_k17, mdO_g18, mdO_k18, mdO_g19, mdO_k19, mdO_g20, mdO_k20, mdO_g21, mdO_k21, mdO_g22, mdO_k22, mdO_g23, mdO_k23, mdO_g24, mdO_k24, mdO_g25, mdO_k25, mdO_g26, mdO_k26, mdO_g27, mdO_k27, mdO_g28, mdO_k28, mdO_g29, mdO_k29, mdO_g30, mdO_k30, mdO_g31, mdO_k31, mdO_g32, mdO_k32, mdO_g33, mdO_k33, mdO_g34, mdO_k34, mdO_g35, mdO_k35, mdO_s0, mdO_s5, mdO_s6, mdO_s7, mdO_s8, mdO_s9, mdO_s10, mdO_s11, mdO_s12, mdO_s13, mdO_s14, mdO_s15, mdO_s19, mdO_s20, mdO_s25, mdO_s26, mdO_s31, mdO_s32, md_1, md_2, md_g71, md_g72, md_g73, md_g74, md_g75, md_g76, md_g77, md_g78, md_g79, md_g80, md_g81, md_g82, md_g83, md_g84, md_g85, md_g86, md_g87, md_g88, md_g89, md_out, md_u71, md_u72, md_u73, md_u74, md_u75, md_u76, md_u77, md_u78, md_u79, md_u80, md_u81, md_u82, md_u83, md_u84, md_u85, md_u86, md_u87, md_u88, md_u89, md_uo, iup_s, iup_n, aup_s, aup_n, ne_eq, not_false_eq_true, sh_0, sh_1, sh_2, sh_3, sh_4, sh_5, sh_8, sh_15, sh_16, sh_24, Int.reducePow, Int.cast_ofNat_Int, w_of, wl_of, ltT, ltF, leT, leF, eqT, eqF, okF_0, okF_s, gF_0, gF_s, consC_o, sF_0, sF_s, clsO_o, inA_i, ldA_i, stA_i, inJ_l, ldJ_l, stJ_l, inR_r, ldR_r, stR_r, tgR_r, lenA_i, lenA_l, lenA_r, lenA_ex, nl_i, nl_o, nl_l, nl_n, wd_n, wd_i, wd_l, wd_o, fit_i, fit_l, fit_o, K_v, K_n, true_and, and_true, Nat.reduceAdd, Nat.reduceLeDiff, Nat.reduceEqDiff, Nat.reduceMul, Nat.reduceLT, reduceIte, true_or, or_true, cmp_lt, cmp_gt, cmp_eq, wb_0, b_01, cmp_lt', cmp_gt', cmp_eq', b_0, b_1, wb_1, Int.reduceSub, Int.reduceToNat, List.getD_cons_succ, List.getD_cons_zero, Int.reduceLE, Int.reduceLT, Int.reduceEq, Int.reduceNeg, Int.reduceAdd, Int.reduceMul, and_self, em_b, ne_eq, not_false_eq_true, not_true_eq_false]
theorem r_goesHour {h : PH} {c : KC} {s : ST} {sky hrs m : Nat} {i : Nat → Int} {A : Nat → Int → Int} {x : Int} (hq : refQ c s sky hrs A) (hx1 : -2147483648 ≤ x) (hx2 : x < 2147483648) (hm : moveD c x = some m) :
    ∃ B f, sameR A B ∧ frK 22 31 (A 72) f ∧ stdR f (toM c sky s m) sky (hrs + 1) ∧ ∀ d Q, WP (d + 5) 225 0 [some (vr 71), some (vi x)] [] (mdH h i A) Q = Q none (mdH h i (aup B 72 f)) := by
  obtain ⟨hO, hR, hS, hs, hsky⟩ := hq
  have hK := hO.1
  obtain ⟨hmv, hm19, -⟩ := moveD_some hK hm
  have sn := fun (d : Nat) (Q : PQ) => r_standNow (d := d) (h := h) (i := i) (A := A) (Q := Q) hK hR hS hs
  have mo := fun (d : Nat) (Q : PQ) => r_moveOf (d := d) (h := h) (i := i) (A := A) (x := x) (Q := Q) hK hR (by omega) (by omega)
  rw [hm] at mo
  have mo' : ∀ (d : Nat) (Q : PQ), WP (d + 2) 213 0 [some (vr 71), some (vl x), none] [] (mdH h i A) Q = Q (some (vi (m : Nat))) (mdH h i A) := mo
  have h29 := hS.2.2.1
  obtain ⟨B, s1, g1⟩ := r_hourTo (h := h) (i := i) (A := A) hO hR hs hsky hmv hm19
  have e72 := s1 72 (by omega) (by omega)
  obtain ⟨f, f1, f2, g2⟩ := r_isStand (h := h) (i := i) (A := B) hK (ctyR_x hR e72) (stdR_x hS e72) hs (toM_ok (sky := sky) hs hmv)
  rw [e72] at f1
  have h30 := f2.2.2.2
  refine ⟨B, fset f 30 ((hrs + 1 : Nat) : Int), s1, frK_t (frK_w f1 (by omega) (by omega)) (frK_u (by omega) (by omega)), ⟨fun p hp => ?_, by rw [fs_ne (by omega)]; exact f2.2.1, by rw [fs_ne (by omega)]; exact f2.2.2.1, fs_same⟩, fun d Q => ?_⟩
  · rw [fs_ne (by omega), fs_ne (by omega)]; exact f2.1 p hp
  · have e1 : (hrs : Int) + 1 = ((hrs + 1 : Nat) : Int) := by omega
    simp (disch := omega) only [e_225_0, e_225_1, e_225_2, e_225_3, e_225_6, e_225_7, e_225_8, e_225_9, e_225_12, e_225_13, e_225_16, e_225_18, e_225_19, e_225_22, e_225_25, e_225_26, e_225_29, e_225_31, e_225_32, e_225_33, e_225_34, e_225_35, e_225_36, sn, mo', h29, g1, g2, h30, e1, aup_aup, mdO_c, mdO_g0, mdO_k0, mdO_g1, mdO_k1, mdO_g2, mdO_k2, mdO_g3, mdO_k3, mdO_g4, mdO_k4, mdO_g5, mdO_k5, mdO_g6, mdO_k6, mdO_g7, mdO_k7, mdO_g8, mdO_k8, mdO_g9, mdO_k9, mdO_g10, mdO_k10, mdO_g11, mdO_k11, mdO_g12, mdO_k12, mdO_g13, mdO_k13, mdO_g14, mdO_k14, mdO_g15, mdO_k15, mdO_g16, mdO_k16, mdO_g17, mdO_k17, mdO_g18, mdO_k18, mdO_g19, mdO_k19, mdO_g20, mdO_k20, mdO_g21, mdO_k21, mdO_g22, mdO_k22, mdO_g23, mdO_k23, mdO_g24, mdO_k24, mdO_g25, mdO_k25, mdO_g26, mdO_k26, mdO_g27, mdO_k27, mdO_g28, mdO_k28, mdO_g29, mdO_k29, mdO_g30, mdO_k30, mdO_g31, mdO_k31, mdO_g32, mdO_k32, mdO_g33, mdO_k33, mdO_g34, mdO_k34, mdO_g35, mdO_k35, mdO_s0, mdO_s5, mdO_s6, mdO_s7, mdO_s8, mdO_s9, mdO_s10, mdO_s11, mdO_s12, mdO_s13, mdO_s14, mdO_s15, mdO_s19, mdO_s20, mdO_s25, mdO_s26, mdO_s31, mdO_s32, md_1, md_2, md_g71, md_g72, md_g73, md_g74, md_g75, md_g76, md_g77, md_g78, md_g79, md_g80, md_g81, md_g82, md_g83, md_g84, md_g85, md_g86, md_g87, md_g88, md_g89, md_out, md_u71, md_u72, md_u73, md_u74, md_u75, md_u76, md_u77, md_u78, md_u79, md_u80, md_u81, md_u82, md_u83, md_u84, md_u85, md_u86, md_u87, md_u88, md_u89, md_uo, iup_s, iup_n, aup_s, aup_n, ne_eq, not_false_eq_true, sh_0, sh_1, sh_2, sh_3, sh_4, sh_5, sh_8, sh_15, sh_16, sh_24, Int.reducePow, Int.cast_ofNat_Int, w_of, wl_of, ltT, ltF, leT, leF, eqT, eqF, okF_0, okF_s, gF_0, gF_s, consC_o, sF_0, sF_s, clsO_o, inA_i, ldA_i, stA_i, inJ_l, ldJ_l, stJ_l, inR_r, ldR_r, stR_r, tgR_r, lenA_i, lenA_l, lenA_r, lenA_ex, nl_i, nl_o, nl_l, nl_n, wd_n, wd_i, wd_l, wd_o, fit_i, fit_l, fit_o, K_v, K_n, true_and, and_true, Nat.reduceAdd, Nat.reduceLeDiff, Nat.reduceEqDiff, Nat.reduceMul, Nat.reduceLT, reduceIte, true_or, or_true, cmp_lt, cmp_gt, cmp_eq, wb_0, b_01, cmp_lt', cmp_gt', cmp_eq', b_0, b_1, wb_1, Int.reduceSub, Int.reduceToNat, List.getD_cons_succ, List.getD_cons_zero, Int.reduceLE, Int.reduceLT, Int.reduceEq, Int.reduceNeg, Int.reduceAdd, Int.reduceMul, and_self, em_b, ne_eq, not_false_eq_true, not_true_eq_false]
