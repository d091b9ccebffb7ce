/-! THE LAW: from its beginning to its end -/
theorem flt_le (n : Nat) : ∀ L : List Nat, (L.filter (fun z => decide (z ≤ n))).sum ≤ L.sum ∧ (L.filter (fun z => decide (z ≤ n))).length ≤ L.length := by
  intro L
  induction L with
  | nil => exact ⟨Nat.le_refl _, Nat.le_refl _⟩
  | cons a r ih =>
    rw [List.filter_cons]
    by_cases q : a ≤ n
    · rw [decide_eq_true q, if_pos rfl, List.sum_cons, List.sum_cons, List.length_cons, List.length_cons]
      omega
    · rw [decide_eq_false q, if_neg (by decide), List.sum_cons, List.length_cons]
      omega
theorem le_all (n : Nat) : sumLe n ≤ 46000 ∧ cntLe n ≤ 16 := by
  have h := flt_le n szL
  have h1 : szL.sum ≤ 46000 := by decide
  have h2 : szL.length = 16 := rfl
  unfold sumLe cntLe
  omega
theorem law_wp {L : Nat} {f : Int → Int} {h : PH} (e : h.1 = 10) (h0 : hp h 0 = aI 0 L f) (hX : txE h) (hf : ∀ y, -2147483648 ≤ f y ∧ f y < 2147483648) (hLL : L ≤ 3072) : ∃ h' : PH, h'.1 ≤ 600010 ∧ h'.2.1 ≤ h.2.1 + 7302250 ∧ ∀ d Q, WP (d + 400) 330 0 [some (vr 0), none, none, none] [] h Q = Q (some (vi 1)) h' := by
  have n1 := cH_new (h := h) (a := 10) (n := 18) (c := bk00) e
  obtain ⟨g, g1, g2, g3, g4, g5⟩ := C_init (h := cH h 10 1 18 (fun _ => bk00)) rfl rfl
  have n2 := cH_new (h := g) (a := 71) (n := 36) (c := md00) g1
  obtain ⟨H, A, r1, r2, r3, r4, r5⟩ := R_init g1
  have lo : ∀ k, k < 10 → hp (mdH H iR0 A) k = hp h k := fun k hk => by rw [md_out (by omega), r3 k (by omega), g3 k hk, cH_lo hk]
  have hI : iniP (mdH H iR0 A) := iniP_fr (fun k k1 k2 => by rw [md_out (by omega), r3 k (by omega)]) g4
  have hB := ini_bk (g := mdH H iR0 A) r1 hI
  have hL : LIx L f (mdH H iR0 A).2.1 0 (mdH H iR0 A) := ⟨_, _, _, _, iR0, A, hB, r4, md_twice, by rw [lo 0 (by omega)]; exact h0, txE_fr lo hX⟩
  obtain ⟨h', k', k1, k2, k3⟩ := lw_loop hf hLL 512 0 _ (by omega) (by omega) hL
  have hs : (mdH H iR0 A).2.1 = H.2.1 := rfl
  have hs2 : (cH h 10 1 18 (fun _ => bk00)).2.1 = h.2.1 + 18 := rfl
  have hroom : h'.1 ≤ 600010 ∧ h'.2.1 ≤ h.2.1 + 7302250 := by
    obtain ⟨kc, ow, M, ee, i, A2, ⟨-, -, -, -, nd, nc, nk, nr, nb, -, hR⟩, -⟩ := k2
    have l1 := le_all nd
    have l2 := le_all nc
    have l3 := le_all nk
    have l4 := le_all nr
    have l5 := le_all nb
    unfold roomI at hR
    rw [hs] at hR
    omega
  refine ⟨h', hroom.1, hroom.2, fun d Q => ?_⟩
  have g5' := fun (Q : PQ) => g5 (d + 389) Q
  have r5' := fun (Q : PQ) => r5 (d + 389) Q
  have k3' := k3 (d + 100) Q
  rw [show ((6 * 0 : Nat) : Int) = 0 from rfl] at k3'
  unfold bk00 at n1 g5'
  unfold md00 at n2 r5'
  rw [show d + 100 + 300 = d + 400 by omega] at k3'
  rw [← k3']
  simp (disch := omega) only [e_330_0, e_330_3i, e_330_3a, e_330_4, e_330_7, e_330_8, e_330_11i, e_330_11a, e_330_12, e_330_15, e_330_16, e_330_17, e, g1, n1, n2, g5', r5', cH_0, true_and, sh_0, sh_1, sh_2, sh_3, sh_4, sh_5, sh_8, sh_15, sh_16, sh_24, Int.reducePow, Int.cast_ofNat_Int, w_of, wl_of, ltT, ltF, leT, leF, eqT, eqF, okF_0, okF_s, gF_0, gF_s, consC_o, sF_0, sF_s, clsO_o, inA_i, ldA_i, stA_i, inJ_l, ldJ_l, stJ_l, inR_r, ldR_r, stR_r, tgR_r, lenA_i, lenA_l, lenA_r, lenA_ex, nl_i, nl_o, nl_l, nl_n, wd_n, wd_i, wd_l, wd_o, fit_i, fit_l, fit_o, K_v, K_n, true_and, and_true, Nat.reduceAdd, Nat.reduceLeDiff, Nat.reduceEqDiff, Nat.reduceMul, Nat.reduceLT, reduceIte, true_or, or_true, cmp_lt, cmp_gt, cmp_eq, wb_0, b_01, cmp_lt', cmp_gt', cmp_eq', b_0, b_1, wb_1, Int.reduceSub, Int.reduceToNat, List.getD_cons_succ, List.getD_cons_zero, Int.reduceLE, Int.reduceLT, Int.reduceEq, Int.reduceNeg, Int.reduceAdd, Int.reduceMul, and_self, em_b, ne_eq, not_false_eq_true, not_true_eq_false]
  try rfl
