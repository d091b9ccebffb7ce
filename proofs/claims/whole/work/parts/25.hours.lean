/-! deeds as numbers; the class's after, tells, whyNot, use -/
def moveD (c : KC) (x : Int) : Option Nat :=
  if x = 0 then some 0
  else if 10 ≤ x ∧ x < 10 + (kN c : Int) then some (x - 9).toNat
  else if 100 ≤ x ∧ x ≤ 199 ∧ (x - 100) / 10 < (kN c : Int) ∧ x % 10 < (kP c : Int) then some (4 + 5 * ((x - 100) / 10).toNat + (x % 10).toNat)
  else none
theorem deedM_h {m : Nat} (h1 : 1 ≤ m) (h2 : m < 4) : deedM m = 9 + m := by unfold deedM; rw [if_neg (by omega), if_pos h2]
theorem deedM_g {p to : Nat} (h : to < 5) : deedM (4 + 5 * p + to) = 100 + 10 * p + to := by unfold deedM; rw [if_neg (by omega), if_neg (by omega)]; omega
theorem deedM_inj {m n : Nat} (h : deedM m = deedM n) (hm : m < 19) (hn : n < 19) : m = n := by
  unfold deedM at h
  split at h <;> split at h <;> (try split at h) <;> (try split at h) <;> omega
theorem moveD_some {c : KC} {x : Int} {m : Nat} (hK : okK c) (h : moveD c x = some m) : isMv c m = true ∧ m < 19 ∧ (deedM m : Int) = x := by
  have hN := hK.2.2
  have hP := hK.2.1
  unfold moveD at h
  by_cases h0 : x = 0
  · rw [if_pos h0] at h; cases h; exact ⟨isMv_0, by omega, by rw [h0]; rfl⟩
  · rw [if_neg h0] at h
    by_cases h1 : 10 ≤ x ∧ x < 10 + (kN c : Int)
    · rw [if_pos h1] at h; cases h
      exact ⟨by rw [isMv_h (by omega) (by omega)]; exact decide_eq_true (by omega), by omega, by rw [deedM_h (by omega) (by omega)]; omega⟩
    · rw [if_neg h1] at h
      by_cases h2 : 100 ≤ x ∧ x ≤ 199 ∧ (x - 100) / 10 < (kN c : Int) ∧ x % 10 < (kP c : Int)
      · rw [if_pos h2] at h; cases h
        refine ⟨?_, by omega, by rw [deedM_g (by omega)]; omega⟩
        rw [isMv_g (by omega), decide_eq_true (show ((x - 100) / 10).toNat < kN c by omega), decide_eq_true (show (x % 10).toNat < kP c by omega)]
        rfl
      · rw [if_neg h2] at h; cases h
theorem isMv_cases {c : KC} {m : Nat} (h : isMv c m = true) : m = 0 ∨ (1 ≤ m ∧ m < 4 ∧ m - 1 < kN c) ∨ (∃ p to, m = 4 + 5 * p + to ∧ to < 5 ∧ p < kN c ∧ to < kP c) := by
  by_cases h0 : m = 0
  · exact Or.inl h0
  · by_cases h4 : m < 4
    · rw [isMv_h (by omega) h4] at h
      exact Or.inr (Or.inl ⟨by omega, h4, of_decide_eq_true h⟩)
    · refine Or.inr (Or.inr ⟨(m - 4) / 5, (m - 4) % 5, by omega, by omega, ?_⟩)
      have e := isMv_g (c := c) (p := (m - 4) / 5) (to := (m - 4) % 5) (by omega)
      rw [show 4 + 5 * ((m - 4) / 5) + (m - 4) % 5 = m by omega, h] at e
      constructor
      · by_cases q : (m - 4) / 5 < kN c
        · exact q
        · rw [decide_eq_false q] at e; simp at e
      · by_cases q : (m - 4) % 5 < kP c
        · exact q
        · rw [decide_eq_false q] at e; simp at e
theorem moveD_deed {c : KC} {m : Nat} (hK : okK c) (h : isMv c m = true) : moveD c (deedM m : Int) = some m := by
  have hN := hK.2.2
  have hP := hK.2.1
  rcases isMv_cases h with q | ⟨h1, h2, h3⟩ | ⟨p, to, rfl, h5, h3, h4⟩
  · subst q; rfl
  · rw [deedM_h h1 h2]
    unfold moveD
    rw [if_neg (by omega), if_pos (by omega)]
    congr 1; omega
  · rw [deedM_g h5]
    unfold moveD
    rw [if_neg (by omega), if_neg (by omega), if_pos (by omega)]
    congr 1; omega
def lkup (x : Int) : List (Nat × ST) → Option ST
  | [] => none
  | (dd, t) :: r => if (dd : Int) = x then some t else lkup x r
theorem lkup_app {x : Int} : ∀ {L1 L2 : List (Nat × ST)}, lkup x (L1 ++ L2) = match lkup x L1 with
    | none => lkup x L2
    | some t => some t
  | [], L2 => rfl
  | (dd, t) :: r, L2 => by
    have ih := lkup_app (x := x) (L1 := r) (L2 := L2)
    show (if (dd : Int) = x then some t else lkup x (r ++ L2)) = match (if (dd : Int) = x then some t else lkup x r) with
      | none => lkup x L2
      | some t => some t
    by_cases h : (dd : Int) = x
    · rw [if_pos h, if_pos h]
    · rw [if_neg h, if_neg h]; exact ih
theorem lk_none {c : KC} {sky : Nat} {s : ST} {x : Int} : ∀ {M : Nat}, (∀ m, m < M → canM c sky s m = true → (deedM m : Int) ≠ x) → lkup x (nxTo c sky s M) = none
  | 0, _ => rfl
  | M + 1, h => by
    have ih := lk_none (M := M) (fun m hm => h m (by omega))
    by_cases q : canM c sky s M = true
    · rw [nxTo_yes q, lkup_app, ih]
      show (if (deedM M : Int) = x then _ else none) = none
      rw [if_neg (h M (by omega) q)]
    · rw [nxTo_no (by simpa using q)]; exact ih
theorem lk_some {c : KC} {sky : Nat} {s : ST} {m : Nat} (hm : m < 19) (hc : canM c sky s m = true) : ∀ {M : Nat}, m < M → M ≤ 19 → lkup (deedM m : Int) (nxTo c sky s M) = some (toM c sky s m)
  | 0, h, _ => by omega
  | M + 1, h, hM => by
    by_cases e : m = M
    · subst e
      rw [nxTo_yes hc, lkup_app, lk_none (fun k hk _ z => by have := deedM_inj (m := k) (n := m) (by omega) (by omega) (by omega); omega)]
      show (if (deedM m : Int) = deedM m then _ else none) = _
      rw [if_pos rfl]
    · have ih := lk_some (c := c) (sky := sky) (s := s) hm hc (M := M) (by omega) (by omega)
      by_cases q : canM c sky s M = true
      · rw [nxTo_yes q, lkup_app, ih]
      · rw [nxTo_no (by simpa using q)]; exact ih
noncomputable def afterO (c : KC) (sky : Nat) (s : ST) (x : Int) : Option ST := match moveD c x with
  | none => none
  | some m => if canM c sky s m then some (toM c sky s m) else none
theorem lk_nx {c : KC} {sky : Nat} {s : ST} {x : Int} (hK : okK c) : lkup x (nx c sky s) = afterO c sky s x := by
  unfold afterO
  cases hm : moveD c x with
  | none =>
    refine lk_none (fun m hm' hc z => ?_)
    have := moveD_deed hK (canM_mv hc)
    rw [z, hm] at this
    cases this
  | some m =>
    obtain ⟨h1, h2, h3⟩ := moveD_some hK hm
    by_cases q : canM c sky s m = true
    · rw [← h3]; simp only [q, if_true]; exact lk_some h2 q h2 (by omega)
    · simp only [q, if_false, Bool.false_eq_true]
      refine lk_none (fun k hk hc z => ?_)
      have : deedM k = deedM m := by omega
      have := deedM_inj this hk h2
      subst this
      exact q hc
def encO (c : KC) : Option ST → Int
  | none => -1
  | some t => encC c t
theorem h_after {ca : Nat} {h : PH} {c : KC} {sky e : Nat} {s : ST} {i : Nat → Int} {A : Nat → Int → Int} {x : Int} (hO : okC c) (hca : outH ca) (hC : CtyAt h ca c) (hI : hoOK c sky e i A) (hs : okS c s) (hx1 : -9223372036854775808 ≤ x) (hx2 : x < 9223372036854775808) :
    ∃ j B, hoOK c sky e j B ∧ ∀ d Q, WP (d + 9) 39 0 [some (vr 27), some (vi (encC c s)), some (vl x), none, none] [] (hoH h ca i A) Q = Q (some (vi (encO c (afterO c sky s x)))) (hoH h ca j B) := by
  obtain ⟨B, hB, hL, hg⟩ := h_spread hO hca hC hI hs
  have hlen : (nx c sky s).length ≤ 15 := nxTo_len hO hs (by omega)
  have hdl : ∀ y, y ∈ nx c sky s → y.1 < 1000 := by
    have : ∀ M, M ≤ 19 → ∀ y, y ∈ nxTo c sky s M → y.1 < 1000 := by
      intro M
      induction M with
      | zero => intro _ y hy; cases hy
      | succ M ih =>
        intro hM y hy
        have hy' : y ∈ nxTo c sky s M ++ _ := hy
        rcases List.mem_append.mp hy' with q | q
        · exact ih (by omega) y q
        · split at q
          · rw [List.mem_singleton] at q; rw [q]; show deedM M < 1000; unfold deedM; split <;> (try split) <;> omega
          · cases q
    exact this 19 (by omega)
  refine ⟨iup i 9 ((nx c sky s).length : Nat), B, hoOK_i hB, fun d Q => ?_⟩
  rw [← lk_nx hO.1]
  generalize hLL : nx c sky s = L at *
  have lp : ∀ r j, j + r = L.length → WP (d + 9) 39 8 [some (vr 27), some (vi (encC c s)), some (vl x), none, some (vi (j : Nat))] [] (hoH h ca (iup i 9 (L.length : Nat)) B) Q = Q (some (vi (encO c (lkup x (L.drop j))))) (hoH h ca (iup i 9 (L.length : Nat)) B) := by
    intro r
    induction r with
    | zero =>
      intro j hj
      rw [List.drop_eq_nil_of_le (by omega)]
      rw [e_39_8]
      simp (disch := omega) only [e_39_10, e_39_11, e_39_14, e_39_44, e_39_45, hoO_c, hoO_g0, hoO_k0, hoO_g1, hoO_k1, hoO_g2, hoO_k2, hoO_g3, hoO_k3, hoO_g4, hoO_k4, hoO_g5, hoO_k5, hoO_g6, hoO_k6, hoO_g7, hoO_k7, hoO_g8, hoO_k8, hoO_g9, hoO_k9, hoO_s0, hoO_s1, hoO_s2, hoO_s9, ho_1, ho_2, ho_g27, ho_g28, ho_g29, ho_g30, ho_g31, ho_g32, ho_g33, ho_out, ho_u27, ho_u28, ho_u29, ho_u30, ho_u31, ho_u32, ho_u33, ho_uo, iup_s, iup_n, aup_s, aup_n, ne_eq, not_false_eq_true, sh_0, sh_1, sh_2, sh_3, sh_4, sh_5, sh_8, sh_15, sh_16, sh_24, Int.reducePow, Int.cast_ofNat_Int, w_of, wl_of, ltT, ltF, leT, leF, eqT, eqF, okF_0, okF_s, gF_0, gF_s, consC_o, sF_0, sF_s, clsO_o, inA_i, ldA_i, stA_i, inJ_l, ldJ_l, stJ_l, inR_r, ldR_r, stR_r, tgR_r, lenA_i, lenA_l, lenA_r, lenA_ex, nl_i, nl_o, nl_l, nl_n, wd_n, wd_i, wd_l, wd_o, fit_i, fit_l, fit_o, K_v, K_n, true_and, and_true, Nat.reduceAdd, Nat.reduceLeDiff, Nat.reduceEqDiff, Nat.reduceMul, Nat.reduceLT, reduceIte, true_or, or_true, cmp_lt, cmp_gt, cmp_eq, wb_0, b_01, cmp_lt', cmp_gt', cmp_eq', b_0, b_1, wb_1, Int.reduceSub, Int.reduceToNat, List.getD_cons_succ, List.getD_cons_zero, Int.reduceLE, Int.reduceLT, Int.reduceEq, Int.reduceNeg, Int.reduceAdd, Int.reduceMul, and_self]
      rfl
    | succ r ih =>
      intro j hj
      obtain ⟨y, hy⟩ : ∃ y, L[j]? = some y := ⟨L[j], List.getElem?_eq_getElem (by omega)⟩
      obtain ⟨l1, l2⟩ := hL j y hy
      have hdr : L.drop j = y :: L.drop (j + 1) := by
        rw [List.getElem?_eq_some_iff] at hy
        obtain ⟨hy1, hy2⟩ := hy
        rw [← hy2]
        exact List.drop_eq_getElem_cons hy1
      rw [hdr]
      have hyd := hdl y (List.mem_of_getElem? hy)
      obtain ⟨dd, t⟩ := y
      dsimp only at l1 l2 hyd
      unfold lkup
      by_cases q : (dd : Int) = x
      · rw [if_pos q]
        rw [e_39_8]
        simp (disch := omega) only [e_39_10, e_39_11, e_39_14, e_39_17, e_39_18, e_39_21, e_39_23, e_39_24, e_39_25, e_39_26, e_39_27, e_39_30, e_39_31, e_39_34, e_39_36, e_39_37, l1, l2, q, hoO_c, hoO_g0, hoO_k0, hoO_g1, hoO_k1, hoO_g2, hoO_k2, hoO_g3, hoO_k3, hoO_g4, hoO_k4, hoO_g5, hoO_k5, hoO_g6, hoO_k6, hoO_g7, hoO_k7, hoO_g8, hoO_k8, hoO_g9, hoO_k9, hoO_s0, hoO_s1, hoO_s2, hoO_s9, ho_1, ho_2, ho_g27, ho_g28, ho_g29, ho_g30, ho_g31, ho_g32, ho_g33, ho_out, ho_u27, ho_u28, ho_u29, ho_u30, ho_u31, ho_u32, ho_u33, ho_uo, iup_s, iup_n, aup_s, aup_n, ne_eq, not_false_eq_true, sh_0, sh_1, sh_2, sh_3, sh_4, sh_5, sh_8, sh_15, sh_16, sh_24, Int.reducePow, Int.cast_ofNat_Int, w_of, wl_of, ltT, ltF, leT, leF, eqT, eqF, okF_0, okF_s, gF_0, gF_s, consC_o, sF_0, sF_s, clsO_o, inA_i, ldA_i, stA_i, inJ_l, ldJ_l, stJ_l, inR_r, ldR_r, stR_r, tgR_r, lenA_i, lenA_l, lenA_r, lenA_ex, nl_i, nl_o, nl_l, nl_n, wd_n, wd_i, wd_l, wd_o, fit_i, fit_l, fit_o, K_v, K_n, true_and, and_true, Nat.reduceAdd, Nat.reduceLeDiff, Nat.reduceEqDiff, Nat.reduceMul, Nat.reduceLT, reduceIte, true_or, or_true, cmp_lt, cmp_gt, cmp_eq, wb_0, b_01, cmp_lt', cmp_gt', cmp_eq', b_0, b_1, wb_1, Int.reduceSub, Int.reduceToNat, List.getD_cons_succ, List.getD_cons_zero, Int.reduceLE, Int.reduceLT, Int.reduceEq, Int.reduceNeg, Int.reduceAdd, Int.reduceMul, and_self]
        rfl
      · rw [if_neg q, ← ih (j + 1) (by omega)]
        rw [e_39_8]
        simp (disch := omega) only [e_39_10, e_39_11, e_39_14, e_39_17, e_39_18, e_39_21, e_39_23, e_39_24, e_39_25, e_39_26, e_39_27, e_39_30, e_39_31, e_39_34, e_39_36, e_39_37, e_39_38, e_39_41, l1, l2, q, hoO_c, hoO_g0, hoO_k0, hoO_g1, hoO_k1, hoO_g2, hoO_k2, hoO_g3, hoO_k3, hoO_g4, hoO_k4, hoO_g5, hoO_k5, hoO_g6, hoO_k6, hoO_g7, hoO_k7, hoO_g8, hoO_k8, hoO_g9, hoO_k9, hoO_s0, hoO_s1, hoO_s2, hoO_s9, ho_1, ho_2, ho_g27, ho_g28, ho_g29, ho_g30, ho_g31, ho_g32, ho_g33, ho_out, ho_u27, ho_u28, ho_u29, ho_u30, ho_u31, ho_u32, ho_u33, ho_uo, iup_s, iup_n, aup_s, aup_n, ne_eq, not_false_eq_true, sh_0, sh_1, sh_2, sh_3, sh_4, sh_5, sh_8, sh_15, sh_16, sh_24, Int.reducePow, Int.cast_ofNat_Int, w_of, wl_of, ltT, ltF, leT, leF, eqT, eqF, okF_0, okF_s, gF_0, gF_s, consC_o, sF_0, sF_s, clsO_o, inA_i, ldA_i, stA_i, inJ_l, ldJ_l, stJ_l, inR_r, ldR_r, stR_r, tgR_r, lenA_i, lenA_l, lenA_r, lenA_ex, nl_i, nl_o, nl_l, nl_n, wd_n, wd_i, wd_l, wd_o, fit_i, fit_l, fit_o, K_v, K_n, true_and, and_true, Nat.reduceAdd, Nat.reduceLeDiff, Nat.reduceEqDiff, Nat.reduceMul, Nat.reduceLT, reduceIte, true_or, or_true, cmp_lt, cmp_gt, cmp_eq, wb_0, b_01, cmp_lt', cmp_gt', cmp_eq', b_0, b_1, wb_1, Int.reduceSub, Int.reduceToNat, List.getD_cons_succ, List.getD_cons_zero, Int.reduceLE, Int.reduceLT, Int.reduceEq, Int.reduceNeg, Int.reduceAdd, Int.reduceMul, and_self]
        rfl
  have lp0 := lp L.length 0 (by omega)
  rw [List.drop_zero] at lp0
  rw [← lp0]
  simp (disch := omega) only [e_39_0, e_39_1, e_39_2, e_39_5, e_39_6, hg, hoO_c, hoO_g0, hoO_k0, hoO_g1, hoO_k1, hoO_g2, hoO_k2, hoO_g3, hoO_k3, hoO_g4, hoO_k4, hoO_g5, hoO_k5, hoO_g6, hoO_k6, hoO_g7, hoO_k7, hoO_g8, hoO_k8, hoO_g9, hoO_k9, hoO_s0, hoO_s1, hoO_s2, hoO_s9, ho_1, ho_2, ho_g27, ho_g28, ho_g29, ho_g30, ho_g31, ho_g32, ho_g33, ho_out, ho_u27, ho_u28, ho_u29, ho_u30, ho_u31, ho_u32, ho_u33, ho_uo, iup_s, iup_n, aup_s, aup_n, ne_eq, not_false_eq_true, sh_0, sh_1, sh_2, sh_3, sh_4, sh_5, sh_8, sh_15, sh_16, sh_24, Int.reducePow, Int.cast_ofNat_Int, w_of, wl_of, ltT, ltF, leT, leF, eqT, eqF, okF_0, okF_s, gF_0, gF_s, consC_o, sF_0, sF_s, clsO_o, inA_i, ldA_i, stA_i, inJ_l, ldJ_l, stJ_l, inR_r, ldR_r, stR_r, tgR_r, lenA_i, lenA_l, lenA_r, lenA_ex, nl_i, nl_o, nl_l, nl_n, wd_n, wd_i, wd_l, wd_o, fit_i, fit_l, fit_o, K_v, K_n, true_and, and_true, Nat.reduceAdd, Nat.reduceLeDiff, Nat.reduceEqDiff, Nat.reduceMul, Nat.reduceLT, reduceIte, true_or, or_true, cmp_lt, cmp_gt, cmp_eq, wb_0, b_01, cmp_lt', cmp_gt', cmp_eq', b_0, b_1, wb_1, Int.reduceSub, Int.reduceToNat, List.getD_cons_succ, List.getD_cons_zero, Int.reduceLE, Int.reduceLT, Int.reduceEq, Int.reduceNeg, Int.reduceAdd, Int.reduceMul, and_self]
theorem h_tells {d ca : Nat} {h : PH} {c : KC} {i : Nat → Int} {A : Nat → Int → Int} {x : Int} {Q : PQ} (hO : okC c) (hca : outH ca) (hC : CtyAt h ca c) (hx1 : -9223372036854775808 ≤ x) (hx2 : x < 9223372036854775808) :
    WP d 37 0 [some (vr 27), some (vl x), none] [] (hoH h ca i A) Q = Q (some (vi (if (moveD c x).isSome then 1 else 0))) (hoH h ca i A) := by
  have hK := hO.1
  have hN := hK.2.2
  have hP := hK.2.1
  obtain ⟨tf, tt, mf, mt, n, fh, fw, fa, fc, fg, fp, hA, -⟩ := hC
  have o0 : ∀ i A, hp (hoH h ca i A) ca = hp h ca := fun i A => ho_out (by unfold outH at hca; omega)
  by_cases h0 : x = 0
  · have hm : moveD c x = some 0 := by unfold moveD; rw [if_pos h0]
    rw [hm]
    simp (disch := omega) only [e_37_0, e_37_1, e_37_2, e_37_3, e_37_6, e_37_7, hoO_c, hoO_g0, hoO_k0, hoO_g1, hoO_k1, hoO_g2, hoO_k2, hoO_g3, hoO_k3, hoO_g4, hoO_k4, hoO_g5, hoO_k5, hoO_g6, hoO_k6, hoO_g7, hoO_k7, hoO_g8, hoO_k8, hoO_g9, hoO_k9, hoO_s0, hoO_s1, hoO_s2, hoO_s9, ho_1, ho_2, ho_g27, ho_g28, ho_g29, ho_g30, ho_g31, ho_g32, ho_g33, ho_out, ho_u27, ho_u28, ho_u29, ho_u30, ho_u31, ho_u32, ho_u33, ho_uo, iup_s, iup_n, aup_s, aup_n, ne_eq, not_false_eq_true, sh_0, sh_1, sh_2, sh_3, sh_4, sh_5, sh_8, sh_15, sh_16, sh_24, Int.reducePow, Int.cast_ofNat_Int, w_of, wl_of, ltT, ltF, leT, leF, eqT, eqF, okF_0, okF_s, gF_0, gF_s, consC_o, sF_0, sF_s, clsO_o, inA_i, ldA_i, stA_i, inJ_l, ldJ_l, stJ_l, inR_r, ldR_r, stR_r, tgR_r, lenA_i, lenA_l, lenA_r, lenA_ex, nl_i, nl_o, nl_l, nl_n, wd_n, wd_i, wd_l, wd_o, fit_i, fit_l, fit_o, K_v, K_n, true_and, and_true, Nat.reduceAdd, Nat.reduceLeDiff, Nat.reduceEqDiff, Nat.reduceMul, Nat.reduceLT, reduceIte, true_or, or_true, cmp_lt, cmp_gt, cmp_eq, wb_0, b_01, cmp_lt', cmp_gt', cmp_eq', b_0, b_1, wb_1, Int.reduceSub, Int.reduceToNat, List.getD_cons_succ, List.getD_cons_zero, Int.reduceLE, Int.reduceLT, Int.reduceEq, Int.reduceNeg, Int.reduceAdd, Int.reduceMul, and_self]
    rfl
  · skip
    by_cases h2 : 100 ≤ x ∧ x ≤ 199
    · skip
      have t1 : (x - 100).tdiv 10 = (x - 100) / 10 := Int.tdiv_eq_ediv_of_nonneg (by omega)
      have t2 : x.tmod 10 = x % 10 := Int.tmod_eq_emod_of_nonneg (by omega)
      obtain ⟨g1, g2⟩ := h2
      by_cases h3 : (x - 100) / 10 < (kN c : Int)
      · by_cases h4 : x % 10 < (kP c : Int)
        · have hm : moveD c x = some (4 + 5 * ((x - 100) / 10).toNat + (x % 10).toNat) := by unfold moveD; rw [if_neg h0, if_neg (by omega), if_pos ⟨g1, g2, h3, h4⟩]
          rw [hm]
          simp (disch := omega) only [e_37_0, e_37_1, e_37_2, e_37_3, e_37_6, e_37_7, e_37_8, e_37_9, e_37_12, e_37_13, e_37_16, e_37_17, e_37_20, e_37_21, e_37_24, e_37_25, e_37_28, e_37_29, e_37_32, e_37_33, e_37_34, e_37_37, e_37_40, e_37_41, e_37_42, e_37_45, e_37_46, e_37_49, e_37_50, e_37_51, e_37_54, e_37_57, e_37_58, e_37_59, e_37_62, e_37_63, e_37_66, e_37_67, o0, hA, t1, t2, hoO_c, hoO_g0, hoO_k0, hoO_g1, hoO_k1, hoO_g2, hoO_k2, hoO_g3, hoO_k3, hoO_g4, hoO_k4, hoO_g5, hoO_k5, hoO_g6, hoO_k6, hoO_g7, hoO_k7, hoO_g8, hoO_k8, hoO_g9, hoO_k9, hoO_s0, hoO_s1, hoO_s2, hoO_s9, ho_1, ho_2, ho_g27, ho_g28, ho_g29, ho_g30, ho_g31, ho_g32, ho_g33, ho_out, ho_u27, ho_u28, ho_u29, ho_u30, ho_u31, ho_u32, ho_u33, ho_uo, iup_s, iup_n, aup_s, aup_n, ne_eq, not_false_eq_true, sh_0, sh_1, sh_2, sh_3, sh_4, sh_5, sh_8, sh_15, sh_16, sh_24, Int.reducePow, Int.cast_ofNat_Int, w_of, wl_of, ltT, ltF, leT, leF, eqT, eqF, okF_0, okF_s, gF_0, gF_s, consC_o, sF_0, sF_s, clsO_o, inA_i, ldA_i, stA_i, inJ_l, ldJ_l, stJ_l, inR_r, ldR_r, stR_r, tgR_r, lenA_i, lenA_l, lenA_r, lenA_ex, nl_i, nl_o, nl_l, nl_n, wd_n, wd_i, wd_l, wd_o, fit_i, fit_l, fit_o, K_v, K_n, true_and, and_true, Nat.reduceAdd, Nat.reduceLeDiff, Nat.reduceEqDiff, Nat.reduceMul, Nat.reduceLT, reduceIte, true_or, or_true, cmp_lt, cmp_gt, cmp_eq, wb_0, b_01, cmp_lt', cmp_gt', cmp_eq', b_0, b_1, wb_1, Int.reduceSub, Int.reduceToNat, List.getD_cons_succ, List.getD_cons_zero, Int.reduceLE, Int.reduceLT, Int.reduceEq, Int.reduceNeg, Int.reduceAdd, Int.reduceMul, and_self]
          rfl
        · have hm : moveD c x = none := by unfold moveD; rw [if_neg h0, if_neg (by omega), if_neg (fun z => h4 z.2.2.2)]
          rw [hm]
          simp (disch := omega) only [e_37_0, e_37_1, e_37_2, e_37_3, e_37_6, e_37_7, e_37_8, e_37_9, e_37_12, e_37_13, e_37_16, e_37_17, e_37_20, e_37_21, e_37_24, e_37_25, e_37_28, e_37_29, e_37_32, e_37_33, e_37_34, e_37_37, e_37_40, e_37_41, e_37_42, e_37_45, e_37_46, e_37_49, e_37_50, e_37_51, e_37_54, e_37_57, e_37_58, e_37_59, e_37_62, e_37_63, e_37_66, e_37_67, o0, hA, t1, t2, hoO_c, hoO_g0, hoO_k0, hoO_g1, hoO_k1, hoO_g2, hoO_k2, hoO_g3, hoO_k3, hoO_g4, hoO_k4, hoO_g5, hoO_k5, hoO_g6, hoO_k6, hoO_g7, hoO_k7, hoO_g8, hoO_k8, hoO_g9, hoO_k9, hoO_s0, hoO_s1, hoO_s2, hoO_s9, ho_1, ho_2, ho_g27, ho_g28, ho_g29, ho_g30, ho_g31, ho_g32, ho_g33, ho_out, ho_u27, ho_u28, ho_u29, ho_u30, ho_u31, ho_u32, ho_u33, ho_uo, iup_s, iup_n, aup_s, aup_n, ne_eq, not_false_eq_true, sh_0, sh_1, sh_2, sh_3, sh_4, sh_5, sh_8, sh_15, sh_16, sh_24, Int.reducePow, Int.cast_ofNat_Int, w_of, wl_of, ltT, ltF, leT, leF, eqT, eqF, okF_0, okF_s, gF_0, gF_s, consC_o, sF_0, sF_s, clsO_o, inA_i, ldA_i, stA_i, inJ_l, ldJ_l, stJ_l, inR_r, ldR_r, stR_r, tgR_r, lenA_i, lenA_l, lenA_r, lenA_ex, nl_i, nl_o, nl_l, nl_n, wd_n, wd_i, wd_l, wd_o, fit_i, fit_l, fit_o, K_v, K_n, true_and, and_true, Nat.reduceAdd, Nat.reduceLeDiff, Nat.reduceEqDiff, Nat.reduceMul, Nat.reduceLT, reduceIte, true_or, or_true, cmp_lt, cmp_gt, cmp_eq, wb_0, b_01, cmp_lt', cmp_gt', cmp_eq', b_0, b_1, wb_1, Int.reduceSub, Int.reduceToNat, List.getD_cons_succ, List.getD_cons_zero, Int.reduceLE, Int.reduceLT, Int.reduceEq, Int.reduceNeg, Int.reduceAdd, Int.reduceMul, and_self]
          rfl
      · have hm : moveD c x = none := by unfold moveD; rw [if_neg h0, if_neg (by omega), if_neg (fun z => h3 z.2.2.1)]
        rw [hm]
        simp (disch := omega) only [e_37_0, e_37_1, e_37_2, e_37_3, e_37_6, e_37_7, e_37_8, e_37_9, e_37_12, e_37_13, e_37_16, e_37_17, e_37_20, e_37_21, e_37_24, e_37_25, e_37_28, e_37_29, e_37_32, e_37_33, e_37_34, e_37_37, e_37_40, e_37_41, e_37_42, e_37_45, e_37_46, e_37_49, e_37_50, e_37_51, e_37_54, e_37_57, e_37_58, e_37_59, e_37_62, e_37_63, e_37_66, e_37_67, o0, hA, t1, t2, hoO_c, hoO_g0, hoO_k0, hoO_g1, hoO_k1, hoO_g2, hoO_k2, hoO_g3, hoO_k3, hoO_g4, hoO_k4, hoO_g5, hoO_k5, hoO_g6, hoO_k6, hoO_g7, hoO_k7, hoO_g8, hoO_k8, hoO_g9, hoO_k9, hoO_s0, hoO_s1, hoO_s2, hoO_s9, ho_1, ho_2, ho_g27, ho_g28, ho_g29, ho_g30, ho_g31, ho_g32, ho_g33, ho_out, ho_u27, ho_u28, ho_u29, ho_u30, ho_u31, ho_u32, ho_u33, ho_uo, iup_s, iup_n, aup_s, aup_n, ne_eq, not_false_eq_true, sh_0, sh_1, sh_2, sh_3, sh_4, sh_5, sh_8, sh_15, sh_16, sh_24, Int.reducePow, Int.cast_ofNat_Int, w_of, wl_of, ltT, ltF, leT, leF, eqT, eqF, okF_0, okF_s, gF_0, gF_s, consC_o, sF_0, sF_s, clsO_o, inA_i, ldA_i, stA_i, inJ_l, ldJ_l, stJ_l, inR_r, ldR_r, stR_r, tgR_r, lenA_i, lenA_l, lenA_r, lenA_ex, nl_i, nl_o, nl_l, nl_n, wd_n, wd_i, wd_l, wd_o, fit_i, fit_l, fit_o, K_v, K_n, true_and, and_true, Nat.reduceAdd, Nat.reduceLeDiff, Nat.reduceEqDiff, Nat.reduceMul, Nat.reduceLT, reduceIte, true_or, or_true, cmp_lt, cmp_gt, cmp_eq, wb_0, b_01, cmp_lt', cmp_gt', cmp_eq', b_0, b_1, wb_1, Int.reduceSub, Int.reduceToNat, List.getD_cons_succ, List.getD_cons_zero, Int.reduceLE, Int.reduceLT, Int.reduceEq, Int.reduceNeg, Int.reduceAdd, Int.reduceMul, and_self]
        rfl
    · by_cases h1 : 10 ≤ x ∧ x < 10 + (kN c : Int)
      · have hm : moveD c x = some (x - 9).toNat := by unfold moveD; rw [if_neg h0, if_pos h1]
        rw [hm]
        obtain ⟨g1, g2⟩ := h1
        have g3 : x < 100 := by omega
        clear h2
        simp (disch := omega) only [e_37_0, e_37_1, e_37_2, e_37_3, e_37_6, e_37_7, e_37_8, e_37_9, e_37_12, e_37_13, e_37_16, e_37_17, e_37_20, e_37_21, e_37_68, e_37_69, e_37_72, e_37_73, e_37_76, e_37_77, e_37_79, e_37_80, e_37_83, e_37_86, e_37_87, e_37_88, e_37_89, e_37_92, e_37_93, e_37_96, e_37_97, o0, hA, hoO_c, hoO_g0, hoO_k0, hoO_g1, hoO_k1, hoO_g2, hoO_k2, hoO_g3, hoO_k3, hoO_g4, hoO_k4, hoO_g5, hoO_k5, hoO_g6, hoO_k6, hoO_g7, hoO_k7, hoO_g8, hoO_k8, hoO_g9, hoO_k9, hoO_s0, hoO_s1, hoO_s2, hoO_s9, ho_1, ho_2, ho_g27, ho_g28, ho_g29, ho_g30, ho_g31, ho_g32, ho_g33, ho_out, ho_u27, ho_u28, ho_u29, ho_u30, ho_u31, ho_u32, ho_u33, ho_uo, iup_s, iup_n, aup_s, aup_n, ne_eq, not_false_eq_true, sh_0, sh_1, sh_2, sh_3, sh_4, sh_5, sh_8, sh_15, sh_16, sh_24, Int.reducePow, Int.cast_ofNat_Int, w_of, wl_of, ltT, ltF, leT, leF, eqT, eqF, okF_0, okF_s, gF_0, gF_s, consC_o, sF_0, sF_s, clsO_o, inA_i, ldA_i, stA_i, inJ_l, ldJ_l, stJ_l, inR_r, ldR_r, stR_r, tgR_r, lenA_i, lenA_l, lenA_r, lenA_ex, nl_i, nl_o, nl_l, nl_n, wd_n, wd_i, wd_l, wd_o, fit_i, fit_l, fit_o, K_v, K_n, true_and, and_true, Nat.reduceAdd, Nat.reduceLeDiff, Nat.reduceEqDiff, Nat.reduceMul, Nat.reduceLT, reduceIte, true_or, or_true, cmp_lt, cmp_gt, cmp_eq, wb_0, b_01, cmp_lt', cmp_gt', cmp_eq', b_0, b_1, wb_1, Int.reduceSub, Int.reduceToNat, List.getD_cons_succ, List.getD_cons_zero, Int.reduceLE, Int.reduceLT, Int.reduceEq, Int.reduceNeg, Int.reduceAdd, Int.reduceMul, and_self]
        rfl
      · have hm : moveD c x = none := by unfold moveD; rw [if_neg h0, if_neg h1, if_neg (fun z => h2 ⟨z.1, z.2.1⟩)]
        rw [hm]
        have hsum : x < 10 ∨ (10 + (kN c : Int) ≤ x ∧ x < 100) ∨ 199 < x := by omega
        clear h2 h1
        rcases hsum with g1 | ⟨g1, g2⟩ | g1
        · simp (disch := omega) only [e_37_0, e_37_1, e_37_2, e_37_3, e_37_6, e_37_7, e_37_8, e_37_9, e_37_12, e_37_13, e_37_16, e_37_17, e_37_20, e_37_21, e_37_68, e_37_69, e_37_72, e_37_73, e_37_76, e_37_77, e_37_79, e_37_80, e_37_83, e_37_86, e_37_87, e_37_88, e_37_89, e_37_92, e_37_93, e_37_96, e_37_97, o0, hA, hoO_c, hoO_g0, hoO_k0, hoO_g1, hoO_k1, hoO_g2, hoO_k2, hoO_g3, hoO_k3, hoO_g4, hoO_k4, hoO_g5, hoO_k5, hoO_g6, hoO_k6, hoO_g7, hoO_k7, hoO_g8, hoO_k8, hoO_g9, hoO_k9, hoO_s0, hoO_s1, hoO_s2, hoO_s9, ho_1, ho_2, ho_g27, ho_g28, ho_g29, ho_g30, ho_g31, ho_g32, ho_g33, ho_out, ho_u27, ho_u28, ho_u29, ho_u30, ho_u31, ho_u32, ho_u33, ho_uo, iup_s, iup_n, aup_s, aup_n, ne_eq, not_false_eq_true, sh_0, sh_1, sh_2, sh_3, sh_4, sh_5, sh_8, sh_15, sh_16, sh_24, Int.reducePow, Int.cast_ofNat_Int, w_of, wl_of, ltT, ltF, leT, leF, eqT, eqF, okF_0, okF_s, gF_0, gF_s, consC_o, sF_0, sF_s, clsO_o, inA_i, ldA_i, stA_i, inJ_l, ldJ_l, stJ_l, inR_r, ldR_r, stR_r, tgR_r, lenA_i, lenA_l, lenA_r, lenA_ex, nl_i, nl_o, nl_l, nl_n, wd_n, wd_i, wd_l, wd_o, fit_i, fit_l, fit_o, K_v, K_n, true_and, and_true, Nat.reduceAdd, Nat.reduceLeDiff, Nat.reduceEqDiff, Nat.reduceMul, Nat.reduceLT, reduceIte, true_or, or_true, cmp_lt, cmp_gt, cmp_eq, wb_0, b_01, cmp_lt', cmp_gt', cmp_eq', b_0, b_1, wb_1, Int.reduceSub, Int.reduceToNat, List.getD_cons_succ, List.getD_cons_zero, Int.reduceLE, Int.reduceLT, Int.reduceEq, Int.reduceNeg, Int.reduceAdd, Int.reduceMul, and_self]
          rfl
        · simp (disch := omega) only [e_37_0, e_37_1, e_37_2, e_37_3, e_37_6, e_37_7, e_37_8, e_37_9, e_37_12, e_37_13, e_37_16, e_37_17, e_37_20, e_37_21, e_37_68, e_37_69, e_37_72, e_37_73, e_37_76, e_37_77, e_37_79, e_37_80, e_37_83, e_37_86, e_37_87, e_37_88, e_37_89, e_37_92, e_37_93, e_37_96, e_37_97, o0, hA, hoO_c, hoO_g0, hoO_k0, hoO_g1, hoO_k1, hoO_g2, hoO_k2, hoO_g3, hoO_k3, hoO_g4, hoO_k4, hoO_g5, hoO_k5, hoO_g6, hoO_k6, hoO_g7, hoO_k7, hoO_g8, hoO_k8, hoO_g9, hoO_k9, hoO_s0, hoO_s1, hoO_s2, hoO_s9, ho_1, ho_2, ho_g27, ho_g28, ho_g29, ho_g30, ho_g31, ho_g32, ho_g33, ho_out, ho_u27, ho_u28, ho_u29, ho_u30, ho_u31, ho_u32, ho_u33, ho_uo, iup_s, iup_n, aup_s, aup_n, ne_eq, not_false_eq_true, sh_0, sh_1, sh_2, sh_3, sh_4, sh_5, sh_8, sh_15, sh_16, sh_24, Int.reducePow, Int.cast_ofNat_Int, w_of, wl_of, ltT, ltF, leT, leF, eqT, eqF, okF_0, okF_s, gF_0, gF_s, consC_o, sF_0, sF_s, clsO_o, inA_i, ldA_i, stA_i, inJ_l, ldJ_l, stJ_l, inR_r, ldR_r, stR_r, tgR_r, lenA_i, lenA_l, lenA_r, lenA_ex, nl_i, nl_o, nl_l, nl_n, wd_n, wd_i, wd_l, wd_o, fit_i, fit_l, fit_o, K_v, K_n, true_and, and_true, Nat.reduceAdd, Nat.reduceLeDiff, Nat.reduceEqDiff, Nat.reduceMul, Nat.reduceLT, reduceIte, true_or, or_true, cmp_lt, cmp_gt, cmp_eq, wb_0, b_01, cmp_lt', cmp_gt', cmp_eq', b_0, b_1, wb_1, Int.reduceSub, Int.reduceToNat, List.getD_cons_succ, List.getD_cons_zero, Int.reduceLE, Int.reduceLT, Int.reduceEq, Int.reduceNeg, Int.reduceAdd, Int.reduceMul, and_self]
          rfl
        · simp (disch := omega) only [e_37_0, e_37_1, e_37_2, e_37_3, e_37_6, e_37_7, e_37_8, e_37_9, e_37_12, e_37_13, e_37_16, e_37_17, e_37_20, e_37_21, e_37_68, e_37_69, e_37_72, e_37_73, e_37_76, e_37_77, e_37_79, e_37_80, e_37_83, e_37_86, e_37_87, e_37_88, e_37_89, e_37_92, e_37_93, e_37_96, e_37_97, o0, hA, hoO_c, hoO_g0, hoO_k0, hoO_g1, hoO_k1, hoO_g2, hoO_k2, hoO_g3, hoO_k3, hoO_g4, hoO_k4, hoO_g5, hoO_k5, hoO_g6, hoO_k6, hoO_g7, hoO_k7, hoO_g8, hoO_k8, hoO_g9, hoO_k9, hoO_s0, hoO_s1, hoO_s2, hoO_s9, ho_1, ho_2, ho_g27, ho_g28, ho_g29, ho_g30, ho_g31, ho_g32, ho_g33, ho_out, ho_u27, ho_u28, ho_u29, ho_u30, ho_u31, ho_u32, ho_u33, ho_uo, iup_s, iup_n, aup_s, aup_n, ne_eq, not_false_eq_true, sh_0, sh_1, sh_2, sh_3, sh_4, sh_5, sh_8, sh_15, sh_16, sh_24, Int.reducePow, Int.cast_ofNat_Int, w_of, wl_of, ltT, ltF, leT, leF, eqT, eqF, okF_0, okF_s, gF_0, gF_s, consC_o, sF_0, sF_s, clsO_o, inA_i, ldA_i, stA_i, inJ_l, ldJ_l, stJ_l, inR_r, ldR_r, stR_r, tgR_r, lenA_i, lenA_l, lenA_r, lenA_ex, nl_i, nl_o, nl_l, nl_n, wd_n, wd_i, wd_l, wd_o, fit_i, fit_l, fit_o, K_v, K_n, true_and, and_true, Nat.reduceAdd, Nat.reduceLeDiff, Nat.reduceEqDiff, Nat.reduceMul, Nat.reduceLT, reduceIte, true_or, or_true, cmp_lt, cmp_gt, cmp_eq, wb_0, b_01, cmp_lt', cmp_gt', cmp_eq', b_0, b_1, wb_1, Int.reduceSub, Int.reduceToNat, List.getD_cons_succ, List.getD_cons_zero, Int.reduceLE, Int.reduceLT, Int.reduceEq, Int.reduceNeg, Int.reduceAdd, Int.reduceMul, and_self]
          rfl
