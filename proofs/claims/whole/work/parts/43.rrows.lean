/-! COUNTING ROWS: weights; the reference's rows -/
def wsum (f : Int → Int) (W : ST → Int) : Nat → List ST → Int
  | _, [] => 0
  | j, x :: r => f j * W x + wsum f W (j + 1) r
theorem wsum_congr {f g : Int → Int} {W : ST → Int} : ∀ {L : List ST} {j : Nat}, (∀ k : Nat, j ≤ k → k < j + L.length → g k = f k) → wsum g W j L = wsum f W j L
  | [], _, _ => rfl
  | x :: r, j, h => by
    show g j * W x + wsum g W (j + 1) r = f j * W x + wsum f W (j + 1) r
    rw [h j (by omega) (by simp), wsum_congr (fun k h1 h2 => h k (by omega) (by simp; omega))]
theorem wsum_W {f : Int → Int} {V W : ST → Int} : ∀ {L : List ST} {j : Nat}, (∀ x, x ∈ L → V x = W x) → wsum f V j L = wsum f W j L
  | [], _, _ => rfl
  | x :: r, j, h => by
    show f j * V x + wsum f V (j + 1) r = f j * W x + wsum f W (j + 1) r
    rw [h x (by simp), wsum_W (fun y hy => h y (List.mem_cons_of_mem _ hy))]
theorem wsum_add {f : Int → Int} {W : ST → Int} {t : Nat} {a : Int} {y : ST} : ∀ {L : List ST} {j : Nat}, L[t]? = some y → wsum (fset f ((j + t : Nat) : Int) (f ((j + t : Nat) : Int) + a)) W j L = wsum f W j L + a * W y := by
  induction t with
  | zero =>
    intro L j h
    match L, h with
    | x :: r, h =>
      cases h
      show fset f _ _ (j : Int) * W y + wsum _ W (j + 1) r = f j * W y + wsum f W (j + 1) r + a * W y
      rw [wsum_congr (f := f) (fun k h1 h2 => fs_ne (by omega)), Nat.add_zero, fs_same, Int.add_mul]
      omega
  | succ t ih =>
    intro L j h
    match L, h with
    | x :: r, h =>
      have h' : r[t]? = some y := h
      have := ih (j := j + 1) h'
      rw [show j + 1 + t = j + (t + 1) by omega] at this
      show fset f _ _ (j : Int) * W x + wsum _ W (j + 1) r = f j * W x + wsum f W (j + 1) r + a * W y
      rw [this, fs_ne (by omega)]
      omega
theorem wsum_zero {f : Int → Int} {W : ST → Int} : ∀ {L : List ST} {j : Nat}, (∀ k : Nat, j ≤ k → k < j + L.length → f k = 0) → wsum f W j L = 0
  | [], _, _ => rfl
  | x :: r, j, h => by
    show f j * W x + wsum f W (j + 1) r = 0
    rw [h j (by omega) (by simp), wsum_zero (fun k h1 h2 => h k (by omega) (by simp; omega))]; omega
theorem wsum_nn {f : Int → Int} {W : ST → Int} (hW : ∀ x, 0 ≤ W x) : ∀ {L : List ST} {j : Nat}, (∀ k : Nat, j ≤ k → k < j + L.length → 0 ≤ f k) → 0 ≤ wsum f W j L
  | [], _, _ => Int.le_refl _
  | x :: r, j, h => by
    show 0 ≤ f j * W x + wsum f W (j + 1) r
    have h1 := Int.mul_nonneg (h j (by omega) (by simp)) (hW x)
    have h2 := wsum_nn hW (L := r) (j := j + 1) (f := f) (fun k h1 h2 => h k (by omega) (by simp; omega))
    omega
theorem wsum_le {f : Int → Int} {V W : ST → Int} : ∀ {L : List ST} {j : Nat}, (∀ x, x ∈ L → V x ≤ W x) → (∀ k : Nat, j ≤ k → k < j + L.length → 0 ≤ f k) → wsum f V j L ≤ wsum f W j L
  | [], _, _, _ => Int.le_refl _
  | x :: r, j, hV, h => by
    show f j * V x + wsum f V (j + 1) r ≤ f j * W x + wsum f W (j + 1) r
    have h1 := Int.mul_le_mul_of_nonneg_left (hV x (by simp)) (h j (by omega) (by simp))
    have h2 := wsum_le (f := f) (L := r) (j := j + 1) (fun y hy => hV y (List.mem_cons_of_mem _ hy)) (fun k h1 h2 => h k (by omega) (by simp; omega))
    omega
theorem wsum_k {f : Int → Int} {W : ST → Int} {a : Int} : ∀ {L : List ST} {j : Nat}, wsum f (fun x => a * W x) j L = a * wsum f W j L
  | [], _ => by show (0 : Int) = a * 0; omega
  | x :: r, j => by
    show f j * (a * W x) + wsum f (fun x => a * W x) (j + 1) r = a * (f j * W x + wsum f W (j + 1) r)
    rw [wsum_k, Int.mul_add, ← Int.mul_assoc, ← Int.mul_assoc, Int.mul_comm (f j) a]
theorem wsum_ge {f : Int → Int} {W : ST → Int} {t : Nat} {y : ST} (hW : ∀ x, 0 ≤ W x) : ∀ {L : List ST} {j : Nat}, L[t]? = some y → (∀ k : Nat, j ≤ k → k < j + L.length → 0 ≤ f k) → f ((j + t : Nat) : Int) * W y ≤ wsum f W j L := by
  induction t with
  | zero =>
    intro L j h hf
    match L, h with
    | x :: r, h =>
      cases h
      show f (j : Int) * W y ≤ f j * W y + wsum f W (j + 1) r
      have h2 := wsum_nn hW (L := r) (j := j + 1) (f := f) (fun k h1 h2 => hf k (by omega) (by simp; omega))
      omega
  | succ t ih =>
    intro L j h hf
    match L, h with
    | x :: r, h =>
      have h' : r[t]? = some y := h
      have := ih (j := j + 1) h' (fun k h1 h2 => hf k (by omega) (by simp; omega))
      rw [show j + 1 + t = j + (t + 1) by omega] at this
      show _ ≤ f j * W x + wsum f W (j + 1) r
      have h1 := Int.mul_nonneg (hf j (by omega) (by simp)) (hW x)
      omega
/-- what a weight is behind one hour -/
noncomputable def stW (c : KC) (sky b : Nat) (W : ST → Int) (x : ST) : Nat → Int
  | 0 => 0
  | m + 1 => stW c sky b W x m + (if alwM c sky b x m then W (toM c sky x m) else 0)
theorem stW_le {c : KC} {sky b : Nat} {x : ST} : ∀ {m : Nat}, stW c sky b (fun _ => 1) x m ≤ m
  | 0 => Int.le_refl _
  | m + 1 => by
    have := stW_le (c := c) (sky := sky) (b := b) (x := x) (m := m)
    show stW c sky b (fun _ => 1) x m + (if alwM c sky b x m then (1 : Int) else 0) ≤ _
    split <;> omega
theorem stW_nn {c : KC} {sky b : Nat} {W : ST → Int} {x : ST} (hW : ∀ x, 0 ≤ W x) : ∀ {m : Nat}, 0 ≤ stW c sky b W x m
  | 0 => Int.le_refl _
  | m + 1 => by
    have := stW_nn (c := c) (sky := sky) (b := b) (x := x) hW (m := m)
    show 0 ≤ stW c sky b W x m + _
    have := hW (toM c sky x m)
    split <;> omega
/-- rows of so many hours behind which it isn't down -/
noncomputable def cmpU (c : KC) (sky : Nat) : Nat → ST → Int
  | 0, x => if downB c x then 0 else 1
  | r + 1, x => stW c sky 3 (cmpU c sky r) x 19
theorem cmpU_nn {c : KC} {sky : Nat} : ∀ {r : Nat} (x : ST), 0 ≤ cmpU c sky r x
  | 0, x => by show 0 ≤ (if downB c x then (0 : Int) else 1); split <;> omega
  | r + 1, x => stW_nn (fun y => cmpU_nn y)
def zer (L : List ST) (f : Int → Int) : Prop := ∀ k : Nat, k < L.length → f k = 0
theorem r_beginsMany {h : PH} {i : Nat → Int} {L : List ST} (h25 : i 25 = (L.length : Int)) (hl : L.length ≤ 24000) (A : Nat → Int → Int) :
    ∃ f g : Int → Int, (∀ k : Nat, k < L.length → f k = if k = 0 then 1 else 0) ∧ zer L g ∧ ∀ d Q, WP d 251 0 [some (vr 71), none] [] (mdH h i A) Q = Q none (mdH h i (aup (aup A 83 f) 84 g)) := by
  have lp : ∀ (r k : Nat) (A : Nat → Int → Int), k + r = L.length → (∀ j : Nat, j < k → A 83 j = if j = 0 then 1 else 0) → (∀ j : Nat, j < k → A 84 j = 0) → ∃ f g : Int → Int, (∀ k : Nat, k < L.length → f k = if k = 0 then 1 else 0) ∧ zer L g ∧ ∀ d Q, WP d 251 2 [some (vr 71), some (vi k)] [] (mdH h i A) Q = Q none (mdH h i (aup (aup A 83 f) 84 g)) := by
    intro r
    induction r with
    | zero =>
      intro k A hk h1 h2
      have hk' : k = L.length := by omega
      subst hk'
      refine ⟨A 83, A 84, h1, h2, fun d Q => ?_⟩
      rw [aup_id, aup_id]
      rw [e_251_2]
      simp (disch := omega) only [e_251_3, e_251_4, e_251_7, e_251_38, h25, mdO_c, mdO_g0, mdO_k0, mdO_g1, mdO_k1, mdO_g2, mdO_k2, mdO_g3, mdO_k3, mdO_g4, mdO_k4, mdO_g5, mdO_k5, mdO_g6, mdO_k6, mdO_g7, mdO_k7, mdO_g8, mdO_k8, mdO_g9, mdO_k9, mdO_g10, mdO_k10, mdO_g11, mdO_k11, mdO_g12, mdO_k12, mdO_g13, mdO_k13, mdO_g14, mdO_k14, mdO_g15, mdO_k15, mdO_g16, mdO_k16, mdO_g17, mdO_k17, mdO_g18, mdO_k18, mdO_g19, mdO_k19, mdO_g20, mdO_k20, mdO_g21, mdO_k21, mdO_g22, mdO_k22, mdO_g23, mdO_k23, mdO_g24, mdO_k24, mdO_g25, mdO_k25, mdO_g26, mdO_k26, mdO_g27, mdO_k27, mdO_g28, mdO_k28, mdO_g29, mdO_k29, mdO_g30, mdO_k30, mdO_g31, mdO_k31, mdO_g32, mdO_k32, mdO_g33, mdO_k33, mdO_g34, mdO_k34, mdO_g35, mdO_k35, mdO_s0, mdO_s5, mdO_s6, mdO_s7, mdO_s8, mdO_s9, mdO_s10, mdO_s11, mdO_s12, mdO_s13, mdO_s14, mdO_s15, mdO_s19, mdO_s20, mdO_s25, mdO_s26, mdO_s31, mdO_s32, md_1, md_2, md_g71, md_g72, md_g73, md_g74, md_g75, md_g76, md_g77, md_g78, md_g79, md_g80, md_g81, md_g82, md_g83, md_g84, md_g85, md_g86, md_g87, md_g88, md_g89, md_out, md_u71, md_u72, md_u73, md_u74, md_u75, md_u76, md_u77, md_u78, md_u79, md_u80, md_u81, md_u82, md_u83, md_u84, md_u85, md_u86, md_u87, md_u88, md_u89, md_uo, iup_s, iup_n, aup_s, aup_n, ne_eq, not_false_eq_true, sh_0, sh_1, sh_2, sh_3, sh_4, sh_5, sh_8, sh_15, sh_16, sh_24, Int.reducePow, Int.cast_ofNat_Int, w_of, wl_of, ltT, ltF, leT, leF, eqT, eqF, okF_0, okF_s, gF_0, gF_s, consC_o, sF_0, sF_s, clsO_o, inA_i, ldA_i, stA_i, inJ_l, ldJ_l, stJ_l, inR_r, ldR_r, stR_r, tgR_r, lenA_i, lenA_l, lenA_r, lenA_ex, nl_i, nl_o, nl_l, nl_n, wd_n, wd_i, wd_l, wd_o, fit_i, fit_l, fit_o, K_v, K_n, true_and, and_true, Nat.reduceAdd, Nat.reduceLeDiff, Nat.reduceEqDiff, Nat.reduceMul, Nat.reduceLT, reduceIte, true_or, or_true, cmp_lt, cmp_gt, cmp_eq, wb_0, b_01, cmp_lt', cmp_gt', cmp_eq', b_0, b_1, wb_1, Int.reduceSub, Int.reduceToNat, List.getD_cons_succ, List.getD_cons_zero, Int.reduceLE, Int.reduceLT, Int.reduceEq, Int.reduceNeg, Int.reduceAdd, Int.reduceMul, and_self, em_b, ne_eq, not_false_eq_true, not_true_eq_false]
    | succ r ih =>
      intro k A hk h1 h2
      obtain ⟨f, g, g1, g2, g3⟩ := ih (k + 1) (aup (aup A 83 (fset (A 83) k (if k = 0 then 1 else 0))) 84 (fset (A 84) k 0)) (by omega) (fun j hj => by
        rw [aup_n (by omega), aup_s]
        by_cases q : j = k
        · rw [q, fs_same]
        · rw [fs_ne (by omega)]; exact h1 j (by omega)) (fun j hj => by
        rw [aup_s]
        by_cases q : j = k
        · rw [q, fs_same]
        · rw [fs_ne (by omega)]; exact h2 j (by omega))
      refine ⟨f, g, g1, g2, fun d Q => ?_⟩
      have g3' := g3 d Q
      have e : aup (aup (aup (aup A 83 (fset (A 83) k (if k = 0 then 1 else 0))) 84 (fset (A 84) k 0)) 83 f) 84 g = aup (aup A 83 f) 84 g := by
        funext n
        unfold aup
        by_cases q : n = 84
        · simp [q]
        · by_cases q2 : n = 83 <;> simp [q, q2]
      rw [e] at g3'
      rw [← g3']
      by_cases q : k = 0
      · rw [if_pos q]
        rw [e_251_2]
        simp (disch := omega) only [e_251_3, e_251_4, e_251_7, e_251_10, e_251_11, e_251_14, e_251_15, e_251_16, e_251_19, e_251_20, e_251_23, e_251_24, e_251_25, e_251_26, e_251_29, e_251_30, e_251_31, e_251_32, e_251_35, h25, mdO_c, mdO_g0, mdO_k0, mdO_g1, mdO_k1, mdO_g2, mdO_k2, mdO_g3, mdO_k3, mdO_g4, mdO_k4, mdO_g5, mdO_k5, mdO_g6, mdO_k6, mdO_g7, mdO_k7, mdO_g8, mdO_k8, mdO_g9, mdO_k9, mdO_g10, mdO_k10, mdO_g11, mdO_k11, mdO_g12, mdO_k12, mdO_g13, mdO_k13, mdO_g14, mdO_k14, mdO_g15, mdO_k15, mdO_g16, mdO_k16, mdO_g17, mdO_k17, mdO_g18, mdO_k18, mdO_g19, mdO_k19, mdO_g20, mdO_k20, mdO_g21, mdO_k21, mdO_g22, mdO_k22, mdO_g23, mdO_k23, mdO_g24, mdO_k24, mdO_g25, mdO_k25, mdO_g26, mdO_k26, mdO_g27, mdO_k27, mdO_g28, mdO_k28, mdO_g29, mdO_k29, mdO_g30, mdO_k30, mdO_g31, mdO_k31, mdO_g32, mdO_k32, mdO_g33, mdO_k33, mdO_g34, mdO_k34, mdO_g35, mdO_k35, mdO_s0, mdO_s5, mdO_s6, mdO_s7, mdO_s8, mdO_s9, mdO_s10, mdO_s11, mdO_s12, mdO_s13, mdO_s14, mdO_s15, mdO_s19, mdO_s20, mdO_s25, mdO_s26, mdO_s31, mdO_s32, md_1, md_2, md_g71, md_g72, md_g73, md_g74, md_g75, md_g76, md_g77, md_g78, md_g79, md_g80, md_g81, md_g82, md_g83, md_g84, md_g85, md_g86, md_g87, md_g88, md_g89, md_out, md_u71, md_u72, md_u73, md_u74, md_u75, md_u76, md_u77, md_u78, md_u79, md_u80, md_u81, md_u82, md_u83, md_u84, md_u85, md_u86, md_u87, md_u88, md_u89, md_uo, iup_s, iup_n, aup_s, aup_n, ne_eq, not_false_eq_true, sh_0, sh_1, sh_2, sh_3, sh_4, sh_5, sh_8, sh_15, sh_16, sh_24, Int.reducePow, Int.cast_ofNat_Int, w_of, wl_of, ltT, ltF, leT, leF, eqT, eqF, okF_0, okF_s, gF_0, gF_s, consC_o, sF_0, sF_s, clsO_o, inA_i, ldA_i, stA_i, inJ_l, ldJ_l, stJ_l, inR_r, ldR_r, stR_r, tgR_r, lenA_i, lenA_l, lenA_r, lenA_ex, nl_i, nl_o, nl_l, nl_n, wd_n, wd_i, wd_l, wd_o, fit_i, fit_l, fit_o, K_v, K_n, true_and, and_true, Nat.reduceAdd, Nat.reduceLeDiff, Nat.reduceEqDiff, Nat.reduceMul, Nat.reduceLT, reduceIte, true_or, or_true, cmp_lt, cmp_gt, cmp_eq, wb_0, b_01, cmp_lt', cmp_gt', cmp_eq', b_0, b_1, wb_1, Int.reduceSub, Int.reduceToNat, List.getD_cons_succ, List.getD_cons_zero, Int.reduceLE, Int.reduceLT, Int.reduceEq, Int.reduceNeg, Int.reduceAdd, Int.reduceMul, and_self, em_b, ne_eq, not_false_eq_true, not_true_eq_false]
        try rfl
      · rw [if_neg q]
        rw [e_251_2]
        simp (disch := omega) only [e_251_3, e_251_4, e_251_7, e_251_10, e_251_11, e_251_14, e_251_15, e_251_16, e_251_19, e_251_20, e_251_23, e_251_24, e_251_25, e_251_26, e_251_29, e_251_30, e_251_31, e_251_32, e_251_35, h25, mdO_c, mdO_g0, mdO_k0, mdO_g1, mdO_k1, mdO_g2, mdO_k2, mdO_g3, mdO_k3, mdO_g4, mdO_k4, mdO_g5, mdO_k5, mdO_g6, mdO_k6, mdO_g7, mdO_k7, mdO_g8, mdO_k8, mdO_g9, mdO_k9, mdO_g10, mdO_k10, mdO_g11, mdO_k11, mdO_g12, mdO_k12, mdO_g13, mdO_k13, mdO_g14, mdO_k14, mdO_g15, mdO_k15, mdO_g16, mdO_k16, mdO_g17, mdO_k17, mdO_g18, mdO_k18, mdO_g19, mdO_k19, mdO_g20, mdO_k20, mdO_g21, mdO_k21, mdO_g22, mdO_k22, mdO_g23, mdO_k23, mdO_g24, mdO_k24, mdO_g25, mdO_k25, mdO_g26, mdO_k26, mdO_g27, mdO_k27, mdO_g28, mdO_k28, mdO_g29, mdO_k29, mdO_g30, mdO_k30, mdO_g31, mdO_k31, mdO_g32, mdO_k32, mdO_g33, mdO_k33, mdO_g34, mdO_k34, mdO_g35, mdO_k35, mdO_s0, mdO_s5, mdO_s6, mdO_s7, mdO_s8, mdO_s9, mdO_s10, mdO_s11, mdO_s12, mdO_s13, mdO_s14, mdO_s15, mdO_s19, mdO_s20, mdO_s25, mdO_s26, mdO_s31, mdO_s32, md_1, md_2, md_g71, md_g72, md_g73, md_g74, md_g75, md_g76, md_g77, md_g78, md_g79, md_g80, md_g81, md_g82, md_g83, md_g84, md_g85, md_g86, md_g87, md_g88, md_g89, md_out, md_u71, md_u72, md_u73, md_u74, md_u75, md_u76, md_u77, md_u78, md_u79, md_u80, md_u81, md_u82, md_u83, md_u84, md_u85, md_u86, md_u87, md_u88, md_u89, md_uo, iup_s, iup_n, aup_s, aup_n, ne_eq, not_false_eq_true, sh_0, sh_1, sh_2, sh_3, sh_4, sh_5, sh_8, sh_15, sh_16, sh_24, Int.reducePow, Int.cast_ofNat_Int, w_of, wl_of, ltT, ltF, leT, leF, eqT, eqF, okF_0, okF_s, gF_0, gF_s, consC_o, sF_0, sF_s, clsO_o, inA_i, ldA_i, stA_i, inJ_l, ldJ_l, stJ_l, inR_r, ldR_r, stR_r, tgR_r, lenA_i, lenA_l, lenA_r, lenA_ex, nl_i, nl_o, nl_l, nl_n, wd_n, wd_i, wd_l, wd_o, fit_i, fit_l, fit_o, K_v, K_n, true_and, and_true, Nat.reduceAdd, Nat.reduceLeDiff, Nat.reduceEqDiff, Nat.reduceMul, Nat.reduceLT, reduceIte, true_or, or_true, cmp_lt, cmp_gt, cmp_eq, wb_0, b_01, cmp_lt', cmp_gt', cmp_eq', b_0, b_1, wb_1, Int.reduceSub, Int.reduceToNat, List.getD_cons_succ, List.getD_cons_zero, Int.reduceLE, Int.reduceLT, Int.reduceEq, Int.reduceNeg, Int.reduceAdd, Int.reduceMul, and_self, em_b, ne_eq, not_false_eq_true, not_true_eq_false]
        try rfl
  obtain ⟨f, g, g1, g2, g3⟩ := lp L.length 0 A (by omega) (fun j hj => absurd hj (by omega)) (fun j hj => absurd hj (by omega))
  refine ⟨f, g, g1, g2, fun d Q => ?_⟩
  have g3' := g3 d Q
  rw [nc0] at g3'
  rw [← g3']
  simp (disch := omega) only [e_251_0, e_251_1, mdO_c, mdO_g0, mdO_k0, mdO_g1, mdO_k1, mdO_g2, mdO_k2, mdO_g3, mdO_k3, mdO_g4, mdO_k4, mdO_g5, mdO_k5, mdO_g6, mdO_k6, mdO_g7, mdO_k7, mdO_g8, mdO_k8, mdO_g9, mdO_k9, mdO_g10, mdO_k10, mdO_g11, mdO_k11, mdO_g12, mdO_k12, mdO_g13, mdO_k13, mdO_g14, mdO_k14, mdO_g15, mdO_k15, mdO_g16, mdO_k16, mdO_g17, mdO_k17, mdO_g18, mdO_k18, mdO_g19, mdO_k19, mdO_g20, mdO_k20, mdO_g21, mdO_k21, mdO_g22, mdO_k22, mdO_g23, mdO_k23, mdO_g24, mdO_k24, mdO_g25, mdO_k25, mdO_g26, mdO_k26, mdO_g27, mdO_k27, mdO_g28, mdO_k28, mdO_g29, mdO_k29, mdO_g30, mdO_k30, mdO_g31, mdO_k31, mdO_g32, mdO_k32, mdO_g33, mdO_k33, mdO_g34, mdO_k34, mdO_g35, mdO_k35, mdO_s0, mdO_s5, mdO_s6, mdO_s7, mdO_s8, mdO_s9, mdO_s10, mdO_s11, mdO_s12, mdO_s13, mdO_s14, mdO_s15, mdO_s19, mdO_s20, mdO_s25, mdO_s26, mdO_s31, mdO_s32, md_1, md_2, md_g71, md_g72, md_g73, md_g74, md_g75, md_g76, md_g77, md_g78, md_g79, md_g80, md_g81, md_g82, md_g83, md_g84, md_g85, md_g86, md_g87, md_g88, md_g89, md_out, md_u71, md_u72, md_u73, md_u74, md_u75, md_u76, md_u77, md_u78, md_u79, md_u80, md_u81, md_u82, md_u83, md_u84, md_u85, md_u86, md_u87, md_u88, md_u89, md_uo, iup_s, iup_n, aup_s, aup_n, ne_eq, not_false_eq_true, sh_0, sh_1, sh_2, sh_3, sh_4, sh_5, sh_8, sh_15, sh_16, sh_24, Int.reducePow, Int.cast_ofNat_Int, w_of, wl_of, ltT, ltF, leT, leF, eqT, eqF, okF_0, okF_s, gF_0, gF_s, consC_o, sF_0, sF_s, clsO_o, inA_i, ldA_i, stA_i, inJ_l, ldJ_l, stJ_l, inR_r, ldR_r, stR_r, tgR_r, lenA_i, lenA_l, lenA_r, lenA_ex, nl_i, nl_o, nl_l, nl_n, wd_n, wd_i, wd_l, wd_o, fit_i, fit_l, fit_o, K_v, K_n, true_and, and_true, Nat.reduceAdd, Nat.reduceLeDiff, Nat.reduceEqDiff, Nat.reduceMul, Nat.reduceLT, reduceIte, true_or, or_true, cmp_lt, cmp_gt, cmp_eq, wb_0, b_01, cmp_lt', cmp_gt', cmp_eq', b_0, b_1, wb_1, Int.reduceSub, Int.reduceToNat, List.getD_cons_succ, List.getD_cons_zero, Int.reduceLE, Int.reduceLT, Int.reduceEq, Int.reduceNeg, Int.reduceAdd, Int.reduceMul, and_self, em_b, ne_eq, not_false_eq_true, not_true_eq_false]
theorem r_isThen {h : PH} {i : Nat → Int} {L : List ST} (h25 : i 25 = (L.length : Int)) (hl : L.length ≤ 24000) (A : Nat → Int → Int) :
    ∃ f g : Int → Int, (∀ k : Nat, k < L.length → f k = A 84 k) ∧ zer L g ∧ ∀ d Q, WP d 252 0 [some (vr 71), none] [] (mdH h i A) Q = Q none (mdH h i (aup (aup A 83 f) 84 g)) := by
  have lp : ∀ (r k : Nat) (B : Nat → Int → Int), k + r = L.length → (∀ j : Nat, j < k → B 83 j = A 84 j) → (∀ j : Nat, j < k → B 84 j = 0) → (∀ j : Nat, k ≤ j → B 84 j = A 84 j) → ∃ f g : Int → Int, (∀ k : Nat, k < L.length → f k = A 84 k) ∧ zer L g ∧ ∀ d Q, WP d 252 2 [some (vr 71), some (vi k)] [] (mdH h i B) Q = Q none (mdH h i (aup (aup B 83 f) 84 g)) := by
    intro r
    induction r with
    | zero =>
      intro k B hk h1 h2 h3
      have hk' : k = L.length := by omega
      subst hk'
      refine ⟨B 83, B 84, h1, h2, fun d Q => ?_⟩
      rw [aup_id, aup_id]
      rw [e_252_2]
      simp (disch := omega) only [e_252_3, e_252_4, e_252_7, e_252_35, h25, mdO_c, mdO_g0, mdO_k0, mdO_g1, mdO_k1, mdO_g2, mdO_k2, mdO_g3, mdO_k3, mdO_g4, mdO_k4, mdO_g5, mdO_k5, mdO_g6, mdO_k6, mdO_g7, mdO_k7, mdO_g8, mdO_k8, mdO_g9, mdO_k9, mdO_g10, mdO_k10, mdO_g11, mdO_k11, mdO_g12, mdO_k12, mdO_g13, mdO_k13, mdO_g14, mdO_k14, mdO_g15, mdO_k15, mdO_g16, mdO_k16, mdO_g17, mdO_k17, mdO_g18, mdO_k18, mdO_g19, mdO_k19, mdO_g20, mdO_k20, mdO_g21, mdO_k21, mdO_g22, mdO_k22, mdO_g23, mdO_k23, mdO_g24, mdO_k24, mdO_g25, mdO_k25, mdO_g26, mdO_k26, mdO_g27, mdO_k27, mdO_g28, mdO_k28, mdO_g29, mdO_k29, mdO_g30, mdO_k30, mdO_g31, mdO_k31, mdO_g32, mdO_k32, mdO_g33, mdO_k33, mdO_g34, mdO_k34, mdO_g35, mdO_k35, mdO_s0, mdO_s5, mdO_s6, mdO_s7, mdO_s8, mdO_s9, mdO_s10, mdO_s11, mdO_s12, mdO_s13, mdO_s14, mdO_s15, mdO_s19, mdO_s20, mdO_s25, mdO_s26, mdO_s31, mdO_s32, md_1, md_2, md_g71, md_g72, md_g73, md_g74, md_g75, md_g76, md_g77, md_g78, md_g79, md_g80, md_g81, md_g82, md_g83, md_g84, md_g85, md_g86, md_g87, md_g88, md_g89, md_out, md_u71, md_u72, md_u73, md_u74, md_u75, md_u76, md_u77, md_u78, md_u79, md_u80, md_u81, md_u82, md_u83, md_u84, md_u85, md_u86, md_u87, md_u88, md_u89, md_uo, iup_s, iup_n, aup_s, aup_n, ne_eq, not_false_eq_true, sh_0, sh_1, sh_2, sh_3, sh_4, sh_5, sh_8, sh_15, sh_16, sh_24, Int.reducePow, Int.cast_ofNat_Int, w_of, wl_of, ltT, ltF, leT, leF, eqT, eqF, okF_0, okF_s, gF_0, gF_s, consC_o, sF_0, sF_s, clsO_o, inA_i, ldA_i, stA_i, inJ_l, ldJ_l, stJ_l, inR_r, ldR_r, stR_r, tgR_r, lenA_i, lenA_l, lenA_r, lenA_ex, nl_i, nl_o, nl_l, nl_n, wd_n, wd_i, wd_l, wd_o, fit_i, fit_l, fit_o, K_v, K_n, true_and, and_true, Nat.reduceAdd, Nat.reduceLeDiff, Nat.reduceEqDiff, Nat.reduceMul, Nat.reduceLT, reduceIte, true_or, or_true, cmp_lt, cmp_gt, cmp_eq, wb_0, b_01, cmp_lt', cmp_gt', cmp_eq', b_0, b_1, wb_1, Int.reduceSub, Int.reduceToNat, List.getD_cons_succ, List.getD_cons_zero, Int.reduceLE, Int.reduceLT, Int.reduceEq, Int.reduceNeg, Int.reduceAdd, Int.reduceMul, and_self, em_b, ne_eq, not_false_eq_true, not_true_eq_false]
    | succ r ih =>
      intro k B hk h1 h2 h3
      obtain ⟨f, g, g1, g2, g3⟩ := ih (k + 1) (aup (aup B 83 (fset (B 83) k (B 84 k))) 84 (fset (B 84) k 0)) (by omega) (fun j hj => by
        rw [aup_n (by omega), aup_s]
        by_cases q : j = k
        · rw [q, fs_same]; exact h3 k (by omega)
        · rw [fs_ne (by omega)]; exact h1 j (by omega)) (fun j hj => by
        rw [aup_s]
        by_cases q : j = k
        · rw [q, fs_same]
        · rw [fs_ne (by omega)]; exact h2 j (by omega)) (fun j hj => by
        rw [aup_s, fs_ne (by omega)]; exact h3 j (by omega))
      refine ⟨f, g, g1, g2, fun d Q => ?_⟩
      have g3' := g3 d Q
      have e : aup (aup (aup (aup B 83 (fset (B 83) k (B 84 k))) 84 (fset (B 84) k 0)) 83 f) 84 g = aup (aup B 83 f) 84 g := by
        funext n
        unfold aup
        by_cases q : n = 84
        · simp [q]
        · by_cases q2 : n = 83 <;> simp [q, q2]
      rw [e] at g3'
      rw [← g3']
      rw [e_252_2]
      simp (disch := omega) only [e_252_3, e_252_4, e_252_7, e_252_10, e_252_11, e_252_14, e_252_15, e_252_16, e_252_19, e_252_20, e_252_21, e_252_22, e_252_23, e_252_26, e_252_27, e_252_28, e_252_29, e_252_32, h25, mdO_c, mdO_g0, mdO_k0, mdO_g1, mdO_k1, mdO_g2, mdO_k2, mdO_g3, mdO_k3, mdO_g4, mdO_k4, mdO_g5, mdO_k5, mdO_g6, mdO_k6, mdO_g7, mdO_k7, mdO_g8, mdO_k8, mdO_g9, mdO_k9, mdO_g10, mdO_k10, mdO_g11, mdO_k11, mdO_g12, mdO_k12, mdO_g13, mdO_k13, mdO_g14, mdO_k14, mdO_g15, mdO_k15, mdO_g16, mdO_k16, mdO_g17, mdO_k17, mdO_g18, mdO_k18, mdO_g19, mdO_k19, mdO_g20, mdO_k20, mdO_g21, mdO_k21, mdO_g22, mdO_k22, mdO_g23, mdO_k23, mdO_g24, mdO_k24, mdO_g25, mdO_k25, mdO_g26, mdO_k26, mdO_g27, mdO_k27, mdO_g28, mdO_k28, mdO_g29, mdO_k29, mdO_g30, mdO_k30, mdO_g31, mdO_k31, mdO_g32, mdO_k32, mdO_g33, mdO_k33, mdO_g34, mdO_k34, mdO_g35, mdO_k35, mdO_s0, mdO_s5, mdO_s6, mdO_s7, mdO_s8, mdO_s9, mdO_s10, mdO_s11, mdO_s12, mdO_s13, mdO_s14, mdO_s15, mdO_s19, mdO_s20, mdO_s25, mdO_s26, mdO_s31, mdO_s32, md_1, md_2, md_g71, md_g72, md_g73, md_g74, md_g75, md_g76, md_g77, md_g78, md_g79, md_g80, md_g81, md_g82, md_g83, md_g84, md_g85, md_g86, md_g87, md_g88, md_g89, md_out, md_u71, md_u72, md_u73, md_u74, md_u75, md_u76, md_u77, md_u78, md_u79, md_u80, md_u81, md_u82, md_u83, md_u84, md_u85, md_u86, md_u87, md_u88, md_u89, md_uo, iup_s, iup_n, aup_s, aup_n, ne_eq, not_false_eq_true, sh_0, sh_1, sh_2, sh_3, sh_4, sh_5, sh_8, sh_15, sh_16, sh_24, Int.reducePow, Int.cast_ofNat_Int, w_of, wl_of, ltT, ltF, leT, leF, eqT, eqF, okF_0, okF_s, gF_0, gF_s, consC_o, sF_0, sF_s, clsO_o, inA_i, ldA_i, stA_i, inJ_l, ldJ_l, stJ_l, inR_r, ldR_r, stR_r, tgR_r, lenA_i, lenA_l, lenA_r, lenA_ex, nl_i, nl_o, nl_l, nl_n, wd_n, wd_i, wd_l, wd_o, fit_i, fit_l, fit_o, K_v, K_n, true_and, and_true, Nat.reduceAdd, Nat.reduceLeDiff, Nat.reduceEqDiff, Nat.reduceMul, Nat.reduceLT, reduceIte, true_or, or_true, cmp_lt, cmp_gt, cmp_eq, wb_0, b_01, cmp_lt', cmp_gt', cmp_eq', b_0, b_1, wb_1, Int.reduceSub, Int.reduceToNat, List.getD_cons_succ, List.getD_cons_zero, Int.reduceLE, Int.reduceLT, Int.reduceEq, Int.reduceNeg, Int.reduceAdd, Int.reduceMul, and_self, em_b, ne_eq, not_false_eq_true, not_true_eq_false]
      try rfl
  obtain ⟨f, g, g1, g2, g3⟩ := lp L.length 0 A (by omega) (fun j hj => absurd hj (by omega)) (fun j hj => absurd hj (by omega)) (fun j _ => rfl)
  refine ⟨f, g, g1, g2, fun d Q => ?_⟩
  have g3' := g3 d Q
  rw [nc0] at g3'
  rw [← g3']
  simp (disch := omega) only [e_252_0, e_252_1, mdO_c, mdO_g0, mdO_k0, mdO_g1, mdO_k1, mdO_g2, mdO_k2, mdO_g3, mdO_k3, mdO_g4, mdO_k4, mdO_g5, mdO_k5, mdO_g6, mdO_k6, mdO_g7, mdO_k7, mdO_g8, mdO_k8, mdO_g9, mdO_k9, mdO_g10, mdO_k10, mdO_g11, mdO_k11, mdO_g12, mdO_k12, mdO_g13, mdO_k13, mdO_g14, mdO_k14, mdO_g15, mdO_k15, mdO_g16, mdO_k16, mdO_g17, mdO_k17, mdO_g18, mdO_k18, mdO_g19, mdO_k19, mdO_g20, mdO_k20, mdO_g21, mdO_k21, mdO_g22, mdO_k22, mdO_g23, mdO_k23, mdO_g24, mdO_k24, mdO_g25, mdO_k25, mdO_g26, mdO_k26, mdO_g27, mdO_k27, mdO_g28, mdO_k28, mdO_g29, mdO_k29, mdO_g30, mdO_k30, mdO_g31, mdO_k31, mdO_g32, mdO_k32, mdO_g33, mdO_k33, mdO_g34, mdO_k34, mdO_g35, mdO_k35, mdO_s0, mdO_s5, mdO_s6, mdO_s7, mdO_s8, mdO_s9, mdO_s10, mdO_s11, mdO_s12, mdO_s13, mdO_s14, mdO_s15, mdO_s19, mdO_s20, mdO_s25, mdO_s26, mdO_s31, mdO_s32, md_1, md_2, md_g71, md_g72, md_g73, md_g74, md_g75, md_g76, md_g77, md_g78, md_g79, md_g80, md_g81, md_g82, md_g83, md_g84, md_g85, md_g86, md_g87, md_g88, md_g89, md_out, md_u71, md_u72, md_u73, md_u74, md_u75, md_u76, md_u77, md_u78, md_u79, md_u80, md_u81, md_u82, md_u83, md_u84, md_u85, md_u86, md_u87, md_u88, md_u89, md_uo, iup_s, iup_n, aup_s, aup_n, ne_eq, not_false_eq_true, sh_0, sh_1, sh_2, sh_3, sh_4, sh_5, sh_8, sh_15, sh_16, sh_24, Int.reducePow, Int.cast_ofNat_Int, w_of, wl_of, ltT, ltF, leT, leF, eqT, eqF, okF_0, okF_s, gF_0, gF_s, consC_o, sF_0, sF_s, clsO_o, inA_i, ldA_i, stA_i, inJ_l, ldJ_l, stJ_l, inR_r, ldR_r, stR_r, tgR_r, lenA_i, lenA_l, lenA_r, lenA_ex, nl_i, nl_o, nl_l, nl_n, wd_n, wd_i, wd_l, wd_o, fit_i, fit_l, fit_o, K_v, K_n, true_and, and_true, Nat.reduceAdd, Nat.reduceLeDiff, Nat.reduceEqDiff, Nat.reduceMul, Nat.reduceLT, reduceIte, true_or, or_true, cmp_lt, cmp_gt, cmp_eq, wb_0, b_01, cmp_lt', cmp_gt', cmp_eq', b_0, b_1, wb_1, Int.reduceSub, Int.reduceToNat, List.getD_cons_succ, List.getD_cons_zero, Int.reduceLE, Int.reduceLT, Int.reduceEq, Int.reduceNeg, Int.reduceAdd, Int.reduceMul, and_self, em_b, ne_eq, not_false_eq_true, not_true_eq_false]
/-- one hour for one stand -/
theorem r_rowsM {h : PH} {c : KC} {sky k : Nat} {s x : ST} {L : List ST} {i : Nat → Int} {a : Int} {l1 l2 : Int} (hO : okC c) (hx : L[k]? = some x) (ha : 0 < a) (ha2 : a < 9223372036854775808) :
    ∀ (r m : Nat) (A : Nat → Int → Int), m + r = 19 → laidR c sky 3 false s L i A → A 83 k = a → ∃ g : Int → Int, (∀ W, wsum g W 0 L = wsum (A 84) W 0 L + a * (stW c sky 3 W x 19 - stW c sky 3 W x m)) ∧ ((∀ k : Nat, k < L.length → 0 ≤ A 84 k) → ∀ k : Nat, k < L.length → 0 ≤ g k) ∧ ∀ d Q, WP d 253 62 [some (vr 71), some (vi l1), some (vi l2), some (vi k), some (vi m)] [] (mdH h i A) Q = WP d 253 51 [some (vr 71), some (vi l1), some (vi l2), some (vi ((k + 1 : Nat) : Int)), some (vi 19)] [] (mdH h i (aup A 84 g)) Q := by
  have hK := hO.1
  have hkl := (List.getElem?_eq_some_iff.mp hx).1
  intro r
  induction r with
  | zero =>
    intro m A hm hL h83
    have hm' : m = 19 := by omega
    subst hm'
    refine ⟨A 84, fun W => by rw [Int.sub_self]; omega, fun z => z, fun d Q => ?_⟩
    rw [aup_id]
    rw [e_253_62]
    simp (disch := omega) only [e_253_64, e_253_66, e_253_128, e_253_131, mdO_c, mdO_g0, mdO_k0, mdO_g1, mdO_k1, mdO_g2, mdO_k2, mdO_g3, mdO_k3, mdO_g4, mdO_k4, mdO_g5, mdO_k5, mdO_g6, mdO_k6, mdO_g7, mdO_k7, mdO_g8, mdO_k8, mdO_g9, mdO_k9, mdO_g10, mdO_k10, mdO_g11, mdO_k11, mdO_g12, mdO_k12, mdO_g13, mdO_k13, mdO_g14, mdO_k14, mdO_g15, mdO_k15, mdO_g16, mdO_k16, mdO_g17, mdO_k17, mdO_g18, mdO_k18, mdO_g19, mdO_k19, mdO_g20, mdO_k20, mdO_g21, mdO_k21, mdO_g22, mdO_k22, mdO_g23, mdO_k23, mdO_g24, mdO_k24, mdO_g25, mdO_k25, mdO_g26, mdO_k26, mdO_g27, mdO_k27, mdO_g28, mdO_k28, mdO_g29, mdO_k29, mdO_g30, mdO_k30, mdO_g31, mdO_k31, mdO_g32, mdO_k32, mdO_g33, mdO_k33, mdO_g34, mdO_k34, mdO_g35, mdO_k35, mdO_s0, mdO_s5, mdO_s6, mdO_s7, mdO_s8, mdO_s9, mdO_s10, mdO_s11, mdO_s12, mdO_s13, mdO_s14, mdO_s15, mdO_s19, mdO_s20, mdO_s25, mdO_s26, mdO_s31, mdO_s32, md_1, md_2, md_g71, md_g72, md_g73, md_g74, md_g75, md_g76, md_g77, md_g78, md_g79, md_g80, md_g81, md_g82, md_g83, md_g84, md_g85, md_g86, md_g87, md_g88, md_g89, md_out, md_u71, md_u72, md_u73, md_u74, md_u75, md_u76, md_u77, md_u78, md_u79, md_u80, md_u81, md_u82, md_u83, md_u84, md_u85, md_u86, md_u87, md_u88, md_u89, md_uo, iup_s, iup_n, aup_s, aup_n, ne_eq, not_false_eq_true, sh_0, sh_1, sh_2, sh_3, sh_4, sh_5, sh_8, sh_15, sh_16, sh_24, Int.reducePow, Int.cast_ofNat_Int, w_of, wl_of, ltT, ltF, leT, leF, eqT, eqF, okF_0, okF_s, gF_0, gF_s, consC_o, sF_0, sF_s, clsO_o, inA_i, ldA_i, stA_i, inJ_l, ldJ_l, stJ_l, inR_r, ldR_r, stR_r, tgR_r, lenA_i, lenA_l, lenA_r, lenA_ex, nl_i, nl_o, nl_l, nl_n, wd_n, wd_i, wd_l, wd_o, fit_i, fit_l, fit_o, K_v, K_n, true_and, and_true, Nat.reduceAdd, Nat.reduceLeDiff, Nat.reduceEqDiff, Nat.reduceMul, Nat.reduceLT, reduceIte, true_or, or_true, cmp_lt, cmp_gt, cmp_eq, wb_0, b_01, cmp_lt', cmp_gt', cmp_eq', b_0, b_1, wb_1, Int.reduceSub, Int.reduceToNat, List.getD_cons_succ, List.getD_cons_zero, Int.reduceLE, Int.reduceLT, Int.reduceEq, Int.reduceNeg, Int.reduceAdd, Int.reduceMul, and_self, em_b, ne_eq, not_false_eq_true, not_true_eq_false]
    try rfl
  | succ r ih =>
    intro m A hm hL h83
    have hlen := stkR_len hK hL.1
    have e1 : (19 : Int) * (k : Int) + (m : Int) = ((19 * k + m : Nat) : Int) := by omega
    rcases hL.2.2.1 k m hkl (by omega) x hx with ⟨hal, t, h80, ht, -⟩ | ⟨hal, h80⟩
    · have htl := (List.getElem?_eq_some_iff.mp ht).1
      obtain ⟨g, g1, g2, g3⟩ := ih (m + 1) (aup A 84 (fset (A 84) t (A 84 t + a))) (by omega) (laidR_x hL rfl (aup_n (by omega)) (aup_n (by omega)) (aup_n (by omega))) (by rw [aup_n (by omega)]; exact h83)
      rw [aup_s] at g1 g2
      refine ⟨g, fun W => ?_, fun z => g2 (fun j hj => ?_), fun d Q => ?_⟩
      · have hs := wsum_add (f := A 84) (W := W) (a := a) (j := 0) ht
        rw [Nat.zero_add] at hs
        have hst : stW c sky 3 W x (m + 1) = stW c sky 3 W x m + W (toM c sky x m) := by
          show stW c sky 3 W x m + (if alwM c sky 3 x m then _ else 0) = _
          rw [if_pos hal]
        rw [g1 W, hs, hst, Int.mul_sub, Int.mul_sub, Int.mul_add]
        omega
      · by_cases q : j = t
        · rw [q, fs_same]; have := z t htl; omega
        · rw [fs_ne (by omega)]; exact z j hj
      · have g3' := g3 d Q
        rw [aup_aup] at g3'
        rw [← g3']
        rw [e_253_62]
        simp (disch := omega) only [e_253_64, e_253_66, e_253_69, e_253_70, e_253_73, e_253_74, e_253_75, e_253_76, e_253_77, e_253_80, e_253_81, e_253_84, e_253_86, e_253_87, e_253_88, e_253_90, e_253_91, e_253_92, e_253_93, e_253_96, e_253_97, e_253_100, e_253_101, e_253_104, e_253_106, e_253_107, e_253_108, e_253_110, e_253_111, e_253_112, e_253_113, e_253_114, e_253_115, e_253_118, e_253_119, e_253_120, e_253_121, e_253_122, e_253_125, e1, h80, h83, mdO_c, mdO_g0, mdO_k0, mdO_g1, mdO_k1, mdO_g2, mdO_k2, mdO_g3, mdO_k3, mdO_g4, mdO_k4, mdO_g5, mdO_k5, mdO_g6, mdO_k6, mdO_g7, mdO_k7, mdO_g8, mdO_k8, mdO_g9, mdO_k9, mdO_g10, mdO_k10, mdO_g11, mdO_k11, mdO_g12, mdO_k12, mdO_g13, mdO_k13, mdO_g14, mdO_k14, mdO_g15, mdO_k15, mdO_g16, mdO_k16, mdO_g17, mdO_k17, mdO_g18, mdO_k18, mdO_g19, mdO_k19, mdO_g20, mdO_k20, mdO_g21, mdO_k21, mdO_g22, mdO_k22, mdO_g23, mdO_k23, mdO_g24, mdO_k24, mdO_g25, mdO_k25, mdO_g26, mdO_k26, mdO_g27, mdO_k27, mdO_g28, mdO_k28, mdO_g29, mdO_k29, mdO_g30, mdO_k30, mdO_g31, mdO_k31, mdO_g32, mdO_k32, mdO_g33, mdO_k33, mdO_g34, mdO_k34, mdO_g35, mdO_k35, mdO_s0, mdO_s5, mdO_s6, mdO_s7, mdO_s8, mdO_s9, mdO_s10, mdO_s11, mdO_s12, mdO_s13, mdO_s14, mdO_s15, mdO_s19, mdO_s20, mdO_s25, mdO_s26, mdO_s31, mdO_s32, md_1, md_2, md_g71, md_g72, md_g73, md_g74, md_g75, md_g76, md_g77, md_g78, md_g79, md_g80, md_g81, md_g82, md_g83, md_g84, md_g85, md_g86, md_g87, md_g88, md_g89, md_out, md_u71, md_u72, md_u73, md_u74, md_u75, md_u76, md_u77, md_u78, md_u79, md_u80, md_u81, md_u82, md_u83, md_u84, md_u85, md_u86, md_u87, md_u88, md_u89, md_uo, iup_s, iup_n, aup_s, aup_n, ne_eq, not_false_eq_true, sh_0, sh_1, sh_2, sh_3, sh_4, sh_5, sh_8, sh_15, sh_16, sh_24, Int.reducePow, Int.cast_ofNat_Int, w_of, wl_of, ltT, ltF, leT, leF, eqT, eqF, okF_0, okF_s, gF_0, gF_s, consC_o, sF_0, sF_s, clsO_o, inA_i, ldA_i, stA_i, inJ_l, ldJ_l, stJ_l, inR_r, ldR_r, stR_r, tgR_r, lenA_i, lenA_l, lenA_r, lenA_ex, nl_i, nl_o, nl_l, nl_n, wd_n, wd_i, wd_l, wd_o, fit_i, fit_l, fit_o, K_v, K_n, true_and, and_true, Nat.reduceAdd, Nat.reduceLeDiff, Nat.reduceEqDiff, Nat.reduceMul, Nat.reduceLT, reduceIte, true_or, or_true, cmp_lt, cmp_gt, cmp_eq, wb_0, b_01, cmp_lt', cmp_gt', cmp_eq', b_0, b_1, wb_1, Int.reduceSub, Int.reduceToNat, List.getD_cons_succ, List.getD_cons_zero, Int.reduceLE, Int.reduceLT, Int.reduceEq, Int.reduceNeg, Int.reduceAdd, Int.reduceMul, and_self, em_b, ne_eq, not_false_eq_true, not_true_eq_false]
        try rfl
    · obtain ⟨g, g1, g2, g3⟩ := ih (m + 1) A (by omega) hL h83
      refine ⟨g, fun W => ?_, g2, fun d Q => ?_⟩
      · have hst : stW c sky 3 W x (m + 1) = stW c sky 3 W x m := by
          show stW c sky 3 W x m + (if alwM c sky 3 x m then _ else 0) = _
          rw [hal]; simp
        rw [g1 W, hst]
      · rw [← g3 d Q]
        rw [e_253_62]
        simp (disch := omega) only [e_253_64, e_253_66, e_253_69, e_253_70, e_253_73, e_253_74, e_253_75, e_253_76, e_253_77, e_253_80, e_253_81, e_253_84, e_253_86, e_253_87, e_253_88, e_253_90, e_253_91, e_253_92, e_253_93, e_253_96, e_253_97, e_253_100, e_253_101, e_253_104, e_253_106, e_253_107, e_253_108, e_253_110, e_253_111, e_253_112, e_253_113, e_253_114, e_253_115, e_253_118, e_253_119, e_253_120, e_253_121, e_253_122, e_253_125, e1, h80, h83, mdO_c, mdO_g0, mdO_k0, mdO_g1, mdO_k1, mdO_g2, mdO_k2, mdO_g3, mdO_k3, mdO_g4, mdO_k4, mdO_g5, mdO_k5, mdO_g6, mdO_k6, mdO_g7, mdO_k7, mdO_g8, mdO_k8, mdO_g9, mdO_k9, mdO_g10, mdO_k10, mdO_g11, mdO_k11, mdO_g12, mdO_k12, mdO_g13, mdO_k13, mdO_g14, mdO_k14, mdO_g15, mdO_k15, mdO_g16, mdO_k16, mdO_g17, mdO_k17, mdO_g18, mdO_k18, mdO_g19, mdO_k19, mdO_g20, mdO_k20, mdO_g21, mdO_k21, mdO_g22, mdO_k22, mdO_g23, mdO_k23, mdO_g24, mdO_k24, mdO_g25, mdO_k25, mdO_g26, mdO_k26, mdO_g27, mdO_k27, mdO_g28, mdO_k28, mdO_g29, mdO_k29, mdO_g30, mdO_k30, mdO_g31, mdO_k31, mdO_g32, mdO_k32, mdO_g33, mdO_k33, mdO_g34, mdO_k34, mdO_g35, mdO_k35, mdO_s0, mdO_s5, mdO_s6, mdO_s7, mdO_s8, mdO_s9, mdO_s10, mdO_s11, mdO_s12, mdO_s13, mdO_s14, mdO_s15, mdO_s19, mdO_s20, mdO_s25, mdO_s26, mdO_s31, mdO_s32, md_1, md_2, md_g71, md_g72, md_g73, md_g74, md_g75, md_g76, md_g77, md_g78, md_g79, md_g80, md_g81, md_g82, md_g83, md_g84, md_g85, md_g86, md_g87, md_g88, md_g89, md_out, md_u71, md_u72, md_u73, md_u74, md_u75, md_u76, md_u77, md_u78, md_u79, md_u80, md_u81, md_u82, md_u83, md_u84, md_u85, md_u86, md_u87, md_u88, md_u89, md_uo, iup_s, iup_n, aup_s, aup_n, ne_eq, not_false_eq_true, sh_0, sh_1, sh_2, sh_3, sh_4, sh_5, sh_8, sh_15, sh_16, sh_24, Int.reducePow, Int.cast_ofNat_Int, w_of, wl_of, ltT, ltF, leT, leF, eqT, eqF, okF_0, okF_s, gF_0, gF_s, consC_o, sF_0, sF_s, clsO_o, inA_i, ldA_i, stA_i, inJ_l, ldJ_l, stJ_l, inR_r, ldR_r, stR_r, tgR_r, lenA_i, lenA_l, lenA_r, lenA_ex, nl_i, nl_o, nl_l, nl_n, wd_n, wd_i, wd_l, wd_o, fit_i, fit_l, fit_o, K_v, K_n, true_and, and_true, Nat.reduceAdd, Nat.reduceLeDiff, Nat.reduceEqDiff, Nat.reduceMul, Nat.reduceLT, reduceIte, true_or, or_true, cmp_lt, cmp_gt, cmp_eq, wb_0, b_01, cmp_lt', cmp_gt', cmp_eq', b_0, b_1, wb_1, Int.reduceSub, Int.reduceToNat, List.getD_cons_succ, List.getD_cons_zero, Int.reduceLE, Int.reduceLT, Int.reduceEq, Int.reduceNeg, Int.reduceAdd, Int.reduceMul, and_self, em_b, ne_eq, not_false_eq_true, not_true_eq_false]
        try rfl
