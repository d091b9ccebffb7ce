/-! THE CLASS: Rows, what is told; marks in two bits -/
theorem Ro_any {ow : Nat → Nat} {h : PH} {n nn : Nat} {lw : List Int} (hF : owF ow h) (hV : RowV ow h n lw) (hnn : nn ≤ 8) :
    ∃ h' : PH, chg ow [5, 18] h h' ∧ RowV ow h' n (List.replicate nn (-1)) ∧ ∀ d Q, WP (d + 1) 78 0 [some (vr 45), some (vi nn)] [] h Q = Q none h' := by
  have h90 := hF.1
  obtain ⟨i, kA, sA, f, g, fw, v1, v2, v3, v3', v4, v5, v6, v7, v8, v9, v10, v11, v12, v13, v14, v15, v16⟩ := hV
  have t45 : ow 45 = 5 := hF.2 45 (by omega)
  have t48 : ow 48 = 18 := hF.2 48 (by omega)
  have k48 : kA ≠ 48 := fun z => by rw [z, t48] at v9; omega
  have s48 : sA ≠ 48 := fun z => by rw [z, t48] at v10; omega
  have hch : chg ow [5, 18] h (hup (hup h 45 (rwO (iup i 4 nn) (vr kA) (vr sA))) 48 (aI 0 8 (fillF fw 0 8 (-1)))) := chg_t (chg_up t45 (by decide)) (chg_up t48 (by decide))
  have ll : (List.replicate nn (-1 : Int)).length = nn := List.length_replicate
  refine ⟨_, hch, ⟨iup i 4 nn, kA, sA, f, g, fillF fw 0 8 (-1), by rw [hp_upn (by omega), hp_up1], hp_up1, by rw [ll]; exact iup_s, by rw [ll]; exact hnn, fun k hk => ?_, by rw [hp_upn k48, hp_upn (by omega)]; exact v5, by rw [hp_upn s48, hp_upn (by omega)]; exact v6, v7, v8, v9, v10, v11, v12, v13, v14, v15, v16⟩, fun d Q => ?_⟩
  · rw [ll] at hk
    unfold fillF
    rw [if_pos (by omega), List.getD_eq_getElem?_getD, List.getElem?_replicate, if_pos hk]
    rfl
  · have fl := j_fillAll (r := 48) (n := 8) (v := -1) (by omega) (by omega) 8 0 (hup h 45 (rwO (iup i 4 nn) (vr kA) (vr sA))) fw (by omega) (by rw [hp_upn (by omega), nc0, fill_0]; exact v2)
    rw [nc0] at fl
    have e : (if (8 : Int) < (nn : Int) then (8 : Int) else (nn : Int)) = (nn : Int) := if_neg (by omega)
    have e2 : (if (nn : Int) < 8 then (nn : Int) else (8 : Int)) = (nn : Int) := by split <;> omega
    have e8 : ((8 : Nat) : Int) = 8 := rfl
    rw [e8] at fl
    simp (disch := omega) only [e_78_0, e_78_1, e_78_2, e_78_4, e_78_7, e_78_10, e_78_11, e_78_14, e_78_15, e_78_18, e_325_0, e_325_1, e_325_2, e_325_3, e_325_4, v1, v2, m_min, e, e2, e8, fl, true_and, rwO_c, rwO_g0, rwO_k0, rwO_g1, rwO_k1, rwO_s1, rwO_g2, rwO_k2, rwO_s2, rwO_g3, rwO_k3, rwO_g4, rwO_k4, rwO_s4, rwO_g5, rwO_k5, rwO_g6, rwO_k6, dkO_c, dkO_g0, dkO_k0, dkO_s0, dkO_g1, dkO_k1, dkO_s1, dkO_g2, dkO_k2, dkO_s2, hoO_c, hoO_g0, hoO_k0, hoO_s0, hoO_g1, hoO_k1, hoO_s1, hoO_g2, hoO_k2, hoO_s2, hoO_g3, hoO_k3, hoO_g4, hoO_k4, hoO_g5, hoO_k5, hoO_g6, hoO_k6, hoO_g7, hoO_k7, hoO_g8, hoO_k8, hoO_g9, hoO_k9, hoO_s9, iup_s, iup_n, hp_up1, hp_upn, ne_eq, not_false_eq_true, sh_0, sh_1, sh_2, sh_3, sh_4, sh_5, sh_8, sh_15, sh_16, sh_24, Int.reducePow, Int.cast_ofNat_Int, w_of, wl_of, ltT, ltF, leT, leF, eqT, eqF, okF_0, okF_s, gF_0, gF_s, consC_o, sF_0, sF_s, clsO_o, inA_i, ldA_i, stA_i, inJ_l, ldJ_l, stJ_l, inR_r, ldR_r, stR_r, tgR_r, lenA_i, lenA_l, lenA_r, lenA_ex, nl_i, nl_o, nl_l, nl_n, wd_n, wd_i, wd_l, wd_o, fit_i, fit_l, fit_o, K_v, K_n, true_and, and_true, Nat.reduceAdd, Nat.reduceLeDiff, Nat.reduceEqDiff, Nat.reduceMul, Nat.reduceLT, reduceIte, true_or, or_true, cmp_lt, cmp_gt, cmp_eq, wb_0, b_01, cmp_lt', cmp_gt', cmp_eq', b_0, b_1, wb_1, Int.reduceSub, Int.reduceToNat, List.getD_cons_succ, List.getD_cons_zero, Int.reduceLE, Int.reduceLT, Int.reduceEq, Int.reduceNeg, Int.reduceAdd, Int.reduceMul, and_self, em_b, ne_eq, not_false_eq_true, not_true_eq_false]
    try rfl
theorem Ro_expect {ow : Nat → Nat} {h : PH} {n j : Nat} {lw : List Int} {v : Int} (hF : owF ow h) (hV : RowV ow h n lw) (hj : j < lw.length) :
    ∃ h' : PH, chg ow [18] h h' ∧ RowV ow h' n (lw.set j v) ∧ ∀ d Q, WP d 79 0 [some (vr 45), some (vi j), some (vi v)] [] h Q = Q none h' := by
  have h90 := hF.1
  obtain ⟨i, kA, sA, f, g, fw, v1, v2, v3, v3', v4, v5, v6, v7, v8, v9, v10, v11, v12, v13, v14, v15, v16⟩ := hV
  have t48 : ow 48 = 18 := hF.2 48 (by omega)
  have k48 : kA ≠ 48 := fun z => by rw [z, t48] at v9; omega
  have s48 : sA ≠ 48 := fun z => by rw [z, t48] at v10; omega
  refine ⟨hup h 48 (aI 0 8 (fset fw (j : Nat) v)), chg_up t48 (by decide), ⟨i, kA, sA, f, g, fset fw (j : Nat) v, by rw [hp_upn (by omega)]; exact v1, hp_up1, by rw [List.length_set]; exact v3, by rw [List.length_set]; exact v3', fun k hk => ?_, by rw [hp_upn k48]; exact v5, by rw [hp_upn s48]; exact v6, v7, v8, v9, v10, v11, v12, v13, v14, v15, v16⟩, fun d Q => ?_⟩
  · rw [List.length_set] at hk
    rw [List.getD_eq_getElem?_getD, List.getElem?_set]
    by_cases z : j = k
    · subst z
      rw [fs_same, if_pos rfl, if_pos hk]; rfl
    · rw [fs_ne (by omega), if_neg z, ← List.getD_eq_getElem?_getD]
      exact v4 k hk
  · simp (disch := omega) only [e_79_0, e_79_1, e_79_4, e_79_5, e_79_7, e_79_10, e_79_11, e_79_14, e_79_15, e_79_16, e_79_17, v1, v2, true_and, rwO_c, rwO_g0, rwO_k0, rwO_g1, rwO_k1, rwO_s1, rwO_g2, rwO_k2, rwO_s2, rwO_g3, rwO_k3, rwO_g4, rwO_k4, rwO_s4, rwO_g5, rwO_k5, rwO_g6, rwO_k6, dkO_c, dkO_g0, dkO_k0, dkO_s0, dkO_g1, dkO_k1, dkO_s1, dkO_g2, dkO_k2, dkO_s2, hoO_c, hoO_g0, hoO_k0, hoO_s0, hoO_g1, hoO_k1, hoO_s1, hoO_g2, hoO_k2, hoO_s2, hoO_g3, hoO_k3, hoO_g4, hoO_k4, hoO_g5, hoO_k5, hoO_g6, hoO_k6, hoO_g7, hoO_k7, hoO_g8, hoO_k8, hoO_g9, hoO_k9, hoO_s9, iup_s, iup_n, hp_up1, hp_upn, ne_eq, not_false_eq_true, sh_0, sh_1, sh_2, sh_3, sh_4, sh_5, sh_8, sh_15, sh_16, sh_24, Int.reducePow, Int.cast_ofNat_Int, w_of, wl_of, ltT, ltF, leT, leF, eqT, eqF, okF_0, okF_s, gF_0, gF_s, consC_o, sF_0, sF_s, clsO_o, inA_i, ldA_i, stA_i, inJ_l, ldJ_l, stJ_l, inR_r, ldR_r, stR_r, tgR_r, lenA_i, lenA_l, lenA_r, lenA_ex, nl_i, nl_o, nl_l, nl_n, wd_n, wd_i, wd_l, wd_o, fit_i, fit_l, fit_o, K_v, K_n, true_and, and_true, Nat.reduceAdd, Nat.reduceLeDiff, Nat.reduceEqDiff, Nat.reduceMul, Nat.reduceLT, reduceIte, true_or, or_true, cmp_lt, cmp_gt, cmp_eq, wb_0, b_01, cmp_lt', cmp_gt', cmp_eq', b_0, b_1, wb_1, Int.reduceSub, Int.reduceToNat, List.getD_cons_succ, List.getD_cons_zero, Int.reduceLE, Int.reduceLT, Int.reduceEq, Int.reduceNeg, Int.reduceAdd, Int.reduceMul, and_self, em_b, ne_eq, not_false_eq_true, not_true_eq_false]
    try rfl
theorem or4 {x b v : Nat} (hb : b < 4) (h0 : x / 4 ^ v % 4 = 0) : (x ||| b * 4 ^ v) = x + b * 4 ^ v := by
  have p1 : 0 < 4 ^ v := Nat.pow_pos (by decide)
  have e4 : 4 ^ v = 2 ^ (2 * v) := by rw [four_pow]
  have hr : x % 4 ^ v < 4 ^ v := Nat.mod_lt _ p1
  have hx : x = 2 ^ (2 * v + 2) * (x / 4 ^ v / 4) + x % 4 ^ v := by
    have a1 := Nat.div_add_mod x (4 ^ v)
    have a2 := Nat.div_add_mod (x / 4 ^ v) 4
    have a3 : 2 ^ (2 * v + 2) = 4 ^ v * 4 := by rw [Nat.pow_add, ← e4]
    rw [a3, Nat.mul_assoc]
    have a4 : 4 * (x / 4 ^ v / 4) = x / 4 ^ v := by omega
    rw [a4]; exact a1.symm
  have hy : b * 4 ^ v + x % 4 ^ v < 2 ^ (2 * v + 2) := by
    have a3 : 2 ^ (2 * v + 2) = 4 ^ v * 4 := by rw [Nat.pow_add, ← e4]
    have : b * 4 ^ v ≤ 3 * 4 ^ v := Nat.mul_le_mul_right _ (by omega)
    omega
  have h1 : (b * 4 ^ v ||| x % 4 ^ v) = b * 4 ^ v + x % 4 ^ v := by
    have := Nat.two_pow_add_eq_or_of_lt (i := 2 * v) (b := x % 4 ^ v) (by rw [← e4]; exact hr) b
    rw [← e4, Nat.mul_comm] at this
    exact this.symm
  have hx2 : x = (2 ^ (2 * v + 2) * (x / 4 ^ v / 4) ||| x % 4 ^ v) := by
    rw [← Nat.two_pow_add_eq_or_of_lt (by
      have a3 : 2 ^ (2 * v + 2) = 4 ^ v * 4 := by rw [Nat.pow_add, ← e4]
      omega)]
    exact hx
  conv => lhs; rw [hx2]
  rw [Nat.or_assoc, Nat.or_comm (x % 4 ^ v), h1, ← Nat.two_pow_add_eq_or_of_lt hy]
  conv => rhs; rw [hx]
  omega
theorem dig4_same {x b v : Nat} (hb : b < 4) (h0 : x / 4 ^ v % 4 = 0) : (x + b * 4 ^ v) / 4 ^ v % 4 = b := by
  rw [Nat.add_mul_div_right _ _ (Nat.pow_pos (by decide))]
  omega
theorem dig4_ne {x b v u : Nat} (hb : b < 4) (h0 : x / 4 ^ v % 4 = 0) (hu : u ≠ v) : (x + b * 4 ^ v) / 4 ^ u % 4 = x / 4 ^ u % 4 := by
  by_cases h : u < v
  · have e : b * 4 ^ v = (b * 4 ^ (v - u - 1) * 4) * 4 ^ u := by
      have hpw : 4 ^ v = 4 ^ (v - u - 1) * 4 * 4 ^ u := by
        rw [← Nat.pow_succ, ← Nat.pow_add]
        congr 1
        omega
      rw [hpw, ← Nat.mul_assoc, ← Nat.mul_assoc]
    rw [e, Nat.add_mul_div_right _ _ (Nat.pow_pos (by decide)), Nat.add_mul_mod_self_right]
  · have e : (x + b * 4 ^ v) / 4 ^ (v + 1) = x / 4 ^ (v + 1) := by
      rw [Nat.pow_succ, ← Nat.div_div_eq_div_mul, ← Nat.div_div_eq_div_mul, Nat.add_mul_div_right _ _ (Nat.pow_pos (by decide))]
      omega
    have hp2 : 4 ^ u = 4 ^ (v + 1) * 4 ^ (u - v - 1) := by
      rw [← Nat.pow_add]
      congr 1
      omega
    rw [hp2, ← Nat.div_div_eq_div_mul, ← Nat.div_div_eq_div_mul, e]
theorem lt4 {x b v : Nat} (hb : b < 4) (hx : x < 65536) (hv : v < 8) (h0 : x / 4 ^ v % 4 = 0) : x + b * 4 ^ v < 65536 := by
  rw [← or4 hb h0]
  refine Nat.or_lt_two_pow (n := 16) hx ?_
  have : 4 ^ v ≤ 4 ^ 7 := Nat.pow_le_pow_right (by decide) (by omega)
  have h2 : b * 4 ^ v ≤ 3 * 4 ^ 7 := Nat.mul_le_mul (by omega) this
  have h3 : 3 * 4 ^ 7 < 2 ^ 16 := by decide
  omega
/-- by a stand: for each hour whether the rest can be -/
def mkI (c : KC) (sky : Nat) (lw : List Int) (fm : Int → Int) : Prop := ∀ y, okS c y → ∃ x : Nat, fm (encC c y) = (x : Int) ∧ x < 65536 ∧ ∀ v, v < lw.length → (x / 4 ^ v % 4 = 0) ∨ (x / 4 ^ v % 4 = 1 ∧ 0 < cmF c sky lw (lw.length - v) v y) ∨ (x / 4 ^ v % 4 = 2 ∧ ¬ 0 < cmF c sky lw (lw.length - v) v y)
theorem mk_0 {c : KC} {sky n z : Nat} {lw : List Int} {f : Int → Int} (hK : okK c) (hz : szC c ≤ z) : mkI c sky lw (fillF f 0 (z : Int) 0) := by
  intro s hs
  have := encC_lt hK hs
  refine ⟨0, ?_, by omega, fun v hv => Or.inl (by rw [Nat.zero_div])⟩
  unfold fillF
  rw [if_pos ⟨by omega, by omega⟩]; rfl
theorem mk_up {c : KC} {sky : Nat} {lw : List Int} {fm : Int → Int} {y : ST} {x b v : Nat} (hK : okK c) (h : mkI c sky lw fm) (hl : lw.length ≤ 8) (hv : v < lw.length) (hy : okS c y) (hx : fm (encC c y) = (x : Int)) (h0 : x / 4 ^ v % 4 = 0) (hb : (b = 1 ∧ 0 < cmF c sky lw (lw.length - v) v y) ∨ (b = 2 ∧ ¬ 0 < cmF c sky lw (lw.length - v) v y)) : mkI c sky lw (fset fm (encC c y : Nat) ((x + b * 4 ^ v : Nat) : Int)) := by
  have b4 : b < 4 := by omega
  intro z hz
  by_cases e : (encC c z : Int) = (encC c y : Nat)
  · have ez : z = y := encC_inj hK hz hy (by omega)
    subst ez
    rw [fs_same]
    obtain ⟨x', g1, g2, g3⟩ := h z hz
    have ex : x' = x := by rw [hx] at g1; omega
    subst ex
    refine ⟨_, rfl, lt4 b4 g2 (by omega) h0, fun u hu => ?_⟩
    by_cases w : u = v
    · subst w
      rw [dig4_same b4 h0]
      rcases hb with ⟨q1, q2⟩ | ⟨q1, q2⟩
      · exact Or.inr (Or.inl ⟨q1, q2⟩)
      · exact Or.inr (Or.inr ⟨q1, q2⟩)
    · rw [dig4_ne b4 h0 w]
      exact g3 u hu
  · rw [fs_ne e]
    exact h z hz
