/-! LAWS: what their orders do on a stack; the class's reading of them -/
def clampM (x : Int) : Int := max (-1000000) (min 1000000 x)
def joinV (o x y : Int) : Int :=
  if o = 1010 then clampM (x + y) else if o = 1011 then clampM (x - y) else if o = 1012 then clampM (x * y)
  else if o = 1013 then (if x = y then 1 else 0) else if o = 1014 then (if x < y then 1 else 0) else if o = 1015 then (if y < x then 1 else 0)
  else if o = 1016 then x * y else x + y - x * y
def bit01 (x : Int) : Prop := x = 0 ∨ x = 1
/-- one order on a stack, its top ahead -/
def stepO (fx : Nat → Int) (o : Int) (st st' : List Int) : Prop :=
  st.length < 63 ∧ ((0 ≤ o ∧ o < 1000 ∧ st' = o :: st) ∨ (∃ k : Nat, k < 7 ∧ o = 1000 + (k : Int) ∧ st' = fx k :: st) ∨
  (∃ x r, o = 1018 ∧ st = x :: r ∧ bit01 x ∧ st' = (1 - x) :: r) ∨
  (∃ z y x r, o = 1019 ∧ st = z :: y :: x :: r ∧ bit01 x ∧ st' = (if x = 1 then y else z) :: r) ∨
  (∃ y x r, 1010 ≤ o ∧ o ≤ 1017 ∧ st = y :: x :: r ∧ (1016 ≤ o → bit01 x ∧ bit01 y) ∧ st' = joinV o x y :: r))
def evO (fx : Nat → Int) : List Int → List Int → List Int → Prop
  | [], st, st' => st' = st
  | o :: r, st, st' => ∃ m, stepO fx o st m ∧ evO fx r m st'
def bnd (x : Int) : Prop := -1000000 ≤ x ∧ x ≤ 1000000
def bndL (st : List Int) : Prop := ∀ x, x ∈ st → bnd x
theorem clampM_b (x : Int) : bnd (clampM x) := by unfold clampM bnd; omega
theorem bit_b {x : Int} (h : bit01 x) : bnd x := by unfold bit01 at h; unfold bnd; omega
theorem joinV_b {o x y : Int} (hb : 1016 ≤ o → bit01 x ∧ bit01 y) (h0 : 1010 ≤ o) (h1 : o ≤ 1017) : bnd (joinV o x y) := by
  unfold joinV
  split; · exact clampM_b _
  split; · exact clampM_b _
  split; · exact clampM_b _
  split; · unfold bnd; split <;> omega
  split; · unfold bnd; split <;> omega
  split; · unfold bnd; split <;> omega
  obtain ⟨hx, hy⟩ := hb (by omega)
  unfold bit01 at hx hy
  unfold bnd
  split
  · rcases hx with e | e <;> rcases hy with f | f <;> rw [e, f] <;> decide
  · rcases hx with e | e <;> rcases hy with f | f <;> rw [e, f] <;> decide
theorem stepO_b {fx : Nat → Int} {o : Int} {st st' : List Int} (hf : ∀ k, k < 7 → bnd (fx k)) (hs : stepO fx o st st') (hb : bndL st) : bndL st' := by
  obtain ⟨-, h | ⟨k, hk, h⟩ | ⟨x, r, h⟩ | ⟨z, y, x, r, h⟩ | ⟨y, x, r, h⟩⟩ := hs
  · obtain ⟨h1, h2, rfl⟩ := h
    intro v hv
    rcases List.mem_cons.mp hv with e | e
    · subst e; unfold bnd; omega
    · exact hb v e
  · obtain ⟨h1, rfl⟩ := h
    intro v hv
    rcases List.mem_cons.mp hv with e | e
    · subst e; exact hf k hk
    · exact hb v e
  · obtain ⟨h1, rfl, h2, rfl⟩ := h
    intro v hv
    rcases List.mem_cons.mp hv with e | e
    · subst e; unfold bit01 at h2; unfold bnd; omega
    · exact hb v (List.mem_cons_of_mem _ e)
  · obtain ⟨h1, rfl, h2, rfl⟩ := h
    intro v hv
    rcases List.mem_cons.mp hv with e | e
    · subst e
      split
      · exact hb y (by simp)
      · exact hb z (by simp)
    · exact hb v (by simp [e])
  · obtain ⟨h1, h2, rfl, h3, rfl⟩ := h
    intro v hv
    rcases List.mem_cons.mp hv with e | e
    · subst e; exact joinV_b h3 h1 h2
    · exact hb v (by simp [e])
/-- a stack laid in a row -/
def stk (f : Int → Int) : List Int → Prop
  | [] => True
  | v :: r => f (r.length : Nat) = v ∧ stk f r
theorem stk_up {f : Int → Int} {j v : Int} : ∀ {r : List Int}, (r.length : Int) ≤ j → stk f r → stk (fset f j v) r
  | [], _, _ => trivial
  | x :: r, hl, h => by
    have hl' : ((r.length + 1 : Nat) : Int) ≤ j := hl
    exact ⟨by rw [fs_ne (by omega)]; exact h.1, stk_up (by omega) h.2⟩
theorem stk_push {f : Int → Int} {v : Int} {r : List Int} (h : stk f r) : stk (fset f (r.length : Nat) v) (v :: r) := ⟨fs_same, stk_up (by omega) h⟩
theorem m_max {d : Nat} {h : PH} {Q : PQ} {x y : Int} : WP d 298 0 [some (vi x), some (vi y)] [] h Q = Q (some (vi (if w x < w y then y else x))) h := by
  simp only [e_298_0, e_298_1, e_298_2, e_298_5, e_298_6, e_298_9, e_298_10, okF_0, okF_s, gF_0, gF_s, consC_o, sF_0, sF_s, clsO_o, inA_i, ldA_i, stA_i, inJ_l, ldJ_l, stJ_l, inR_r, ldR_r, stR_r, tgR_r, lenA_i, lenA_l, lenA_r, lenA_ex, nl_i, nl_o, nl_l, nl_n, wd_n, wd_i, wd_l, wd_o, fit_i, fit_l, fit_o, K_v, K_n, true_and, and_true, Nat.reduceAdd, Nat.reduceLeDiff, Nat.reduceEqDiff, Nat.reduceMul, Nat.reduceLT, reduceIte, true_or, or_true, cmp_lt, cmp_gt, cmp_eq, wb_0, b_01, cmp_lt', cmp_gt', cmp_eq', b_0, b_1, wb_1, Int.reduceSub, Int.reduceToNat, List.getD_cons_succ, List.getD_cons_zero, Int.reduceLE, Int.reduceLT, Int.reduceEq, Int.reduceNeg, Int.reduceAdd, Int.reduceMul, and_self]
  by_cases c : w x < w y <;> simp only [c, if_true, if_false]
theorem m_min {d : Nat} {h : PH} {Q : PQ} {x y : Int} : WP d 300 0 [some (vi x), some (vi y)] [] h Q = Q (some (vi (if w y < w x then y else x))) h := by
  simp only [e_300_0, e_300_1, e_300_2, e_300_5, e_300_6, e_300_9, e_300_10, okF_0, okF_s, gF_0, gF_s, consC_o, sF_0, sF_s, clsO_o, inA_i, ldA_i, stA_i, inJ_l, ldJ_l, stJ_l, inR_r, ldR_r, stR_r, tgR_r, lenA_i, lenA_l, lenA_r, lenA_ex, nl_i, nl_o, nl_l, nl_n, wd_n, wd_i, wd_l, wd_o, fit_i, fit_l, fit_o, K_v, K_n, true_and, and_true, Nat.reduceAdd, Nat.reduceLeDiff, Nat.reduceEqDiff, Nat.reduceMul, Nat.reduceLT, reduceIte, true_or, or_true, cmp_lt, cmp_gt, cmp_eq, wb_0, b_01, cmp_lt', cmp_gt', cmp_eq', b_0, b_1, wb_1, Int.reduceSub, Int.reduceToNat, List.getD_cons_succ, List.getD_cons_zero, Int.reduceLE, Int.reduceLT, Int.reduceEq, Int.reduceNeg, Int.reduceAdd, Int.reduceMul, and_self]
  by_cases c : w y < w x <;> simp only [c, if_true, if_false]
theorem m_maxL {d : Nat} {h : PH} {Q : PQ} {x y : Int} : WP d 299 0 [some (vl x), none, some (vl y), none] [] h Q = Q (some (vl (if wl x < wl y then y else x))) h := by
  simp only [e_299_0, e_299_1, e_299_2, e_299_3, e_299_6, e_299_7, e_299_10, e_299_11, okF_0, okF_s, gF_0, gF_s, consC_o, sF_0, sF_s, clsO_o, inA_i, ldA_i, stA_i, inJ_l, ldJ_l, stJ_l, inR_r, ldR_r, stR_r, tgR_r, lenA_i, lenA_l, lenA_r, lenA_ex, nl_i, nl_o, nl_l, nl_n, wd_n, wd_i, wd_l, wd_o, fit_i, fit_l, fit_o, K_v, K_n, true_and, and_true, Nat.reduceAdd, Nat.reduceLeDiff, Nat.reduceEqDiff, Nat.reduceMul, Nat.reduceLT, reduceIte, true_or, or_true, cmp_lt, cmp_gt, cmp_eq, wb_0, b_01, cmp_lt', cmp_gt', cmp_eq', b_0, b_1, wb_1, Int.reduceSub, Int.reduceToNat, List.getD_cons_succ, List.getD_cons_zero, Int.reduceLE, Int.reduceLT, Int.reduceEq, Int.reduceNeg, Int.reduceAdd, Int.reduceMul, and_self]
  by_cases c : wl x < wl y <;> simp only [c, if_true, if_false]
theorem m_minL {d : Nat} {h : PH} {Q : PQ} {x y : Int} : WP d 301 0 [some (vl x), none, some (vl y), none] [] h Q = Q (some (vl (if wl y < wl x then y else x))) h := by
  simp only [e_301_0, e_301_1, e_301_2, e_301_3, e_301_6, e_301_7, e_301_10, e_301_11, okF_0, okF_s, gF_0, gF_s, consC_o, sF_0, sF_s, clsO_o, inA_i, ldA_i, stA_i, inJ_l, ldJ_l, stJ_l, inR_r, ldR_r, stR_r, tgR_r, lenA_i, lenA_l, lenA_r, lenA_ex, nl_i, nl_o, nl_l, nl_n, wd_n, wd_i, wd_l, wd_o, fit_i, fit_l, fit_o, K_v, K_n, true_and, and_true, Nat.reduceAdd, Nat.reduceLeDiff, Nat.reduceEqDiff, Nat.reduceMul, Nat.reduceLT, reduceIte, true_or, or_true, cmp_lt, cmp_gt, cmp_eq, wb_0, b_01, cmp_lt', cmp_gt', cmp_eq', b_0, b_1, wb_1, Int.reduceSub, Int.reduceToNat, List.getD_cons_succ, List.getD_cons_zero, Int.reduceLE, Int.reduceLT, Int.reduceEq, Int.reduceNeg, Int.reduceAdd, Int.reduceMul, and_self]
  by_cases c : wl y < wl x <;> simp only [c, if_true, if_false]
theorem mul_bnd {x y : Int} (hx : bnd x) (hy : bnd y) : -1000000000000 ≤ x * y ∧ x * y ≤ 1000000000000 := by
  unfold bnd at hx hy
  have h1 : 0 ≤ (1000000 - x) * (1000000 + y) := Int.mul_nonneg (by omega) (by omega)
  have h2 : 0 ≤ (1000000 + x) * (1000000 - y) := Int.mul_nonneg (by omega) (by omega)
  have h3 : 0 ≤ (1000000 - x) * (1000000 - y) := Int.mul_nonneg (by omega) (by omega)
  have h4 : 0 ≤ (1000000 + x) * (1000000 + y) := Int.mul_nonneg (by omega) (by omega)
  have e1 : (1000000 - x) * (1000000 + y) = 1000000000000 + 1000000 * y - 1000000 * x - x * y := by
    rw [Int.sub_mul, Int.mul_add, Int.mul_add]; omega
  have e2 : (1000000 + x) * (1000000 - y) = 1000000000000 - 1000000 * y + 1000000 * x - x * y := by
    rw [Int.add_mul, Int.mul_sub, Int.mul_sub]; omega
  have e3 : (1000000 - x) * (1000000 - y) = 1000000000000 - 1000000 * y - 1000000 * x + x * y := by
    rw [Int.sub_mul, Int.mul_sub, Int.mul_sub]; omega
  have e4 : (1000000 + x) * (1000000 + y) = 1000000000000 + 1000000 * y + 1000000 * x + x * y := by
    rw [Int.add_mul, Int.mul_add, Int.mul_add]; omega
  omega
theorem clamp_ifs {z : Int} (h1 : -9000000000000000000 ≤ z) (h2 : z ≤ 9000000000000000000) : (if wl (-1000000) < wl (if wl z < wl 1000000 then z else 1000000) then (if wl z < wl 1000000 then z else 1000000) else -1000000) = clampM z := by
  rw [wl_of (x := z) (by omega) (by omega), wl_of (x := 1000000) (by omega) (by omega), wl_of (x := -1000000) (by omega) (by omega)]
  unfold clampM
  by_cases a : z < 1000000
  · rw [if_pos a, wl_of (by omega) (by omega)]
    split <;> omega
  · rw [if_neg a, wl_of (by omega) (by omega)]
    split <;> omega
theorem clamp_id {z : Int} (h : bnd z) : clampM z = z := by unfold bnd at h; unfold clampM; omega
theorem jand_00 : jand 0 0 = 0 := by decide
theorem jand_01 : jand 0 1 = 0 := by decide
theorem jand_10 : jand 1 0 = 0 := by decide
theorem jand_11 : jand 1 1 = 1 := by decide
theorem jor_00 : jor 0 0 = 0 := by decide
theorem jor_01 : jor 0 1 = 1 := by decide
theorem jor_10 : jor 1 0 = 1 := by decide
theorem jor_11 : jor 1 1 = 1 := by decide
theorem j_join {d a : Nat} {h : PH} {Q : PQ} {o x y : Int} (hx : bnd x) (hy : bnd y) (h0 : 1010 ≤ o) (h1 : o ≤ 1017) (hb : 1016 ≤ o → bit01 x ∧ bit01 y) :
    WP (d + 1) 47 0 [some (vr a), some (vi o), some (vl x), none, some (vl y), none, none, none] [] h Q = Q (some (vi (joinV o x y))) h := by
  have hx' := hx
  have hy' := hy
  have hm := mul_bnd hx hy
  unfold bnd at hx' hy'
  have wx : wl x = x := wl_of (by omega) (by omega)
  have wy : wl y = y := wl_of (by omega) (by omega)
  rcases (by omega : o = 1010 ∨ o = 1011 ∨ o = 1012 ∨ o = 1013 ∨ o = 1014 ∨ o = 1015 ∨ o = 1016 ∨ o = 1017) with e | e | e | e | e | e | e | e <;> subst e
  · simp (disch := omega) only [e_47_0, e_47_1, e_47_44, e_47_45, e_47_47, e_47_48, e_47_50, e_47_53, e_47_54, e_47_56, e_47_57, e_47_59, e_47_62, e_47_63, e_47_65, e_47_66, e_47_68, e_47_71, e_47_72, e_47_74, e_47_75, e_47_78, e_47_79, e_47_82, e_47_83, e_47_85, e_47_88, e_47_89, e_47_91, e_47_92, e_47_95, e_47_96, e_47_99, e_47_100, e_47_102, e_47_105, e_47_106, e_47_108, e_47_109, e_47_112, e_47_113, e_47_116, e_47_117, e_47_119, e_47_122, e_47_123, e_47_125, e_47_126, e_47_128, e_47_131, e_47_132, e_47_134, e_47_135, e_47_137, e_47_140, e_47_143, e_47_145, e_47_148, e_47_151, e_47_152, w_of, m_minL, m_maxL, clamp_ifs, wx, wy, okF_0, okF_s, gF_0, gF_s, consC_o, sF_0, sF_s, clsO_o, inA_i, ldA_i, stA_i, inJ_l, ldJ_l, stJ_l, inR_r, ldR_r, stR_r, tgR_r, lenA_i, lenA_l, lenA_r, lenA_ex, nl_i, nl_o, nl_l, nl_n, wd_n, wd_i, wd_l, wd_o, fit_i, fit_l, fit_o, K_v, K_n, true_and, and_true, Nat.reduceAdd, Nat.reduceLeDiff, Nat.reduceEqDiff, Nat.reduceMul, Nat.reduceLT, reduceIte, true_or, or_true, cmp_lt, cmp_gt, cmp_eq, wb_0, b_01, cmp_lt', cmp_gt', cmp_eq', b_0, b_1, wb_1, Int.reduceSub, Int.reduceToNat, List.getD_cons_succ, List.getD_cons_zero, Int.reduceLE, Int.reduceLT, Int.reduceEq, Int.reduceNeg, Int.reduceAdd, Int.reduceMul, and_self]
    rfl
  · simp (disch := omega) only [e_47_0, e_47_1, e_47_44, e_47_45, e_47_47, e_47_48, e_47_50, e_47_53, e_47_54, e_47_56, e_47_57, e_47_59, e_47_62, e_47_63, e_47_65, e_47_66, e_47_68, e_47_71, e_47_72, e_47_74, e_47_75, e_47_78, e_47_79, e_47_82, e_47_83, e_47_85, e_47_88, e_47_89, e_47_91, e_47_92, e_47_95, e_47_96, e_47_99, e_47_100, e_47_102, e_47_105, e_47_106, e_47_108, e_47_109, e_47_112, e_47_113, e_47_116, e_47_117, e_47_119, e_47_122, e_47_123, e_47_125, e_47_126, e_47_128, e_47_131, e_47_132, e_47_134, e_47_135, e_47_137, e_47_140, e_47_143, e_47_145, e_47_148, e_47_151, e_47_152, w_of, m_minL, m_maxL, clamp_ifs, wx, wy, okF_0, okF_s, gF_0, gF_s, consC_o, sF_0, sF_s, clsO_o, inA_i, ldA_i, stA_i, inJ_l, ldJ_l, stJ_l, inR_r, ldR_r, stR_r, tgR_r, lenA_i, lenA_l, lenA_r, lenA_ex, nl_i, nl_o, nl_l, nl_n, wd_n, wd_i, wd_l, wd_o, fit_i, fit_l, fit_o, K_v, K_n, true_and, and_true, Nat.reduceAdd, Nat.reduceLeDiff, Nat.reduceEqDiff, Nat.reduceMul, Nat.reduceLT, reduceIte, true_or, or_true, cmp_lt, cmp_gt, cmp_eq, wb_0, b_01, cmp_lt', cmp_gt', cmp_eq', b_0, b_1, wb_1, Int.reduceSub, Int.reduceToNat, List.getD_cons_succ, List.getD_cons_zero, Int.reduceLE, Int.reduceLT, Int.reduceEq, Int.reduceNeg, Int.reduceAdd, Int.reduceMul, and_self]
    rfl
  · simp (disch := omega) only [e_47_0, e_47_1, e_47_44, e_47_45, e_47_47, e_47_48, e_47_50, e_47_53, e_47_54, e_47_56, e_47_57, e_47_59, e_47_62, e_47_63, e_47_65, e_47_66, e_47_68, e_47_71, e_47_72, e_47_74, e_47_75, e_47_78, e_47_79, e_47_82, e_47_83, e_47_85, e_47_88, e_47_89, e_47_91, e_47_92, e_47_95, e_47_96, e_47_99, e_47_100, e_47_102, e_47_105, e_47_106, e_47_108, e_47_109, e_47_112, e_47_113, e_47_116, e_47_117, e_47_119, e_47_122, e_47_123, e_47_125, e_47_126, e_47_128, e_47_131, e_47_132, e_47_134, e_47_135, e_47_137, e_47_140, e_47_143, e_47_145, e_47_148, e_47_151, e_47_152, w_of, m_minL, m_maxL, clamp_ifs, wx, wy, okF_0, okF_s, gF_0, gF_s, consC_o, sF_0, sF_s, clsO_o, inA_i, ldA_i, stA_i, inJ_l, ldJ_l, stJ_l, inR_r, ldR_r, stR_r, tgR_r, lenA_i, lenA_l, lenA_r, lenA_ex, nl_i, nl_o, nl_l, nl_n, wd_n, wd_i, wd_l, wd_o, fit_i, fit_l, fit_o, K_v, K_n, true_and, and_true, Nat.reduceAdd, Nat.reduceLeDiff, Nat.reduceEqDiff, Nat.reduceMul, Nat.reduceLT, reduceIte, true_or, or_true, cmp_lt, cmp_gt, cmp_eq, wb_0, b_01, cmp_lt', cmp_gt', cmp_eq', b_0, b_1, wb_1, Int.reduceSub, Int.reduceToNat, List.getD_cons_succ, List.getD_cons_zero, Int.reduceLE, Int.reduceLT, Int.reduceEq, Int.reduceNeg, Int.reduceAdd, Int.reduceMul, and_self]
    rfl
  · simp (disch := omega) only [e_47_0, e_47_1, e_47_44, e_47_45, e_47_47, e_47_48, e_47_50, e_47_53, e_47_54, e_47_56, e_47_57, e_47_59, e_47_62, e_47_63, e_47_65, e_47_66, e_47_68, e_47_71, e_47_72, e_47_74, e_47_75, e_47_78, e_47_79, e_47_82, e_47_83, e_47_85, e_47_88, e_47_89, e_47_91, e_47_92, e_47_95, e_47_96, e_47_99, e_47_100, e_47_102, e_47_105, e_47_106, e_47_108, e_47_109, e_47_112, e_47_113, e_47_116, e_47_117, e_47_119, e_47_122, e_47_123, e_47_125, e_47_126, e_47_128, e_47_131, e_47_132, e_47_134, e_47_135, e_47_137, e_47_140, e_47_143, e_47_145, e_47_148, e_47_151, e_47_152, w_of, m_minL, m_maxL, clamp_ifs, wx, wy, okF_0, okF_s, gF_0, gF_s, consC_o, sF_0, sF_s, clsO_o, inA_i, ldA_i, stA_i, inJ_l, ldJ_l, stJ_l, inR_r, ldR_r, stR_r, tgR_r, lenA_i, lenA_l, lenA_r, lenA_ex, nl_i, nl_o, nl_l, nl_n, wd_n, wd_i, wd_l, wd_o, fit_i, fit_l, fit_o, K_v, K_n, true_and, and_true, Nat.reduceAdd, Nat.reduceLeDiff, Nat.reduceEqDiff, Nat.reduceMul, Nat.reduceLT, reduceIte, true_or, or_true, cmp_lt, cmp_gt, cmp_eq, wb_0, b_01, cmp_lt', cmp_gt', cmp_eq', b_0, b_1, wb_1, Int.reduceSub, Int.reduceToNat, List.getD_cons_succ, List.getD_cons_zero, Int.reduceLE, Int.reduceLT, Int.reduceEq, Int.reduceNeg, Int.reduceAdd, Int.reduceMul, and_self]
    by_cases c : x = y <;> simp [c, joinV, clampM] <;> rfl
  · simp (disch := omega) only [e_47_0, e_47_1, e_47_44, e_47_45, e_47_47, e_47_48, e_47_50, e_47_53, e_47_54, e_47_56, e_47_57, e_47_59, e_47_62, e_47_63, e_47_65, e_47_66, e_47_68, e_47_71, e_47_72, e_47_74, e_47_75, e_47_78, e_47_79, e_47_82, e_47_83, e_47_85, e_47_88, e_47_89, e_47_91, e_47_92, e_47_95, e_47_96, e_47_99, e_47_100, e_47_102, e_47_105, e_47_106, e_47_108, e_47_109, e_47_112, e_47_113, e_47_116, e_47_117, e_47_119, e_47_122, e_47_123, e_47_125, e_47_126, e_47_128, e_47_131, e_47_132, e_47_134, e_47_135, e_47_137, e_47_140, e_47_143, e_47_145, e_47_148, e_47_151, e_47_152, w_of, m_minL, m_maxL, clamp_ifs, wx, wy, okF_0, okF_s, gF_0, gF_s, consC_o, sF_0, sF_s, clsO_o, inA_i, ldA_i, stA_i, inJ_l, ldJ_l, stJ_l, inR_r, ldR_r, stR_r, tgR_r, lenA_i, lenA_l, lenA_r, lenA_ex, nl_i, nl_o, nl_l, nl_n, wd_n, wd_i, wd_l, wd_o, fit_i, fit_l, fit_o, K_v, K_n, true_and, and_true, Nat.reduceAdd, Nat.reduceLeDiff, Nat.reduceEqDiff, Nat.reduceMul, Nat.reduceLT, reduceIte, true_or, or_true, cmp_lt, cmp_gt, cmp_eq, wb_0, b_01, cmp_lt', cmp_gt', cmp_eq', b_0, b_1, wb_1, Int.reduceSub, Int.reduceToNat, List.getD_cons_succ, List.getD_cons_zero, Int.reduceLE, Int.reduceLT, Int.reduceEq, Int.reduceNeg, Int.reduceAdd, Int.reduceMul, and_self]
    by_cases c : x < y <;> simp [c, joinV, clampM] <;> rfl
  · simp (disch := omega) only [e_47_0, e_47_1, e_47_44, e_47_45, e_47_47, e_47_48, e_47_50, e_47_53, e_47_54, e_47_56, e_47_57, e_47_59, e_47_62, e_47_63, e_47_65, e_47_66, e_47_68, e_47_71, e_47_72, e_47_74, e_47_75, e_47_78, e_47_79, e_47_82, e_47_83, e_47_85, e_47_88, e_47_89, e_47_91, e_47_92, e_47_95, e_47_96, e_47_99, e_47_100, e_47_102, e_47_105, e_47_106, e_47_108, e_47_109, e_47_112, e_47_113, e_47_116, e_47_117, e_47_119, e_47_122, e_47_123, e_47_125, e_47_126, e_47_128, e_47_131, e_47_132, e_47_134, e_47_135, e_47_137, e_47_140, e_47_143, e_47_145, e_47_148, e_47_151, e_47_152, w_of, m_minL, m_maxL, clamp_ifs, wx, wy, okF_0, okF_s, gF_0, gF_s, consC_o, sF_0, sF_s, clsO_o, inA_i, ldA_i, stA_i, inJ_l, ldJ_l, stJ_l, inR_r, ldR_r, stR_r, tgR_r, lenA_i, lenA_l, lenA_r, lenA_ex, nl_i, nl_o, nl_l, nl_n, wd_n, wd_i, wd_l, wd_o, fit_i, fit_l, fit_o, K_v, K_n, true_and, and_true, Nat.reduceAdd, Nat.reduceLeDiff, Nat.reduceEqDiff, Nat.reduceMul, Nat.reduceLT, reduceIte, true_or, or_true, cmp_lt, cmp_gt, cmp_eq, wb_0, b_01, cmp_lt', cmp_gt', cmp_eq', b_0, b_1, wb_1, Int.reduceSub, Int.reduceToNat, List.getD_cons_succ, List.getD_cons_zero, Int.reduceLE, Int.reduceLT, Int.reduceEq, Int.reduceNeg, Int.reduceAdd, Int.reduceMul, and_self]
    by_cases c : y < x <;> simp [c, joinV, clampM] <;> rfl
  · obtain ⟨b1, b2⟩ := hb (by omega)
    rcases b1 with e1 | e1 <;> rcases b2 with e2 | e2 <;> subst e1 <;> subst e2
    all_goals simp (disch := omega) only [e_47_0, e_47_1, e_47_44, e_47_45, e_47_47, e_47_48, e_47_50, e_47_53, e_47_54, e_47_56, e_47_57, e_47_59, e_47_62, e_47_63, e_47_65, e_47_66, e_47_68, e_47_71, e_47_72, e_47_74, e_47_75, e_47_78, e_47_79, e_47_82, e_47_83, e_47_85, e_47_88, e_47_89, e_47_91, e_47_92, e_47_95, e_47_96, e_47_99, e_47_100, e_47_102, e_47_105, e_47_106, e_47_108, e_47_109, e_47_112, e_47_113, e_47_116, e_47_117, e_47_119, e_47_122, e_47_123, e_47_125, e_47_126, e_47_128, e_47_131, e_47_132, e_47_134, e_47_135, e_47_137, e_47_140, e_47_143, e_47_145, e_47_148, e_47_151, e_47_152, w_of, m_minL, m_maxL, jand_00, jand_01, jand_10, jand_11, clamp_ifs, wx, wy, okF_0, okF_s, gF_0, gF_s, consC_o, sF_0, sF_s, clsO_o, inA_i, ldA_i, stA_i, inJ_l, ldJ_l, stJ_l, inR_r, ldR_r, stR_r, tgR_r, lenA_i, lenA_l, lenA_r, lenA_ex, nl_i, nl_o, nl_l, nl_n, wd_n, wd_i, wd_l, wd_o, fit_i, fit_l, fit_o, K_v, K_n, true_and, and_true, Nat.reduceAdd, Nat.reduceLeDiff, Nat.reduceEqDiff, Nat.reduceMul, Nat.reduceLT, reduceIte, true_or, or_true, cmp_lt, cmp_gt, cmp_eq, wb_0, b_01, cmp_lt', cmp_gt', cmp_eq', b_0, b_1, wb_1, Int.reduceSub, Int.reduceToNat, List.getD_cons_succ, List.getD_cons_zero, Int.reduceLE, Int.reduceLT, Int.reduceEq, Int.reduceNeg, Int.reduceAdd, Int.reduceMul, and_self]
    all_goals rfl
  · obtain ⟨b1, b2⟩ := hb (by omega)
    rcases b1 with e1 | e1 <;> rcases b2 with e2 | e2 <;> subst e1 <;> subst e2
    all_goals simp (disch := omega) only [e_47_0, e_47_1, e_47_44, e_47_45, e_47_47, e_47_48, e_47_50, e_47_53, e_47_54, e_47_56, e_47_57, e_47_59, e_47_62, e_47_63, e_47_65, e_47_66, e_47_68, e_47_71, e_47_72, e_47_74, e_47_75, e_47_78, e_47_79, e_47_82, e_47_83, e_47_85, e_47_88, e_47_89, e_47_91, e_47_92, e_47_95, e_47_96, e_47_99, e_47_100, e_47_102, e_47_105, e_47_106, e_47_108, e_47_109, e_47_112, e_47_113, e_47_116, e_47_117, e_47_119, e_47_122, e_47_123, e_47_125, e_47_126, e_47_128, e_47_131, e_47_132, e_47_134, e_47_135, e_47_137, e_47_140, e_47_143, e_47_145, e_47_148, e_47_151, e_47_152, w_of, m_minL, m_maxL, jor_00, jor_01, jor_10, jor_11, clamp_ifs, wx, wy, okF_0, okF_s, gF_0, gF_s, consC_o, sF_0, sF_s, clsO_o, inA_i, ldA_i, stA_i, inJ_l, ldJ_l, stJ_l, inR_r, ldR_r, stR_r, tgR_r, lenA_i, lenA_l, lenA_r, lenA_ex, nl_i, nl_o, nl_l, nl_n, wd_n, wd_i, wd_l, wd_o, fit_i, fit_l, fit_o, K_v, K_n, true_and, and_true, Nat.reduceAdd, Nat.reduceLeDiff, Nat.reduceEqDiff, Nat.reduceMul, Nat.reduceLT, reduceIte, true_or, or_true, cmp_lt, cmp_gt, cmp_eq, wb_0, b_01, cmp_lt', cmp_gt', cmp_eq', b_0, b_1, wb_1, Int.reduceSub, Int.reduceToNat, List.getD_cons_succ, List.getD_cons_zero, Int.reduceLE, Int.reduceLT, Int.reduceEq, Int.reduceNeg, Int.reduceAdd, Int.reduceMul, and_self]
    all_goals rfl
