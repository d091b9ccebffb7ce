/-! CONSTANT TEXTS; words looked up in them -/
def wordsB : List Int := [99, 111, 117, 110, 116, 121, 32, 112, 108, 97, 99, 101, 115, 32, 104, 101, 105, 103, 104, 116, 32, 119, 97, 121, 32, 107, 105, 110, 32, 97, 116, 32, 97, 103, 101, 32, 115, 116, 114, 101, 110, 103, 116, 104, 32, 98, 101, 97, 114, 115, 32, 119, 101, 97, 116, 104, 101, 114, 32, 116, 105, 114, 101, 115, 32, 109, 97, 121, 32, 105, 102, 32, 116, 104, 101, 110, 32, 101, 108, 115, 101, 32, 101, 110, 100, 32, 103, 111, 101, 115, 32, 102, 114, 111, 109, 32, 111, 114, 32, 97, 110, 100, 32, 110, 111, 116]
def keysB : List Int := [32, 99, 111, 117, 110, 116, 121, 32, 112, 108, 97, 99, 101, 115, 32, 104, 101, 105, 103, 104, 116, 32, 119, 97, 121, 32, 107, 105, 110, 32, 97, 116, 32, 97, 103, 101, 32, 115, 116, 114, 101, 110, 103, 116, 104, 32, 98, 101, 97, 114, 115, 32, 119, 101, 97, 116, 104, 101, 114, 32, 116, 105, 114, 101, 115, 32, 109, 97, 121, 32, 105, 102, 32, 116, 104, 101, 110, 32, 101, 108, 115, 101, 32, 101, 110, 100, 32, 103, 111, 101, 115, 32, 102, 114, 111, 109, 32, 97, 110, 100, 32, 111, 114, 32, 110, 111, 116, 32]
def strE (h : PH) (a : Nat) (bs : List Int) : Prop := hp h a = oC 13 [vr (a + 4), vi 0] ∧ ∃ f : Int → Int, hp h (a + 4) = aI 1 bs.length f ∧ ∀ k, k < bs.length → f ((k : Nat) : Int) = bs.getD k 0
section st
variable {h : PH} {a : Nat} {bs : List Int}
theorem s_len (hs : strE h a bs) (hl : bs.length < 1000) : ∀ d Q, WP (d + 1) 302 0 [some (vr a)] [] h Q = Q (some (vi (bs.length : Nat))) h := by
  obtain ⟨h1, f, h2, -⟩ := hs
  intro d Q
  have e : ((bs.length : Nat) : Int) / 1 = (bs.length : Int) := Int.ediv_one _
  simp (disch := omega) only [e_302_0, e_302_1, e_302_4, e_302_5, e_302_6, e_302_9, e_302_10, e_306_0, e_306_3, e_306_6, e_306_7, e_306_10, e_306_13, e_306_14, h1, h2, e, true_and, sh_0, sh_1, sh_2, sh_3, sh_4, sh_5, sh_8, sh_15, sh_16, sh_24, Int.reducePow, Int.cast_ofNat_Int, w_of, wl_of, ltT, ltF, leT, leF, eqT, eqF, okF_0, okF_s, gF_0, gF_s, consC_o, sF_0, sF_s, clsO_o, inA_i, ldA_i, stA_i, inJ_l, ldJ_l, stJ_l, inR_r, ldR_r, stR_r, tgR_r, lenA_i, lenA_l, lenA_r, lenA_ex, nl_i, nl_o, nl_l, nl_n, wd_n, wd_i, wd_l, wd_o, fit_i, fit_l, fit_o, K_v, K_n, true_and, and_true, Nat.reduceAdd, Nat.reduceLeDiff, Nat.reduceEqDiff, Nat.reduceMul, Nat.reduceLT, reduceIte, true_or, or_true, cmp_lt, cmp_gt, cmp_eq, wb_0, b_01, cmp_lt', cmp_gt', cmp_eq', b_0, b_1, wb_1, Int.reduceSub, Int.reduceToNat, List.getD_cons_succ, List.getD_cons_zero, Int.reduceLE, Int.reduceLT, Int.reduceEq, Int.reduceNeg, Int.reduceAdd, Int.reduceMul, and_self, em_b, ne_eq, not_false_eq_true, not_true_eq_false]
  try rfl
theorem s_char (hs : strE h a bs) (hl : bs.length < 1000) {k : Nat} (hk : k < bs.length) (hb : 0 ≤ bs.getD k 0 ∧ bs.getD k 0 < 128) : ∀ d Q, WP (d + 4) 303 0 [some (vr a), some (vi k)] [] h Q = Q (some (vi (bs.getD k 0))) h := by
  obtain ⟨h1, f, h2, h3⟩ := hs
  intro d Q
  have e := h3 k hk
  obtain ⟨hb1, hb2⟩ := hb
  have e2 : iand (bs.getD k 0) 255 = bs.getD k 0 := by rw [iand_255]; omega
  have e3 : bs.getD k 0 % 65536 = bs.getD k 0 := by omega
  simp (disch := omega) only [e_303_0, e_303_1, e_303_4, e_303_7, e_303_8, e_303_11, e_303_12, e_303_15, e_307_0, e_307_3, e_307_6, e_307_7, e_307_10, e_307_13, e_307_14, e_307_17, e_307_18, e_310_0, e_310_1, e_310_2, e_310_3, e_310_6, e_310_7, e_310_8, e_310_9, e_310_12, e_310_13, e_310_14, e_308_0, e_308_1, e_308_2, e_308_5, e_308_8i, e_308_8a, e_308_9, e_328_0, e_328_1, e_328_4, e_328_5, e_328_6, e_328_16, e_328_17, h1, h2, e, e2, e3, true_and, sh_0, sh_1, sh_2, sh_3, sh_4, sh_5, sh_8, sh_15, sh_16, sh_24, Int.reducePow, Int.cast_ofNat_Int, w_of, wl_of, ltT, ltF, leT, leF, eqT, eqF, okF_0, okF_s, gF_0, gF_s, consC_o, sF_0, sF_s, clsO_o, inA_i, ldA_i, stA_i, inJ_l, ldJ_l, stJ_l, inR_r, ldR_r, stR_r, tgR_r, lenA_i, lenA_l, lenA_r, lenA_ex, nl_i, nl_o, nl_l, nl_n, wd_n, wd_i, wd_l, wd_o, fit_i, fit_l, fit_o, K_v, K_n, true_and, and_true, Nat.reduceAdd, Nat.reduceLeDiff, Nat.reduceEqDiff, Nat.reduceMul, Nat.reduceLT, reduceIte, true_or, or_true, cmp_lt, cmp_gt, cmp_eq, wb_0, b_01, cmp_lt', cmp_gt', cmp_eq', b_0, b_1, wb_1, Int.reduceSub, Int.reduceToNat, List.getD_cons_succ, List.getD_cons_zero, Int.reduceLE, Int.reduceLT, Int.reduceEq, Int.reduceNeg, Int.reduceAdd, Int.reduceMul, and_self, em_b, ne_eq, not_false_eq_true, not_true_eq_false]
  try rfl
theorem s_ixLp (hs : strE h a bs) (hl : bs.length < 1000) {x : Int} (hx : 0 ≤ x ∧ x < 128) (hb : ∀ k, k < bs.length → 0 ≤ bs.getD k 0 ∧ bs.getD k 0 < 128) : ∀ (m k : Nat), k + m = bs.length → (∀ j, j < k → bs.getD j 0 ≠ x) → ∃ r : Int, (0 ≤ r ↔ x ∈ bs) ∧ -1 ≤ r ∧ r < 1000 ∧ ∀ d Q, WP d 313 7 [some (vr (a + 4)), some (vi x), some (vi 0), some (vi (bs.length : Nat)), some (vi x), some (vi k)] [] h Q = Q (some (vi r)) h := by
  obtain ⟨h1, f, h2, h3⟩ := hs
  obtain ⟨hx1, hx2⟩ := hx
  intro m
  induction m with
  | zero =>
    intro k hk hno
    refine ⟨-1, ⟨fun z => by omega, fun z => ?_⟩, by omega, by omega, fun d Q => ?_⟩
    · obtain ⟨j, hj, e⟩ := List.mem_iff_getElem.mp z
      exact absurd (by rw [List.getD_eq_getElem?_getD, List.getElem?_eq_getElem hj]; exact e) (hno j (by omega))
    · have ek : k = bs.length := by omega
      subst ek
      rw [e_313_7]
      simp (disch := omega) only [e_313_9, e_313_10, e_313_31, e_313_32, h2, sh_0, sh_1, sh_2, sh_3, sh_4, sh_5, sh_8, sh_15, sh_16, sh_24, Int.reducePow, Int.cast_ofNat_Int, w_of, wl_of, ltT, ltF, leT, leF, eqT, eqF, okF_0, okF_s, gF_0, gF_s, consC_o, sF_0, sF_s, clsO_o, inA_i, ldA_i, stA_i, inJ_l, ldJ_l, stJ_l, inR_r, ldR_r, stR_r, tgR_r, lenA_i, lenA_l, lenA_r, lenA_ex, nl_i, nl_o, nl_l, nl_n, wd_n, wd_i, wd_l, wd_o, fit_i, fit_l, fit_o, K_v, K_n, true_and, and_true, Nat.reduceAdd, Nat.reduceLeDiff, Nat.reduceEqDiff, Nat.reduceMul, Nat.reduceLT, reduceIte, true_or, or_true, cmp_lt, cmp_gt, cmp_eq, wb_0, b_01, cmp_lt', cmp_gt', cmp_eq', b_0, b_1, wb_1, Int.reduceSub, Int.reduceToNat, List.getD_cons_succ, List.getD_cons_zero, Int.reduceLE, Int.reduceLT, Int.reduceEq, Int.reduceNeg, Int.reduceAdd, Int.reduceMul, and_self, em_b, ne_eq, not_false_eq_true, not_true_eq_false]
      try rfl
  | succ m ih =>
    intro k hk hno
    have e := h3 k (by omega)
    obtain ⟨b1, b2⟩ := hb k (by omega)
    by_cases q : bs.getD k 0 = x
    · refine ⟨(k : Int), ⟨fun _ => ?_, fun _ => by omega⟩, by omega, by omega, fun d Q => ?_⟩
      · rw [← q, List.getD_eq_getElem?_getD, List.getElem?_eq_getElem (by omega)]
        exact List.getElem_mem _
      · rw [e_313_7]
        simp (disch := omega) only [e_313_9, e_313_10, e_313_13, e_313_14, e_313_16, e_313_17, e_313_19, e_313_22, e_313_24, h2, e, q, true_and, sh_0, sh_1, sh_2, sh_3, sh_4, sh_5, sh_8, sh_15, sh_16, sh_24, Int.reducePow, Int.cast_ofNat_Int, w_of, wl_of, ltT, ltF, leT, leF, eqT, eqF, okF_0, okF_s, gF_0, gF_s, consC_o, sF_0, sF_s, clsO_o, inA_i, ldA_i, stA_i, inJ_l, ldJ_l, stJ_l, inR_r, ldR_r, stR_r, tgR_r, lenA_i, lenA_l, lenA_r, lenA_ex, nl_i, nl_o, nl_l, nl_n, wd_n, wd_i, wd_l, wd_o, fit_i, fit_l, fit_o, K_v, K_n, true_and, and_true, Nat.reduceAdd, Nat.reduceLeDiff, Nat.reduceEqDiff, Nat.reduceMul, Nat.reduceLT, reduceIte, true_or, or_true, cmp_lt, cmp_gt, cmp_eq, wb_0, b_01, cmp_lt', cmp_gt', cmp_eq', b_0, b_1, wb_1, Int.reduceSub, Int.reduceToNat, List.getD_cons_succ, List.getD_cons_zero, Int.reduceLE, Int.reduceLT, Int.reduceEq, Int.reduceNeg, Int.reduceAdd, Int.reduceMul, and_self, em_b, ne_eq, not_false_eq_true, not_true_eq_false]
        try rfl
    · obtain ⟨r, r1, r2, r3, r4⟩ := ih (k + 1) (by omega) (fun j hj => by
        by_cases w : j = k
        · rw [w]; exact q
        · exact hno j (by omega))
      refine ⟨r, r1, r2, r3, fun d Q => ?_⟩
      rw [← r4 d Q]
      have e1 : (k : Int) + 1 = ((k + 1 : Nat) : Int) := by omega
      rw [e_313_7]
      simp (disch := omega) only [e_313_9, e_313_10, e_313_13, e_313_14, e_313_16, e_313_17, e_313_19, e_313_22, e_313_24, e_313_25, e_313_28, h2, e, q, e1, true_and, if_false, sh_0, sh_1, sh_2, sh_3, sh_4, sh_5, sh_8, sh_15, sh_16, sh_24, Int.reducePow, Int.cast_ofNat_Int, w_of, wl_of, ltT, ltF, leT, leF, eqT, eqF, okF_0, okF_s, gF_0, gF_s, consC_o, sF_0, sF_s, clsO_o, inA_i, ldA_i, stA_i, inJ_l, ldJ_l, stJ_l, inR_r, ldR_r, stR_r, tgR_r, lenA_i, lenA_l, lenA_r, lenA_ex, nl_i, nl_o, nl_l, nl_n, wd_n, wd_i, wd_l, wd_o, fit_i, fit_l, fit_o, K_v, K_n, true_and, and_true, Nat.reduceAdd, Nat.reduceLeDiff, Nat.reduceEqDiff, Nat.reduceMul, Nat.reduceLT, reduceIte, true_or, or_true, cmp_lt, cmp_gt, cmp_eq, wb_0, b_01, cmp_lt', cmp_gt', cmp_eq', b_0, b_1, wb_1, Int.reduceSub, Int.reduceToNat, List.getD_cons_succ, List.getD_cons_zero, Int.reduceLE, Int.reduceLT, Int.reduceEq, Int.reduceNeg, Int.reduceAdd, Int.reduceMul, and_self, em_b, ne_eq, not_false_eq_true, not_true_eq_false]
      try rfl
theorem s_idx (hs : strE h a bs) (hl : bs.length < 1000) (hl1 : 0 < bs.length) {x : Int} (hx : 0 ≤ x ∧ x < 128) (hb : ∀ k, k < bs.length → 0 ≤ bs.getD k 0 ∧ bs.getD k 0 < 128) : ∃ r : Int, (0 ≤ r ↔ x ∈ bs) ∧ -1 ≤ r ∧ r < 1000 ∧ ∀ d Q, WP (d + 4) 304 0 [some (vr a), some (vi x)] [] h Q = Q (some (vi r)) h := by
  obtain ⟨r, r1, r2, r3, r4⟩ := s_ixLp hs hl hx hb bs.length 0 (by omega) (fun j hj => absurd hj (Nat.not_lt_zero _))
  refine ⟨r, r1, r2, r3, fun d Q => ?_⟩
  have ln := s_len hs hl
  obtain ⟨h1, f, h2, h3⟩ := hs
  obtain ⟨hx1, hx2⟩ := hx
  have r4' := fun (d : Nat) (Q : PQ) => r4 d Q
  rw [nc0] at r4'
  have eb : Int.bmod x 256 = x := by rw [bm_val (by omega) (by omega), if_pos hx2]
  have mx := fun (d : Nat) (h : PH) (Q : PQ) => m_max (d := d) (h := h) (Q := Q) (x := 0) (y := 0)
  have mn := fun (d : Nat) (h : PH) (Q : PQ) => m_min (d := d) (h := h) (Q := Q) (x := (bs.length : Int)) (y := (bs.length : Int))
  rw [if_neg (by decide)] at mx
  rw [if_neg (by omega)] at mn
  simp (disch := omega) only [e_304_0, e_304_1, e_304_2, e_304_3, e_304_6, e_305_0, e_305_1, e_305_4, e_305_7, e_305_8, e_305_11, e_305_12, e_305_13, e_305_14, e_305_17, e_305_20, e_305_36, e_307_0, e_307_3, e_307_6, e_307_7, e_307_10, e_307_13, e_307_14, e_307_17, e_307_18, e_312_0, e_312_1, e_312_4, e_312_7, e_312_8, e_312_9, e_312_10, e_312_11, e_312_14, e_312_15, e_312_16, e_312_17, e_312_18, e_312_21, e_312_22, e_312_23, e_312_24, e_312_27, e_312_28, e_312_29, e_312_30, e_312_31, e_312_32, e_312_33, e_312_36, e_311_0, e_311_1, e_311_4, e_311_5, e_311_8, e_311_11, e_311_12, e_311_15, e_311_16, e_313_0, e_313_1, e_313_2, e_313_4, e_313_5, h1, h2, ln, mx, mn, eb, r4', true_and, sh_0, sh_1, sh_2, sh_3, sh_4, sh_5, sh_8, sh_15, sh_16, sh_24, Int.reducePow, Int.cast_ofNat_Int, w_of, wl_of, ltT, ltF, leT, leF, eqT, eqF, okF_0, okF_s, gF_0, gF_s, consC_o, sF_0, sF_s, clsO_o, inA_i, ldA_i, stA_i, inJ_l, ldJ_l, stJ_l, inR_r, ldR_r, stR_r, tgR_r, lenA_i, lenA_l, lenA_r, lenA_ex, nl_i, nl_o, nl_l, nl_n, wd_n, wd_i, wd_l, wd_o, fit_i, fit_l, fit_o, K_v, K_n, true_and, and_true, Nat.reduceAdd, Nat.reduceLeDiff, Nat.reduceEqDiff, Nat.reduceMul, Nat.reduceLT, reduceIte, true_or, or_true, cmp_lt, cmp_gt, cmp_eq, wb_0, b_01, cmp_lt', cmp_gt', cmp_eq', b_0, b_1, wb_1, Int.reduceSub, Int.reduceToNat, List.getD_cons_succ, List.getD_cons_zero, Int.reduceLE, Int.reduceLT, Int.reduceEq, Int.reduceNeg, Int.reduceAdd, Int.reduceMul, and_self, em_b, ne_eq, not_false_eq_true, not_true_eq_false]
  try rfl
end st
/-- the class's look for a word along its text of words -/
def cwL (t : List Int) : List Int → Nat → Nat → Bool → Int
  | [], wd, off, same => if same = true ∧ off = t.length then (wd : Int) else 31
  | c :: r, wd, off, same => if c = 32 then (if same = true ∧ off = t.length then (wd : Int) else cwL t r (wd + 1) 0 true) else cwL t r wd (off + 1) (same && decide (off < t.length) && decide (t.getD off 0 = c))
theorem pre_s {t pre : List Int} {c : Int} : ((pre ++ [c]) <+: t) ↔ (pre <+: t) ∧ pre.length < t.length ∧ t.getD pre.length 0 = c := by
  constructor
  · rintro ⟨u, rfl⟩
    refine ⟨⟨[c] ++ u, by rw [List.append_assoc]⟩, by simp, ?_⟩
    rw [List.getD_eq_getElem?_getD, List.append_assoc, List.getElem?_append_right (Nat.le_refl _), Nat.sub_self]
    rfl
  · rintro ⟨⟨u, rfl⟩, h2, h3⟩
    cases u with
    | nil => simp at h2
    | cons d u =>
      rw [List.getD_eq_getElem?_getD, List.getElem?_append_right (Nat.le_refl _), Nat.sub_self] at h3
      have : d = c := h3
      subst this
      exact ⟨u, by rw [List.append_assoc]; rfl⟩
theorem pre_b {t pre : List Int} {c : Int} {same : Bool} (h : same = true ↔ pre <+: t) : ((same && decide (pre.length < t.length) && decide (t.getD pre.length 0 = c)) = true) ↔ (pre ++ [c]) <+: t := by
  rw [pre_s, Bool.and_eq_true, Bool.and_eq_true, decide_eq_true_iff, decide_eq_true_iff, h, and_assoc]
theorem pre_e {t pre : List Int} : ((pre <+: t) ∧ pre.length = t.length) ↔ t = pre := by
  constructor
  · rintro ⟨⟨u, rfl⟩, h⟩
    cases u with
    | nil => rw [List.append_nil]
    | cons d u => simp at h
  · rintro rfl; exact ⟨List.prefix_refl _, rfl⟩
theorem cw_word {t : List Int} : ∀ (w rest pre : List Int) (wd : Nat) (same : Bool), (∀ c, c ∈ w → c ≠ 32) → (same = true ↔ pre <+: t) → cwL t (w ++ 32 :: rest) wd pre.length same = if t = pre ++ w then (wd : Int) else cwL t rest (wd + 1) 0 true := by
  intro w
  induction w with
  | nil =>
    intro rest pre wd same _ hs
    show (if (32 : Int) = 32 then (if same = true ∧ pre.length = t.length then (wd : Int) else cwL t rest (wd + 1) 0 true) else _) = _
    rw [if_pos rfl, List.append_nil]
    by_cases q : t = pre
    · rw [if_pos q, if_pos (by rw [hs]; exact pre_e.mpr q)]
    · rw [if_neg q, if_neg (by rw [hs]; exact fun z => q (pre_e.mp z))]
  | cons c w ih =>
    intro rest pre wd same hn hs
    show (if c = 32 then _ else cwL t (w ++ 32 :: rest) wd (pre.length + 1) (same && decide (pre.length < t.length) && decide (t.getD pre.length 0 = c))) = _
    rw [if_neg (hn c List.mem_cons_self)]
    have := ih rest (pre ++ [c]) wd _ (fun d hd => hn d (List.mem_cons_of_mem _ hd)) (pre_b (c := c) hs)
    rw [List.length_append, List.append_assoc] at this
    exact this
theorem cw_last {t : List Int} : ∀ (w pre : List Int) (wd : Nat) (same : Bool), (∀ c, c ∈ w → c ≠ 32) → (same = true ↔ pre <+: t) → cwL t w wd pre.length same = if t = pre ++ w then (wd : Int) else 31 := by
  intro w
  induction w with
  | nil =>
    intro pre wd same _ hs
    show (if same = true ∧ pre.length = t.length then (wd : Int) else 31) = _
    rw [List.append_nil]
    by_cases q : t = pre
    · rw [if_pos q, if_pos (by rw [hs]; exact pre_e.mpr q)]
    · rw [if_neg q, if_neg (by rw [hs]; exact fun z => q (pre_e.mp z))]
  | cons c w ih =>
    intro pre wd same hn hs
    show (if c = 32 then _ else cwL t w wd (pre.length + 1) (same && decide (pre.length < t.length) && decide (t.getD pre.length 0 = c))) = _
    rw [if_neg (hn c List.mem_cons_self)]
    have := ih (pre ++ [c]) wd _ (fun d hd => hn d (List.mem_cons_of_mem _ hd)) (pre_b (c := c) hs)
    rw [List.length_append, List.append_assoc] at this
    exact this
theorem cw_w {t w rest : List Int} {wd : Nat} (hn : ∀ c, c ∈ w → c ≠ 32) : cwL t (w ++ 32 :: rest) wd 0 true = if t = w then (wd : Int) else cwL t rest (wd + 1) 0 true := cw_word w rest [] wd true hn ⟨fun _ => List.nil_prefix, fun _ => rfl⟩
theorem cw_l {t w : List Int} {wd : Nat} (hn : ∀ c, c ∈ w → c ≠ 32) : cwL t w wd 0 true = if t = w then (wd : Int) else 31 := cw_last w [] wd true hn ⟨fun _ => List.nil_prefix, fun _ => rfl⟩
def joinW : List (List Int) → List Int
  | [] => []
  | [w] => w
  | w :: v :: r => w ++ 32 :: joinW (v :: r)
theorem cw_all {t : List Int} : ∀ (l : List (List Int)) (k : Nat), l ≠ [] → (∀ w, w ∈ l → ∀ c, c ∈ w → c ≠ 32) → cwL t (joinW l) k 0 true = wdI t 31 l k
  | [], _, h, _ => absurd rfl h
  | [w], k, _, hn => by
    show cwL t w k 0 true = if t = w then (k : Int) else 31
    exact cw_l (hn w (by simp))
  | w :: v :: r, k, _, hn => by
    show cwL t (w ++ 32 :: joinW (v :: r)) k 0 true = if t = w then (k : Int) else wdI t 31 (v :: r) (k + 1)
    rw [cw_w (hn w List.mem_cons_self), cw_all (v :: r) (k + 1) (by simp) (fun x hx => hn x (List.mem_cons_of_mem _ hx))]
theorem cw_words {t : List Int} : cwL t wordsB 0 0 true = wdK t := by
  have e : wordsB = joinW wordsL := by decide +kernel
  rw [e, cw_all wordsL 0 (by decide) (by decide +kernel)]
  rfl
theorem wordsB_b : ∀ k, k < wordsB.length → 0 ≤ wordsB.getD k 0 ∧ wordsB.getD k 0 < 128 := by
  have : ∀ k : Fin 106, 0 ≤ wordsB.getD (k : Nat) 0 ∧ wordsB.getD (k : Nat) 0 < 128 := by decide +kernel
  exact fun k hk => this ⟨k, hk⟩
theorem keysB_b : ∀ k, k < keysB.length → 0 ≤ keysB.getD k 0 ∧ keysB.getD k 0 < 128 := by
  have : ∀ k : Fin 108, 0 ≤ keysB.getD (k : Nat) 0 ∧ keysB.getD (k : Nat) 0 < 128 := by decide +kernel
  exact fun k hk => this ⟨k, hk⟩
theorem signsB_b : ∀ k, k < signsB.length → 0 ≤ signsB.getD k 0 ∧ signsB.getD k 0 < 128 := by
  have : ∀ k : Fin 12, 0 ≤ signsB.getD (k : Nat) 0 ∧ signsB.getD (k : Nat) 0 < 128 := by decide +kernel
  exact fun k hk => this ⟨k, hk⟩
