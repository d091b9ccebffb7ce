/-! OVERLAY: the tokens and the reader (cells 11 to 19). Written by gen_ovl2.py -/
def rdH (h : PH) (i j : Nat → Int) (A : Nat → Int → Int) : PH := (h.1, h.2.1, fun k => if k = 11 then tkO i else if k = 12 then aI 1 900 (A 12) else if k = 13 then rdO j else if k = 14 then aI 0 900 (A 14) else if k = 15 then aI 0 5 (A 15) else if k = 16 then aI 0 5 (A 16) else if k = 17 then aI 0 3 (A 17) else if k = 18 then aI 0 3 (A 18) else if k = 19 then aI 0 3 (A 19) else h.2.2 k)
theorem rh_1 {h : PH} {i j : Nat → Int} {A : Nat → Int → Int} : (rdH h i j A).1 = h.1 := rfl
theorem rh_2 {h : PH} {i j : Nat → Int} {A : Nat → Int → Int} : (rdH h i j A).2.1 = h.2.1 := rfl
theorem rh_g11 {h : PH} {i j : Nat → Int} {A : Nat → Int → Int} : hp (rdH h i j A) 11 = tkO i := rfl
theorem rh_g12 {h : PH} {i j : Nat → Int} {A : Nat → Int → Int} : hp (rdH h i j A) 12 = aI 1 900 (A 12) := rfl
theorem rh_g13 {h : PH} {i j : Nat → Int} {A : Nat → Int → Int} : hp (rdH h i j A) 13 = rdO j := rfl
theorem rh_g14 {h : PH} {i j : Nat → Int} {A : Nat → Int → Int} : hp (rdH h i j A) 14 = aI 0 900 (A 14) := rfl
theorem rh_g15 {h : PH} {i j : Nat → Int} {A : Nat → Int → Int} : hp (rdH h i j A) 15 = aI 0 5 (A 15) := rfl
theorem rh_g16 {h : PH} {i j : Nat → Int} {A : Nat → Int → Int} : hp (rdH h i j A) 16 = aI 0 5 (A 16) := rfl
theorem rh_g17 {h : PH} {i j : Nat → Int} {A : Nat → Int → Int} : hp (rdH h i j A) 17 = aI 0 3 (A 17) := rfl
theorem rh_g18 {h : PH} {i j : Nat → Int} {A : Nat → Int → Int} : hp (rdH h i j A) 18 = aI 0 3 (A 18) := rfl
theorem rh_g19 {h : PH} {i j : Nat → Int} {A : Nat → Int → Int} : hp (rdH h i j A) 19 = aI 0 3 (A 19) := rfl
theorem rh_out {h : PH} {i j : Nat → Int} {A : Nat → Int → Int} {k : Nat} (hk : k < 11 ∨ 19 < k) : hp (rdH h i j A) k = hp h k := by
  unfold hp rdH
  dsimp only
  rw [if_neg (by omega), if_neg (by omega), if_neg (by omega), if_neg (by omega), if_neg (by omega), if_neg (by omega), if_neg (by omega), if_neg (by omega), if_neg (by omega)]
theorem rh_u11 {h : PH} {i j : Nat → Int} {A : Nat → Int → Int} {u : Nat → Int} : hup (rdH h i j A) 11 (tkO u) = rdH h u j A := by
  unfold hup rdH
  refine Prod.ext rfl (Prod.ext rfl (funext fun k => ?_))
  dsimp only
  by_cases e : k = 11
  · subst e; rfl
  · simp only [e, if_false, aup_n, ne_eq, Nat.reduceEqDiff, not_false_eq_true]
theorem rh_u12 {h : PH} {i j : Nat → Int} {A : Nat → Int → Int} {f : Int → Int} : hup (rdH h i j A) 12 (aI 1 900 f) = rdH h i j (aup A 12 f) := by
  unfold hup rdH
  refine Prod.ext rfl (Prod.ext rfl (funext fun k => ?_))
  dsimp only
  by_cases e : k = 12
  · subst e; rfl
  · simp only [e, if_false, aup_n, ne_eq, Nat.reduceEqDiff, not_false_eq_true]
theorem rh_u13 {h : PH} {i j : Nat → Int} {A : Nat → Int → Int} {u : Nat → Int} : hup (rdH h i j A) 13 (rdO u) = rdH h i u A := by
  unfold hup rdH
  refine Prod.ext rfl (Prod.ext rfl (funext fun k => ?_))
  dsimp only
  by_cases e : k = 13
  · subst e; rfl
  · simp only [e, if_false, aup_n, ne_eq, Nat.reduceEqDiff, not_false_eq_true]
theorem rh_u14 {h : PH} {i j : Nat → Int} {A : Nat → Int → Int} {f : Int → Int} : hup (rdH h i j A) 14 (aI 0 900 f) = rdH h i j (aup A 14 f) := by
  unfold hup rdH
  refine Prod.ext rfl (Prod.ext rfl (funext fun k => ?_))
  dsimp only
  by_cases e : k = 14
  · subst e; rfl
  · simp only [e, if_false, aup_n, ne_eq, Nat.reduceEqDiff, not_false_eq_true]
theorem rh_u15 {h : PH} {i j : Nat → Int} {A : Nat → Int → Int} {f : Int → Int} : hup (rdH h i j A) 15 (aI 0 5 f) = rdH h i j (aup A 15 f) := by
  unfold hup rdH
  refine Prod.ext rfl (Prod.ext rfl (funext fun k => ?_))
  dsimp only
  by_cases e : k = 15
  · subst e; rfl
  · simp only [e, if_false, aup_n, ne_eq, Nat.reduceEqDiff, not_false_eq_true]
theorem rh_u16 {h : PH} {i j : Nat → Int} {A : Nat → Int → Int} {f : Int → Int} : hup (rdH h i j A) 16 (aI 0 5 f) = rdH h i j (aup A 16 f) := by
  unfold hup rdH
  refine Prod.ext rfl (Prod.ext rfl (funext fun k => ?_))
  dsimp only
  by_cases e : k = 16
  · subst e; rfl
  · simp only [e, if_false, aup_n, ne_eq, Nat.reduceEqDiff, not_false_eq_true]
theorem rh_u17 {h : PH} {i j : Nat → Int} {A : Nat → Int → Int} {f : Int → Int} : hup (rdH h i j A) 17 (aI 0 3 f) = rdH h i j (aup A 17 f) := by
  unfold hup rdH
  refine Prod.ext rfl (Prod.ext rfl (funext fun k => ?_))
  dsimp only
  by_cases e : k = 17
  · subst e; rfl
  · simp only [e, if_false, aup_n, ne_eq, Nat.reduceEqDiff, not_false_eq_true]
theorem rh_u18 {h : PH} {i j : Nat → Int} {A : Nat → Int → Int} {f : Int → Int} : hup (rdH h i j A) 18 (aI 0 3 f) = rdH h i j (aup A 18 f) := by
  unfold hup rdH
  refine Prod.ext rfl (Prod.ext rfl (funext fun k => ?_))
  dsimp only
  by_cases e : k = 18
  · subst e; rfl
  · simp only [e, if_false, aup_n, ne_eq, Nat.reduceEqDiff, not_false_eq_true]
theorem rh_u19 {h : PH} {i j : Nat → Int} {A : Nat → Int → Int} {f : Int → Int} : hup (rdH h i j A) 19 (aI 0 3 f) = rdH h i j (aup A 19 f) := by
  unfold hup rdH
  refine Prod.ext rfl (Prod.ext rfl (funext fun k => ?_))
  dsimp only
  by_cases e : k = 19
  · subst e; rfl
  · simp only [e, if_false, aup_n, ne_eq, Nat.reduceEqDiff, not_false_eq_true]
theorem rh_id {h : PH} {i j : Nat → Int} {A : Nat → Int → Int} (h11 : hp h 11 = tkO i) (h12 : hp h 12 = aI 1 900 (A 12)) (h13 : hp h 13 = rdO j) (h14 : hp h 14 = aI 0 900 (A 14)) (h15 : hp h 15 = aI 0 5 (A 15)) (h16 : hp h 16 = aI 0 5 (A 16)) (h17 : hp h 17 = aI 0 3 (A 17)) (h18 : hp h 18 = aI 0 3 (A 18)) (h19 : hp h 19 = aI 0 3 (A 19)) : rdH h i j A = h := by
  unfold rdH
  refine Prod.ext rfl (Prod.ext rfl (funext fun k => ?_))
  dsimp only
  by_cases e11 : k = 11
  · rw [if_pos e11, e11]; exact h11.symm
  by_cases e12 : k = 12
  · rw [if_neg e11, if_pos e12, e12]; exact h12.symm
  by_cases e13 : k = 13
  · rw [if_neg e11, if_neg e12, if_pos e13, e13]; exact h13.symm
  by_cases e14 : k = 14
  · rw [if_neg e11, if_neg e12, if_neg e13, if_pos e14, e14]; exact h14.symm
  by_cases e15 : k = 15
  · rw [if_neg e11, if_neg e12, if_neg e13, if_neg e14, if_pos e15, e15]; exact h15.symm
  by_cases e16 : k = 16
  · rw [if_neg e11, if_neg e12, if_neg e13, if_neg e14, if_neg e15, if_pos e16, e16]; exact h16.symm
  by_cases e17 : k = 17
  · rw [if_neg e11, if_neg e12, if_neg e13, if_neg e14, if_neg e15, if_neg e16, if_pos e17, e17]; exact h17.symm
  by_cases e18 : k = 18
  · rw [if_neg e11, if_neg e12, if_neg e13, if_neg e14, if_neg e15, if_neg e16, if_neg e17, if_pos e18, e18]; exact h18.symm
  by_cases e19 : k = 19
  · rw [if_neg e11, if_neg e12, if_neg e13, if_neg e14, if_neg e15, if_neg e16, if_neg e17, if_neg e18, if_pos e19, e19]; exact h19.symm
  rw [if_neg e11, if_neg e12, if_neg e13, if_neg e14, if_neg e15, if_neg e16, if_neg e17, if_neg e18, if_neg e19]
