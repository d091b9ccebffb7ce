/-! OVERLAYS: a heap in which a group of fixed cells is given by numbers and rows. Written by gen_ovl.py -/
def aup (A : Nat → Int → Int) (k : Nat) (f : Int → Int) : Nat → Int → Int := fun j => if j = k then f else A j
theorem aup_s {A : Nat → Int → Int} {k : Nat} {f : Int → Int} : aup A k f k = f := if_pos rfl
theorem aup_n {A : Nat → Int → Int} {k j : Nat} {f : Int → Int} (h : j ≠ k) : aup A k f j = A j := if_neg h
theorem aup_id {A : Nat → Int → Int} {k : Nat} : aup A k (A k) = A := by funext j; unfold aup; by_cases h : j = k <;> simp [h]
theorem aup_aup {A : Nat → Int → Int} {k : Nat} {f g : Int → Int} : aup (aup A k f) k g = aup A k g := by funext j; unfold aup; by_cases h : j = k <;> simp [h]
theorem iup_id {i : Nat → Int} {k : Nat} : iup i k (i k) = i := by funext j; unfold iup; by_cases h : j = k <;> simp [h]
theorem iup_iup {i : Nat → Int} {k : Nat} {v u : Int} : iup (iup i k v) k u = iup i k u := by funext j; unfold iup; by_cases h : j = k <;> simp [h]
theorem fs_fs {α : Type} {f : Int → α} {i : Int} {v u : α} : fset (fset f i v) i u = fset f i u := by funext j; unfold fset; by_cases h : j = i <;> simp [h]
theorem fs_id {α : Type} {f : Int → α} {i : Int} : fset f i (f i) = f := by funext j; unfold fset; by_cases h : j = i <;> simp [h]
def mdH (h : PH) (i : Nat → Int) (A : Nat → Int → Int) : PH := (h.1, h.2.1, fun k => if k = 71 then mdO i else if k = 72 then aI 0 3069 (A 72) else if k = 73 then aI 2 2 (A 73) else if k = 74 then aI 0 900 (A 74) else if k = 75 then aI 0 1023 (A 75) else if k = 76 then aI 0 900 (A 76) else if k = 77 then aI 0 8 (A 77) else if k = 78 then aI 0 9 (A 78) else if k = 79 then aI 0 24000 (A 79) else if k = 80 then aI 0 456000 (A 80) else if k = 81 then aI 0 24000 (A 81) else if k = 82 then aI 0 98304 (A 82) else if k = 83 then aL 24000 (A 83) else if k = 84 then aL 24000 (A 84) else if k = 85 then aL 216000 (A 85) else if k = 86 then aI 0 10 (A 86) else if k = 87 then aI 0 4 (A 87) else if k = 88 then aI 0 4 (A 88) else if k = 89 then aL 160 (A 89) else h.2.2 k)
theorem md_1 {h : PH} {i : Nat → Int} {A : Nat → Int → Int} : (mdH h i A).1 = h.1 := rfl
theorem md_2 {h : PH} {i : Nat → Int} {A : Nat → Int → Int} : (mdH h i A).2.1 = h.2.1 := rfl
theorem md_g71 {h : PH} {i : Nat → Int} {A : Nat → Int → Int} : hp (mdH h i A) 71 = mdO i := rfl
theorem md_g72 {h : PH} {i : Nat → Int} {A : Nat → Int → Int} : hp (mdH h i A) 72 = aI 0 3069 (A 72) := rfl
theorem md_g73 {h : PH} {i : Nat → Int} {A : Nat → Int → Int} : hp (mdH h i A) 73 = aI 2 2 (A 73) := rfl
theorem md_g74 {h : PH} {i : Nat → Int} {A : Nat → Int → Int} : hp (mdH h i A) 74 = aI 0 900 (A 74) := rfl
theorem md_g75 {h : PH} {i : Nat → Int} {A : Nat → Int → Int} : hp (mdH h i A) 75 = aI 0 1023 (A 75) := rfl
theorem md_g76 {h : PH} {i : Nat → Int} {A : Nat → Int → Int} : hp (mdH h i A) 76 = aI 0 900 (A 76) := rfl
theorem md_g77 {h : PH} {i : Nat → Int} {A : Nat → Int → Int} : hp (mdH h i A) 77 = aI 0 8 (A 77) := rfl
theorem md_g78 {h : PH} {i : Nat → Int} {A : Nat → Int → Int} : hp (mdH h i A) 78 = aI 0 9 (A 78) := rfl
theorem md_g79 {h : PH} {i : Nat → Int} {A : Nat → Int → Int} : hp (mdH h i A) 79 = aI 0 24000 (A 79) := rfl
theorem md_g80 {h : PH} {i : Nat → Int} {A : Nat → Int → Int} : hp (mdH h i A) 80 = aI 0 456000 (A 80) := rfl
theorem md_g81 {h : PH} {i : Nat → Int} {A : Nat → Int → Int} : hp (mdH h i A) 81 = aI 0 24000 (A 81) := rfl
theorem md_g82 {h : PH} {i : Nat → Int} {A : Nat → Int → Int} : hp (mdH h i A) 82 = aI 0 98304 (A 82) := rfl
theorem md_g83 {h : PH} {i : Nat → Int} {A : Nat → Int → Int} : hp (mdH h i A) 83 = aL 24000 (A 83) := rfl
theorem md_g84 {h : PH} {i : Nat → Int} {A : Nat → Int → Int} : hp (mdH h i A) 84 = aL 24000 (A 84) := rfl
theorem md_g85 {h : PH} {i : Nat → Int} {A : Nat → Int → Int} : hp (mdH h i A) 85 = aL 216000 (A 85) := rfl
theorem md_g86 {h : PH} {i : Nat → Int} {A : Nat → Int → Int} : hp (mdH h i A) 86 = aI 0 10 (A 86) := rfl
theorem md_g87 {h : PH} {i : Nat → Int} {A : Nat → Int → Int} : hp (mdH h i A) 87 = aI 0 4 (A 87) := rfl
theorem md_g88 {h : PH} {i : Nat → Int} {A : Nat → Int → Int} : hp (mdH h i A) 88 = aI 0 4 (A 88) := rfl
theorem md_g89 {h : PH} {i : Nat → Int} {A : Nat → Int → Int} : hp (mdH h i A) 89 = aL 160 (A 89) := rfl
theorem md_out {h : PH} {i : Nat → Int} {A : Nat → Int → Int} {k : Nat} (hk : k < 71 ∨ 89 < k) : hp (mdH h i A) k = hp h k := by
  unfold hp mdH
  dsimp only
  rw [if_neg (by omega), if_neg (by omega), if_neg (by omega), if_neg (by omega), if_neg (by omega), if_neg (by omega), if_neg (by omega), if_neg (by omega), if_neg (by omega), if_neg (by omega), if_neg (by omega), if_neg (by omega), if_neg (by omega), if_neg (by omega), if_neg (by omega), if_neg (by omega), if_neg (by omega), if_neg (by omega), if_neg (by omega)]
theorem md_u71 {h : PH} {i : Nat → Int} {A : Nat → Int → Int} {j : Nat → Int} : hup (mdH h i A) 71 (mdO j) = mdH h j A := by
  unfold hup mdH
  refine Prod.ext rfl (Prod.ext rfl (funext fun k => ?_))
  dsimp only
  by_cases e : k = 71 <;> simp only [e, if_true, if_false, reduceIte]
theorem md_u72 {h : PH} {i : Nat → Int} {A : Nat → Int → Int} {f : Int → Int} : hup (mdH h i A) 72 (aI 0 3069 f) = mdH h i (aup A 72 f) := by
  unfold hup mdH
  refine Prod.ext rfl (Prod.ext rfl (funext fun k => ?_))
  dsimp only
  by_cases e : k = 72
  · subst e; rfl
  · simp only [e, if_false, aup_n, ne_eq, Nat.reduceEqDiff, not_false_eq_true]
theorem md_u73 {h : PH} {i : Nat → Int} {A : Nat → Int → Int} {f : Int → Int} : hup (mdH h i A) 73 (aI 2 2 f) = mdH h i (aup A 73 f) := by
  unfold hup mdH
  refine Prod.ext rfl (Prod.ext rfl (funext fun k => ?_))
  dsimp only
  by_cases e : k = 73
  · subst e; rfl
  · simp only [e, if_false, aup_n, ne_eq, Nat.reduceEqDiff, not_false_eq_true]
theorem md_u74 {h : PH} {i : Nat → Int} {A : Nat → Int → Int} {f : Int → Int} : hup (mdH h i A) 74 (aI 0 900 f) = mdH h i (aup A 74 f) := by
  unfold hup mdH
  refine Prod.ext rfl (Prod.ext rfl (funext fun k => ?_))
  dsimp only
  by_cases e : k = 74
  · subst e; rfl
  · simp only [e, if_false, aup_n, ne_eq, Nat.reduceEqDiff, not_false_eq_true]
theorem md_u75 {h : PH} {i : Nat → Int} {A : Nat → Int → Int} {f : Int → Int} : hup (mdH h i A) 75 (aI 0 1023 f) = mdH h i (aup A 75 f) := by
  unfold hup mdH
  refine Prod.ext rfl (Prod.ext rfl (funext fun k => ?_))
  dsimp only
  by_cases e : k = 75
  · subst e; rfl
  · simp only [e, if_false, aup_n, ne_eq, Nat.reduceEqDiff, not_false_eq_true]
theorem md_u76 {h : PH} {i : Nat → Int} {A : Nat → Int → Int} {f : Int → Int} : hup (mdH h i A) 76 (aI 0 900 f) = mdH h i (aup A 76 f) := by
  unfold hup mdH
  refine Prod.ext rfl (Prod.ext rfl (funext fun k => ?_))
  dsimp only
  by_cases e : k = 76
  · subst e; rfl
  · simp only [e, if_false, aup_n, ne_eq, Nat.reduceEqDiff, not_false_eq_true]
theorem md_u77 {h : PH} {i : Nat → Int} {A : Nat → Int → Int} {f : Int → Int} : hup (mdH h i A) 77 (aI 0 8 f) = mdH h i (aup A 77 f) := by
  unfold hup mdH
  refine Prod.ext rfl (Prod.ext rfl (funext fun k => ?_))
  dsimp only
  by_cases e : k = 77
  · subst e; rfl
  · simp only [e, if_false, aup_n, ne_eq, Nat.reduceEqDiff, not_false_eq_true]
theorem md_u78 {h : PH} {i : Nat → Int} {A : Nat → Int → Int} {f : Int → Int} : hup (mdH h i A) 78 (aI 0 9 f) = mdH h i (aup A 78 f) := by
  unfold hup mdH
  refine Prod.ext rfl (Prod.ext rfl (funext fun k => ?_))
  dsimp only
  by_cases e : k = 78
  · subst e; rfl
  · simp only [e, if_false, aup_n, ne_eq, Nat.reduceEqDiff, not_false_eq_true]
theorem md_u79 {h : PH} {i : Nat → Int} {A : Nat → Int → Int} {f : Int → Int} : hup (mdH h i A) 79 (aI 0 24000 f) = mdH h i (aup A 79 f) := by
  unfold hup mdH
  refine Prod.ext rfl (Prod.ext rfl (funext fun k => ?_))
  dsimp only
  by_cases e : k = 79
  · subst e; rfl
  · simp only [e, if_false, aup_n, ne_eq, Nat.reduceEqDiff, not_false_eq_true]
theorem md_u80 {h : PH} {i : Nat → Int} {A : Nat → Int → Int} {f : Int → Int} : hup (mdH h i A) 80 (aI 0 456000 f) = mdH h i (aup A 80 f) := by
  unfold hup mdH
  refine Prod.ext rfl (Prod.ext rfl (funext fun k => ?_))
  dsimp only
  by_cases e : k = 80
  · subst e; rfl
  · simp only [e, if_false, aup_n, ne_eq, Nat.reduceEqDiff, not_false_eq_true]
theorem md_u81 {h : PH} {i : Nat → Int} {A : Nat → Int → Int} {f : Int → Int} : hup (mdH h i A) 81 (aI 0 24000 f) = mdH h i (aup A 81 f) := by
  unfold hup mdH
  refine Prod.ext rfl (Prod.ext rfl (funext fun k => ?_))
  dsimp only
  by_cases e : k = 81
  · subst e; rfl
  · simp only [e, if_false, aup_n, ne_eq, Nat.reduceEqDiff, not_false_eq_true]
theorem md_u82 {h : PH} {i : Nat → Int} {A : Nat → Int → Int} {f : Int → Int} : hup (mdH h i A) 82 (aI 0 98304 f) = mdH h i (aup A 82 f) := by
  unfold hup mdH
  refine Prod.ext rfl (Prod.ext rfl (funext fun k => ?_))
  dsimp only
  by_cases e : k = 82
  · subst e; rfl
  · simp only [e, if_false, aup_n, ne_eq, Nat.reduceEqDiff, not_false_eq_true]
theorem md_u83 {h : PH} {i : Nat → Int} {A : Nat → Int → Int} {f : Int → Int} : hup (mdH h i A) 83 (aL 24000 f) = mdH h i (aup A 83 f) := by
  unfold hup mdH
  refine Prod.ext rfl (Prod.ext rfl (funext fun k => ?_))
  dsimp only
  by_cases e : k = 83
  · subst e; rfl
  · simp only [e, if_false, aup_n, ne_eq, Nat.reduceEqDiff, not_false_eq_true]
theorem md_u84 {h : PH} {i : Nat → Int} {A : Nat → Int → Int} {f : Int → Int} : hup (mdH h i A) 84 (aL 24000 f) = mdH h i (aup A 84 f) := by
  unfold hup mdH
  refine Prod.ext rfl (Prod.ext rfl (funext fun k => ?_))
  dsimp only
  by_cases e : k = 84
  · subst e; rfl
  · simp only [e, if_false, aup_n, ne_eq, Nat.reduceEqDiff, not_false_eq_true]
theorem md_u85 {h : PH} {i : Nat → Int} {A : Nat → Int → Int} {f : Int → Int} : hup (mdH h i A) 85 (aL 216000 f) = mdH h i (aup A 85 f) := by
  unfold hup mdH
  refine Prod.ext rfl (Prod.ext rfl (funext fun k => ?_))
  dsimp only
  by_cases e : k = 85
  · subst e; rfl
  · simp only [e, if_false, aup_n, ne_eq, Nat.reduceEqDiff, not_false_eq_true]
theorem md_u86 {h : PH} {i : Nat → Int} {A : Nat → Int → Int} {f : Int → Int} : hup (mdH h i A) 86 (aI 0 10 f) = mdH h i (aup A 86 f) := by
  unfold hup mdH
  refine Prod.ext rfl (Prod.ext rfl (funext fun k => ?_))
  dsimp only
  by_cases e : k = 86
  · subst e; rfl
  · simp only [e, if_false, aup_n, ne_eq, Nat.reduceEqDiff, not_false_eq_true]
theorem md_u87 {h : PH} {i : Nat → Int} {A : Nat → Int → Int} {f : Int → Int} : hup (mdH h i A) 87 (aI 0 4 f) = mdH h i (aup A 87 f) := by
  unfold hup mdH
  refine Prod.ext rfl (Prod.ext rfl (funext fun k => ?_))
  dsimp only
  by_cases e : k = 87
  · subst e; rfl
  · simp only [e, if_false, aup_n, ne_eq, Nat.reduceEqDiff, not_false_eq_true]
theorem md_u88 {h : PH} {i : Nat → Int} {A : Nat → Int → Int} {f : Int → Int} : hup (mdH h i A) 88 (aI 0 4 f) = mdH h i (aup A 88 f) := by
  unfold hup mdH
  refine Prod.ext rfl (Prod.ext rfl (funext fun k => ?_))
  dsimp only
  by_cases e : k = 88
  · subst e; rfl
  · simp only [e, if_false, aup_n, ne_eq, Nat.reduceEqDiff, not_false_eq_true]
theorem md_u89 {h : PH} {i : Nat → Int} {A : Nat → Int → Int} {f : Int → Int} : hup (mdH h i A) 89 (aL 160 f) = mdH h i (aup A 89 f) := by
  unfold hup mdH
  refine Prod.ext rfl (Prod.ext rfl (funext fun k => ?_))
  dsimp only
  by_cases e : k = 89
  · subst e; rfl
  · simp only [e, if_false, aup_n, ne_eq, Nat.reduceEqDiff, not_false_eq_true]
theorem md_uo {h : PH} {i : Nat → Int} {A : Nat → Int → Int} {k : Nat} {c : PC} (hk : k < 71 ∨ 89 < k) : hup (mdH h i A) k c = mdH (hup h k c) i A := by
  unfold hup mdH
  refine Prod.ext rfl (Prod.ext rfl (funext fun j => ?_))
  dsimp only
  by_cases e : j = k
  · subst e; rw [if_pos rfl, if_neg (by omega), if_neg (by omega), if_neg (by omega), if_neg (by omega), if_neg (by omega), if_neg (by omega), if_neg (by omega), if_neg (by omega), if_neg (by omega), if_neg (by omega), if_neg (by omega), if_neg (by omega), if_neg (by omega), if_neg (by omega), if_neg (by omega), if_neg (by omega), if_neg (by omega), if_neg (by omega), if_neg (by omega), if_pos rfl]
  · rw [if_neg e]; simp only [e, if_false]
theorem md_id {h : PH} {i : Nat → Int} {A : Nat → Int → Int} (hh : hp h 71 = mdO i) (h72 : hp h 72 = aI 0 3069 (A 72)) (h73 : hp h 73 = aI 2 2 (A 73)) (h74 : hp h 74 = aI 0 900 (A 74)) (h75 : hp h 75 = aI 0 1023 (A 75)) (h76 : hp h 76 = aI 0 900 (A 76)) (h77 : hp h 77 = aI 0 8 (A 77)) (h78 : hp h 78 = aI 0 9 (A 78)) (h79 : hp h 79 = aI 0 24000 (A 79)) (h80 : hp h 80 = aI 0 456000 (A 80)) (h81 : hp h 81 = aI 0 24000 (A 81)) (h82 : hp h 82 = aI 0 98304 (A 82)) (h83 : hp h 83 = aL 24000 (A 83)) (h84 : hp h 84 = aL 24000 (A 84)) (h85 : hp h 85 = aL 216000 (A 85)) (h86 : hp h 86 = aI 0 10 (A 86)) (h87 : hp h 87 = aI 0 4 (A 87)) (h88 : hp h 88 = aI 0 4 (A 88)) (h89 : hp h 89 = aL 160 (A 89)) : mdH h i A = h := by
  unfold mdH
  refine Prod.ext rfl (Prod.ext rfl (funext fun k => ?_))
  dsimp only
  by_cases e71 : k = 71
  · rw [if_pos e71, e71]; exact hh.symm
  by_cases e72 : k = 72
  · rw [if_neg e71, if_pos e72, e72]; exact h72.symm
  by_cases e73 : k = 73
  · rw [if_neg e71, if_neg e72, if_pos e73, e73]; exact h73.symm
  by_cases e74 : k = 74
  · rw [if_neg e71, if_neg e72, if_neg e73, if_pos e74, e74]; exact h74.symm
  by_cases e75 : k = 75
  · rw [if_neg e71, if_neg e72, if_neg e73, if_neg e74, if_pos e75, e75]; exact h75.symm
  by_cases e76 : k = 76
  · rw [if_neg e71, if_neg e72, if_neg e73, if_neg e74, if_neg e75, if_pos e76, e76]; exact h76.symm
  by_cases e77 : k = 77
  · rw [if_neg e71, if_neg e72, if_neg e73, if_neg e74, if_neg e75, if_neg e76, if_pos e77, e77]; exact h77.symm
  by_cases e78 : k = 78
  · rw [if_neg e71, if_neg e72, if_neg e73, if_neg e74, if_neg e75, if_neg e76, if_neg e77, if_pos e78, e78]; exact h78.symm
  by_cases e79 : k = 79
  · rw [if_neg e71, if_neg e72, if_neg e73, if_neg e74, if_neg e75, if_neg e76, if_neg e77, if_neg e78, if_pos e79, e79]; exact h79.symm
  by_cases e80 : k = 80
  · rw [if_neg e71, if_neg e72, if_neg e73, if_neg e74, if_neg e75, if_neg e76, if_neg e77, if_neg e78, if_neg e79, if_pos e80, e80]; exact h80.symm
  by_cases e81 : k = 81
  · rw [if_neg e71, if_neg e72, if_neg e73, if_neg e74, if_neg e75, if_neg e76, if_neg e77, if_neg e78, if_neg e79, if_neg e80, if_pos e81, e81]; exact h81.symm
  by_cases e82 : k = 82
  · rw [if_neg e71, if_neg e72, if_neg e73, if_neg e74, if_neg e75, if_neg e76, if_neg e77, if_neg e78, if_neg e79, if_neg e80, if_neg e81, if_pos e82, e82]; exact h82.symm
  by_cases e83 : k = 83
  · rw [if_neg e71, if_neg e72, if_neg e73, if_neg e74, if_neg e75, if_neg e76, if_neg e77, if_neg e78, if_neg e79, if_neg e80, if_neg e81, if_neg e82, if_pos e83, e83]; exact h83.symm
  by_cases e84 : k = 84
  · rw [if_neg e71, if_neg e72, if_neg e73, if_neg e74, if_neg e75, if_neg e76, if_neg e77, if_neg e78, if_neg e79, if_neg e80, if_neg e81, if_neg e82, if_neg e83, if_pos e84, e84]; exact h84.symm
  by_cases e85 : k = 85
  · rw [if_neg e71, if_neg e72, if_neg e73, if_neg e74, if_neg e75, if_neg e76, if_neg e77, if_neg e78, if_neg e79, if_neg e80, if_neg e81, if_neg e82, if_neg e83, if_neg e84, if_pos e85, e85]; exact h85.symm
  by_cases e86 : k = 86
  · rw [if_neg e71, if_neg e72, if_neg e73, if_neg e74, if_neg e75, if_neg e76, if_neg e77, if_neg e78, if_neg e79, if_neg e80, if_neg e81, if_neg e82, if_neg e83, if_neg e84, if_neg e85, if_pos e86, e86]; exact h86.symm
  by_cases e87 : k = 87
  · rw [if_neg e71, if_neg e72, if_neg e73, if_neg e74, if_neg e75, if_neg e76, if_neg e77, if_neg e78, if_neg e79, if_neg e80, if_neg e81, if_neg e82, if_neg e83, if_neg e84, if_neg e85, if_neg e86, if_pos e87, e87]; exact h87.symm
  by_cases e88 : k = 88
  · rw [if_neg e71, if_neg e72, if_neg e73, if_neg e74, if_neg e75, if_neg e76, if_neg e77, if_neg e78, if_neg e79, if_neg e80, if_neg e81, if_neg e82, if_neg e83, if_neg e84, if_neg e85, if_neg e86, if_neg e87, if_pos e88, e88]; exact h88.symm
  by_cases e89 : k = 89
  · rw [if_neg e71, if_neg e72, if_neg e73, if_neg e74, if_neg e75, if_neg e76, if_neg e77, if_neg e78, if_neg e79, if_neg e80, if_neg e81, if_neg e82, if_neg e83, if_neg e84, if_neg e85, if_neg e86, if_neg e87, if_neg e88, if_pos e89, e89]; exact h89.symm
  rw [if_neg e71, if_neg e72, if_neg e73, if_neg e74, if_neg e75, if_neg e76, if_neg e77, if_neg e78, if_neg e79, if_neg e80, if_neg e81, if_neg e82, if_neg e83, if_neg e84, if_neg e85, if_neg e86, if_neg e87, if_neg e88, if_neg e89]
def hoH (h : PH) (ca : Nat) (i : Nat → Int) (A : Nat → Int → Int) : PH := (h.1, h.2.1, fun k => if k = 27 then hoO i (vr ca) else if k = 28 then aI 0 2400 (A 28) else if k = 29 then aI 0 6000 (A 29) else if k = 30 then aI 0 7 (A 30) else if k = 31 then aI 0 64 (A 31) else if k = 32 then aI 0 16 (A 32) else if k = 33 then aI 0 16 (A 33) else h.2.2 k)
theorem ho_1 {h : PH} {ca : Nat} {i : Nat → Int} {A : Nat → Int → Int} : (hoH h ca i A).1 = h.1 := rfl
theorem ho_2 {h : PH} {ca : Nat} {i : Nat → Int} {A : Nat → Int → Int} : (hoH h ca i A).2.1 = h.2.1 := rfl
theorem ho_g27 {h : PH} {ca : Nat} {i : Nat → Int} {A : Nat → Int → Int} : hp (hoH h ca i A) 27 = hoO i (vr ca) := rfl
theorem ho_g28 {h : PH} {ca : Nat} {i : Nat → Int} {A : Nat → Int → Int} : hp (hoH h ca i A) 28 = aI 0 2400 (A 28) := rfl
theorem ho_g29 {h : PH} {ca : Nat} {i : Nat → Int} {A : Nat → Int → Int} : hp (hoH h ca i A) 29 = aI 0 6000 (A 29) := rfl
theorem ho_g30 {h : PH} {ca : Nat} {i : Nat → Int} {A : Nat → Int → Int} : hp (hoH h ca i A) 30 = aI 0 7 (A 30) := rfl
theorem ho_g31 {h : PH} {ca : Nat} {i : Nat → Int} {A : Nat → Int → Int} : hp (hoH h ca i A) 31 = aI 0 64 (A 31) := rfl
theorem ho_g32 {h : PH} {ca : Nat} {i : Nat → Int} {A : Nat → Int → Int} : hp (hoH h ca i A) 32 = aI 0 16 (A 32) := rfl
theorem ho_g33 {h : PH} {ca : Nat} {i : Nat → Int} {A : Nat → Int → Int} : hp (hoH h ca i A) 33 = aI 0 16 (A 33) := rfl
theorem ho_out {h : PH} {ca : Nat} {i : Nat → Int} {A : Nat → Int → Int} {k : Nat} (hk : k < 27 ∨ 33 < k) : hp (hoH h ca i A) k = hp h k := by
  unfold hp hoH
  dsimp only
  rw [if_neg (by omega), if_neg (by omega), if_neg (by omega), if_neg (by omega), if_neg (by omega), if_neg (by omega), if_neg (by omega)]
theorem ho_u27 {h : PH} {ca : Nat} {i : Nat → Int} {A : Nat → Int → Int} {cb : Nat} {j : Nat → Int} : hup (hoH h ca i A) 27 (hoO j (vr cb)) = hoH h cb j A := by
  unfold hup hoH
  refine Prod.ext rfl (Prod.ext rfl (funext fun k => ?_))
  dsimp only
  by_cases e : k = 27 <;> simp only [e, if_true, if_false, reduceIte]
theorem ho_u28 {h : PH} {ca : Nat} {i : Nat → Int} {A : Nat → Int → Int} {f : Int → Int} : hup (hoH h ca i A) 28 (aI 0 2400 f) = hoH h ca i (aup A 28 f) := by
  unfold hup hoH
  refine Prod.ext rfl (Prod.ext rfl (funext fun k => ?_))
  dsimp only
  by_cases e : k = 28
  · subst e; rfl
  · simp only [e, if_false, aup_n, ne_eq, Nat.reduceEqDiff, not_false_eq_true]
theorem ho_u29 {h : PH} {ca : Nat} {i : Nat → Int} {A : Nat → Int → Int} {f : Int → Int} : hup (hoH h ca i A) 29 (aI 0 6000 f) = hoH h ca i (aup A 29 f) := by
  unfold hup hoH
  refine Prod.ext rfl (Prod.ext rfl (funext fun k => ?_))
  dsimp only
  by_cases e : k = 29
  · subst e; rfl
  · simp only [e, if_false, aup_n, ne_eq, Nat.reduceEqDiff, not_false_eq_true]
theorem ho_u30 {h : PH} {ca : Nat} {i : Nat → Int} {A : Nat → Int → Int} {f : Int → Int} : hup (hoH h ca i A) 30 (aI 0 7 f) = hoH h ca i (aup A 30 f) := by
  unfold hup hoH
  refine Prod.ext rfl (Prod.ext rfl (funext fun k => ?_))
  dsimp only
  by_cases e : k = 30
  · subst e; rfl
  · simp only [e, if_false, aup_n, ne_eq, Nat.reduceEqDiff, not_false_eq_true]
theorem ho_u31 {h : PH} {ca : Nat} {i : Nat → Int} {A : Nat → Int → Int} {f : Int → Int} : hup (hoH h ca i A) 31 (aI 0 64 f) = hoH h ca i (aup A 31 f) := by
  unfold hup hoH
  refine Prod.ext rfl (Prod.ext rfl (funext fun k => ?_))
  dsimp only
  by_cases e : k = 31
  · subst e; rfl
  · simp only [e, if_false, aup_n, ne_eq, Nat.reduceEqDiff, not_false_eq_true]
theorem ho_u32 {h : PH} {ca : Nat} {i : Nat → Int} {A : Nat → Int → Int} {f : Int → Int} : hup (hoH h ca i A) 32 (aI 0 16 f) = hoH h ca i (aup A 32 f) := by
  unfold hup hoH
  refine Prod.ext rfl (Prod.ext rfl (funext fun k => ?_))
  dsimp only
  by_cases e : k = 32
  · subst e; rfl
  · simp only [e, if_false, aup_n, ne_eq, Nat.reduceEqDiff, not_false_eq_true]
theorem ho_u33 {h : PH} {ca : Nat} {i : Nat → Int} {A : Nat → Int → Int} {f : Int → Int} : hup (hoH h ca i A) 33 (aI 0 16 f) = hoH h ca i (aup A 33 f) := by
  unfold hup hoH
  refine Prod.ext rfl (Prod.ext rfl (funext fun k => ?_))
  dsimp only
  by_cases e : k = 33
  · subst e; rfl
  · simp only [e, if_false, aup_n, ne_eq, Nat.reduceEqDiff, not_false_eq_true]
theorem ho_uo {h : PH} {ca : Nat} {i : Nat → Int} {A : Nat → Int → Int} {k : Nat} {c : PC} (hk : k < 27 ∨ 33 < k) : hup (hoH h ca i A) k c = hoH (hup h k c) ca i A := by
  unfold hup hoH
  refine Prod.ext rfl (Prod.ext rfl (funext fun j => ?_))
  dsimp only
  by_cases e : j = k
  · subst e; rw [if_pos rfl, if_neg (by omega), if_neg (by omega), if_neg (by omega), if_neg (by omega), if_neg (by omega), if_neg (by omega), if_neg (by omega), if_pos rfl]
  · rw [if_neg e]; simp only [e, if_false]
theorem ho_id {h : PH} {ca : Nat} {i : Nat → Int} {A : Nat → Int → Int} (hh : hp h 27 = hoO i (vr ca)) (h28 : hp h 28 = aI 0 2400 (A 28)) (h29 : hp h 29 = aI 0 6000 (A 29)) (h30 : hp h 30 = aI 0 7 (A 30)) (h31 : hp h 31 = aI 0 64 (A 31)) (h32 : hp h 32 = aI 0 16 (A 32)) (h33 : hp h 33 = aI 0 16 (A 33)) : hoH h ca i A = h := by
  unfold hoH
  refine Prod.ext rfl (Prod.ext rfl (funext fun k => ?_))
  dsimp only
  by_cases e27 : k = 27
  · rw [if_pos e27, e27]; exact hh.symm
  by_cases e28 : k = 28
  · rw [if_neg e27, if_pos e28, e28]; exact h28.symm
  by_cases e29 : k = 29
  · rw [if_neg e27, if_neg e28, if_pos e29, e29]; exact h29.symm
  by_cases e30 : k = 30
  · rw [if_neg e27, if_neg e28, if_neg e29, if_pos e30, e30]; exact h30.symm
  by_cases e31 : k = 31
  · rw [if_neg e27, if_neg e28, if_neg e29, if_neg e30, if_pos e31, e31]; exact h31.symm
  by_cases e32 : k = 32
  · rw [if_neg e27, if_neg e28, if_neg e29, if_neg e30, if_neg e31, if_pos e32, e32]; exact h32.symm
  by_cases e33 : k = 33
  · rw [if_neg e27, if_neg e28, if_neg e29, if_neg e30, if_neg e31, if_neg e32, if_pos e33, e33]; exact h33.symm
  rw [if_neg e27, if_neg e28, if_neg e29, if_neg e30, if_neg e31, if_neg e32, if_neg e33]
