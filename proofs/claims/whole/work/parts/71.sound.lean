/-! SOUNDNESS: what the pure machine does, the machine does -/
abbrev AX : Type := Nat × (Nat → Nat) × Option Nat
def adO (X : AX) (k : Nat) : Option Nat := if k < 9 then some (X.2.1 k) else if k = 9 then X.2.2 else some (X.1 + (k - 10))
def adr (X : AX) (k : Nat) : Nat := if k < 9 then X.2.1 k else X.1 + (k - 10)
theorem adO_ne {X : AX} {k : Nat} (h : k ≠ 9) : adO X k = some (adr X k) := by
  unfold adO adr
  by_cases h1 : k < 9
  · rw [if_pos h1, if_pos h1]
  · rw [if_neg h1, if_neg h1, if_neg h]
theorem adr_hi {X : AX} {k : Nat} (h : 10 ≤ k) : adr X k = X.1 + (k - 10) := by unfold adr; rw [if_neg (by omega)]
theorem adO_inj {X : AX} {x y : Option Nat} (h1 : okR x) (h2 : okR y) : x.bind (adO X) = y.bind (adO X) ↔ x = y := by
  cases x with
  | none =>
    cases y with
    | none => simp
    | some b =>
      have hb : 10 ≤ b := h2
      rw [Option.bind_some, adO_ne (by omega)]
      simp
  | some a =>
    have ha : 10 ≤ a := h1
    cases y with
    | none => rw [Option.bind_some, adO_ne (by omega)]; simp
    | some b =>
      have hb : 10 ≤ b := h2
      rw [Option.bind_some, Option.bind_some, adO_ne (by omega), adO_ne (by omega), adr_hi ha, adr_hi hb]
      simp only [Option.some.injEq]
      omega
def tr (X : AX) (v : PV) : Value := match v with
  | .inl x => .int (Int32.ofInt x)
  | .inr (.inl x) => .long (Int64.ofInt x)
  | .inr (.inr r) => va_rf (r.bind (adO X))
theorem tr_r {X : AX} {a : Nat} (h : a ≠ 9) : tr X (vr a) = .ref (adr X a) := by
  show va_rf ((some a).bind (adO X)) = _
  rw [Option.bind_some, adO_ne h]
  rfl
def toE (X : AX) (aC : Nat → ClassId) (c : PC) : va_E := match c with
  | .inl (ci, fs) => .inr (ci, fs.map (tr X))
  | .inr (.inl (t, n, f)) => .inl (aC t, n, .inl (fun j => Int32.ofInt (f j)))
  | .inr (.inr (.inl (n, f))) => .inl (aC 3, n, .inr (.inl (fun j => Int64.ofInt (f j))))
  | .inr (.inr (.inr (t, n, f))) => .inl (aC (4 + t), n, .inr (.inr (.inr (.inr (fun j => (f j).bind (adO X))))))
def okCx (c : PC) : Prop := match c with
  | .inl (ci, fs) => ∃ r, clsL[ci]? = some r ∧ fs.length = r.2.2
  | .inr (.inl (t, _, _)) => t < 3
  | .inr (.inr (.inl _)) => True
  | .inr (.inr (.inr (t, _, _))) => t < 2
def wsO (X : AX) (aC : Nat → ClassId) (h : PH) : va_W := (List.range (h.1 - 10)).map (fun k => (X.1 + k, toE X aC (hp h (k + 10))))
def tysL (aC : Nat → ClassId) : List (ClassId × FieldType) := [(aC 0, .int), (aC 1, .byte), (aC 2, .boolean), (aC 3, .long), (aC 4, .object "BearerKin$Moment"), (aC 5, .array .int)]
def strB : List (List Int32) := [[], [99, 111, 117, 110, 116, 121, 32, 112, 108, 97, 99, 101, 115, 32, 104, 101, 105, 103, 104, 116, 32, 119, 97, 121, 32, 107, 105, 110, 32, 97, 116, 32, 97, 103, 101, 32, 115, 116, 114, 101, 110, 103, 116, 104, 32, 98, 101, 97, 114, 115, 32, 119, 101, 97, 116, 104, 101, 114, 32, 116, 105, 114, 101, 115, 32, 109, 97, 121, 32, 105, 102, 32, 116, 104, 101, 110, 32, 101, 108, 115, 101, 32, 101, 110, 100, 32, 103, 111, 101, 115, 32, 102, 114, 111, 109, 32, 111, 114, 32, 97, 110, 100, 32, 110, 111, 116], [59, 58, 43, 45, 42, 40, 41, 91, 93, 61, 60, 62], [32, 99, 111, 117, 110, 116, 121, 32, 112, 108, 97, 99, 101, 115, 32, 104, 101, 105, 103, 104, 116, 32, 119, 97, 121, 32, 107, 105, 110, 32, 97, 116, 32, 97, 103, 101, 32, 115, 116, 114, 101, 110, 103, 116, 104, 32, 98, 101, 97, 114, 115, 32, 119, 101, 97, 116, 104, 101, 114, 32, 116, 105, 114, 101, 115, 32, 109, 97, 121, 32, 105, 102, 32, 116, 104, 101, 110, 32, 101, 108, 115, 101, 32, 101, 110, 100, 32, 103, 111, 101, 115, 32, 102, 114, 111, 109, 32, 97, 110, 100, 32, 111, 114, 32, 110, 111, 116, 32], [59, 58, 43, 45, 42, 40, 41, 91, 93, 61, 60, 62]]
def sLen (k : Nat) : Nat := (strB.getD k []).length
def sByt (k j : Nat) : Int32 := (strB.getD k []).getD j 0
def va_AOA (t : FieldType) (U : State) : Prop := (Cond.arrayOver (.array t)).before #[] U = true
theorem va_AOA.use {t : FieldType} {A : Array Value} {U : State} (h : va_AOA t U) : (Cond.arrayOver (.array t)).before A U = true := h
def nestM (k : Nat) : MethodName := if k = 9 then yX9_init else if k = 41 then yX3_init else yX10_init
/-- what the tables say beyond the good words, and the classes -/
def KS (X : AX) (D : va_G) (aC : Nat → ClassId) (s : State) : Prop :=
  va_K D clsL (tysL aC) s ∧ (∀ k, k = 9 ∨ k = 41 ∨ k = 76 → va_Nw (.methodLinkNest "BearerKin" k (nestM k) "BearerKin") s) ∧ va_Nw (.castable "[I" "java/lang/Cloneable") s ∧ va_AO "BearerKin$Moment" s ∧ va_AOA .int s ∧
  (vk_R "BearerKin$Tokens" 71 "county places height way kin at age strength bears weather tires may if then else end goes from or and not" (X.2.1 1) s ∧ vk_R "BearerKin$Tokens" 60 ";:+-*()[]=<>" (X.2.1 2) s ∧ vk_R "BearerKinModel" 90 " county places height way kin at age strength bears weather tires may if then else end goes from and or not " (X.2.1 3) s ∧ vk_R "BearerKinModel" 128 ";:+-*()[]=<>" (X.2.1 4) s)
/-- cells that were there before: the script, the constant texts, two statics -/
def RO (X : AX) (L : Nat) (xs : Nat → Int32) (s : State) (H : Heap) : Prop :=
  va_T .int (X.2.1 0) L (fun j => .int (xs j)) (fun q => X.1 ≤ q) s H ∧
  (∀ k, 1 ≤ k → k ≤ 4 → va_O "java/lang/String" (X.2.1 k) (fun q => X.1 ≤ q) s H ∧ va_OF "java/lang/String" "coder" "B" (.int 0) (X.2.1 k) (fun q => X.1 ≤ q) s H ∧ va_OF "java/lang/String" "value" "[B" (.ref (X.2.1 (k + 4))) (X.2.1 k) (fun q => X.1 ≤ q) s H ∧ va_T .byte (X.2.1 (k + 4)) (sLen k) (fun j => .int (sByt k j)) (fun q => X.1 ≤ q) s H) ∧
  va_Z "java/lang/String" "COMPACT_STRINGS" "Z" (.int 1) (fun q => X.1 ≤ q) s H ∧ va_Z "jdk/internal/util/Preconditions" "SIOOBE_FORMATTER" "Ljava/util/function/BiFunction;" (va_rf X.2.2) (fun q => X.1 ≤ q) s H
def roC (L : Nat) (xs : Nat → Int32) (k : Nat) : PC := match k with
  | 0 => aI 0 L (fun j => (xs j.toNat).toInt)
  | 1 => oC 13 [vr 5, vi 0]
  | 2 => oC 13 [vr 6, vi 0]
  | 3 => oC 13 [vr 7, vi 0]
  | 4 => oC 13 [vr 8, vi 0]
  | 5 => aI 1 (sLen 1) (fun j => (sByt 1 j.toNat).toInt)
  | 6 => aI 1 (sLen 2) (fun j => (sByt 2 j.toNat).toInt)
  | 7 => aI 1 (sLen 3) (fun j => (sByt 3 j.toNat).toInt)
  | 8 => aI 1 (sLen 4) (fun j => (sByt 4 j.toNat).toInt)
  | _ => oC 99 []
def HR (X : AX) (D : va_G) (aC : Nat → ClassId) (L : Nat) (xs : Nat → Int32) (h : PH) (H : Heap) : Prop :=
  10 ≤ h.1 ∧ va_P D clsL (wsO X aC h) H ∧ (∀ k, 10 ≤ k → k < h.1 → okCx (hp h k)) ∧ (∀ k, k < 10 → hp h k = roC L xs k) ∧ ∀ k, h.1 ≤ k → hp h k = oC 99 []
theorem wsO_at {X : AX} {aC : Nat → ClassId} {h : PH} {k : Nat} (h1 : 10 ≤ k) (h2 : k < h.1) : (wsO X aC h)[k - 10]? = some (adr X k, toE X aC (hp h k)) := by
  unfold wsO
  rw [List.getElem?_map, List.getElem?_range (by omega), adr_hi h1]
  simp only [Option.map]
  rw [show k - 10 + 10 = k by omega]
theorem wsO_inv {X : AX} {aC : Nat → ClassId} {h : PH} {j : Nat} {q : Nat × va_E} (hq : (wsO X aC h)[j]? = some q) : j < h.1 - 10 ∧ q = (X.1 + j, toE X aC (hp h (j + 10))) := by
  unfold wsO at hq
  rw [List.getElem?_map] at hq
  by_cases hj : j < h.1 - 10
  · rw [List.getElem?_range hj] at hq
    exact ⟨hj, (Option.some.inj hq).symm⟩
  · rw [List.getElem?_eq_none (by rw [List.length_range]; omega)] at hq
    cases hq
theorem wsO_D {X : AX} {aC : Nat → ClassId} {h : PH} : va_D (fun q => X.1 ≤ q) (wsO X aC h) := by
  refine ⟨fun i j p q hp hq e => ?_, fun k q hq => ?_⟩
  · obtain ⟨-, rfl⟩ := wsO_inv hp
    obtain ⟨-, rfl⟩ := wsO_inv hq
    simp only at e
    omega
  · obtain ⟨-, rfl⟩ := wsO_inv hq
    simp only
    omega
theorem wsO_len {X : AX} {aC : Nat → ClassId} {h : PH} : (wsO X aC h).length = h.1 - 10 := by unfold wsO; rw [List.length_map, List.length_range]
theorem wsO_set {X : AX} {aC : Nat → ClassId} {h : PH} {k : Nat} {c : PC} (h1 : 10 ≤ k) : (wsO X aC h).set (k - 10) (adr X k, toE X aC c) = wsO X aC (hup h k c) := by
  apply List.ext_getElem?
  intro j
  by_cases hj : j < h.1 - 10
  · by_cases e : j = k - 10
    · subst e
      rw [List.getElem?_set_self (by rw [wsO_len]; exact hj), wsO_at (h := hup h k c) h1 (by show k < h.1; omega), hp_up1]
    · rw [List.getElem?_set_ne (Ne.symm e)]
      have a1 := wsO_at (X := X) (aC := aC) (h := h) (k := j + 10) (by omega) (by omega)
      have a2 := wsO_at (X := X) (aC := aC) (h := hup h k c) (k := j + 10) (by omega) (by show j + 10 < h.1; omega)
      rw [show j + 10 - 10 = j by omega] at a1 a2
      rw [a1, a2, hp_upn (by omega)]
  · rw [List.getElem?_eq_none (by rw [List.length_set, wsO_len]; omega), List.getElem?_eq_none (by rw [wsO_len]; show h.1 - 10 ≤ j; omega)]
theorem wsO_push {X : AX} {aC : Nat → ClassId} {h : PH} {sl : Nat} {c : PC} (h1 : 10 ≤ h.1) : wsO X aC h ++ [(adr X h.1, toE X aC c)] = wsO X aC (mk1 h sl c) := by
  apply List.ext_getElem?
  intro j
  rcases Nat.lt_trichotomy j (h.1 - 10) with hj | hj | hj
  · rw [List.getElem?_append_left (by rw [wsO_len]; exact hj)]
    have a1 := wsO_at (X := X) (aC := aC) (h := h) (k := j + 10) (by omega) (by omega)
    have a2 := wsO_at (X := X) (aC := aC) (h := mk1 h sl c) (k := j + 10) (by omega) (by show j + 10 < h.1 + 1; omega)
    rw [show j + 10 - 10 = j by omega] at a1 a2
    rw [a1, a2, hp_mkn (by omega)]
  · subst hj
    rw [List.getElem?_append_right (by rw [wsO_len]; exact Nat.le_refl _), wsO_len, Nat.sub_self]
    rw [wsO_at (h := mk1 h sl c) h1 (by show h.1 < h.1 + 1; omega), hp_mk1]
    rfl
  · rw [List.getElem?_eq_none (by rw [List.length_append, wsO_len]; simp only [List.length_cons, List.length_nil]; omega), List.getElem?_eq_none (by rw [wsO_len]; show h.1 + 1 - 10 ≤ j; omega)]
/-- locals -/
def lvO (X : AX) (pl : PL) : List (Nat × Value) := (List.range pl.length).filterMap (fun j => match pl[j]? with
  | some (some v) => some (j, tr X v)
  | _ => none)
theorem lvO_mem {X : AX} {pl : PL} {j : Nat} {u : Value} : (j, u) ∈ lvO X pl ↔ ∃ v, pl[j]? = some (some v) ∧ u = tr X v := by
  unfold lvO
  rw [List.mem_filterMap]
  constructor
  · rintro ⟨k, -, hk⟩
    split at hk
    · next v hv => cases hk; exact ⟨v, hv, rfl⟩
    · cases hk
  · rintro ⟨v, hv, rfl⟩
    exact ⟨j, List.mem_range.mpr (List.getElem?_eq_some_iff.mp hv).1, by rw [hv]⟩
def LR (X : AX) (ls : Array Slot) (pl : PL) : Prop := lv_has ls pl.length (lvO X pl)
theorem LR_at {X : AX} {ls : Array Slot} {pl : PL} (h : LR X ls pl) {j : Nat} {v : PV} (hj : pl[j]? = some (some v)) : ls[j]? = some (.val (tr X v)) := h.2.2 _ (lvO_mem.mpr ⟨v, hj, rfl⟩)
theorem setL1_len {pl : PL} {i : Nat} {v : PV} : (setL1 pl i v).length = pl.length := by
  unfold setL1
  cases i <;> simp
theorem setL1_get {pl : PL} {i j : Nat} {v u : PV} (hj : (setL1 pl i v)[j]? = some (some u)) : (j = i ∧ u = v) ∨ (j ≠ i ∧ pl[j]? = some (some u) ∧ ¬ (j + 1 = i ∧ ∃ x, u = vl x)) := by
  by_cases e : j = i
  · subst e
    left
    unfold setL1 at hj
    have hl := (List.getElem?_eq_some_iff.mp hj).1
    rw [List.length_set] at hl
    rw [List.getElem?_set_self hl] at hj
    exact ⟨rfl, (Option.some.inj (Option.some.inj hj)).symm⟩
  · right
    unfold setL1 at hj
    rw [List.getElem?_set_ne (Ne.symm e)] at hj
    cases i with
    | zero => exact ⟨e, hj, fun z => by omega⟩
    | succ i =>
      dsimp only at hj
      rw [List.getElem?_modify] at hj
      by_cases e2 : i = j
      · subst e2
        simp only [if_true] at hj
        cases hp : pl[i]? with
        | none => rw [hp] at hj; cases hj
        | some o =>
          rw [hp] at hj
          have hj : nl o = some u := by simpa using hj
          unfold nl at hj
          split at hj
          · cases hj
          · next hne =>
            subst hj
            exact ⟨e, rfl, fun z => by obtain ⟨-, x, rfl⟩ := z; exact hne x rfl⟩
      · simp only [if_neg e2, Option.map_id', id_eq] at hj
        refine ⟨e, ?_, fun z => e2 (by omega)⟩
        simpa using hj
theorem tr_cat2 {X : AX} {v : PV} (h : ¬ ∃ x, v = vl x) : (tr X v).category = 1 := by
  rcases v with x | x | r
  · rfl
  · exact absurd ⟨x, rfl⟩ h
  · show (va_rf _).category = 1
    cases r.bind (adO X) <;> rfl
theorem LR_set1 {X : AX} {ls : Array Slot} {pl : PL} {i : Nat} {v : PV} (h : lv_has ls pl.length ((i, tr X v) :: (lvO X pl).filter (fun q => !(q.1 == i) && !(q.1 + 1 == i && q.2.category == 2)))) : LR X ls (setL1 pl i v) := by
  refine ⟨by rw [setL1_len]; exact h.1, h.2.1, fun q hq => h.2.2 q ?_⟩
  obtain ⟨j, u⟩ := q
  obtain ⟨u', hu, rfl⟩ := lvO_mem.mp hq
  rcases setL1_get hu with ⟨rfl, rfl⟩ | ⟨h1, h2, h3⟩
  · exact List.mem_cons_self
  · refine List.mem_cons_of_mem _ (List.mem_filter.mpr ⟨lvO_mem.mpr ⟨u', h2, rfl⟩, ?_⟩)
    simp only [Bool.and_eq_true, Bool.not_eq_true', beq_eq_false_iff_ne, Bool.and_eq_false_imp, beq_iff_eq]
    refine ⟨h1, fun z => ?_⟩
    rw [tr_cat2 (fun y => h3 ⟨z, y⟩)]
    decide
theorem LR_set2 {X : AX} {ls : Array Slot} {pl : PL} {i : Nat} {v : PV} (h : lv_has ls pl.length ((i, tr X v) :: (lvO X pl).filter (fun q => !(q.1 == i) && (!(q.1 == i + 1) && !(q.1 + 1 == i && q.2.category == 2))))) : LR X ls (setL2 pl i v) := by
  refine ⟨by unfold setL2; rw [List.length_set, setL1_len]; exact h.1, h.2.1, fun q hq => h.2.2 q ?_⟩
  obtain ⟨j, u⟩ := q
  obtain ⟨u', hu, rfl⟩ := lvO_mem.mp hq
  unfold setL2 at hu
  have e : j ≠ i + 1 := by
    rintro rfl
    have hl := (List.getElem?_eq_some_iff.mp hu).1
    rw [List.length_set] at hl
    rw [List.getElem?_set_self hl] at hu
    cases hu
  rw [List.getElem?_set_ne (Ne.symm e)] at hu
  rcases setL1_get hu with ⟨rfl, rfl⟩ | ⟨h1, h2, h3⟩
  · exact List.mem_cons_self
  · refine List.mem_cons_of_mem _ (List.mem_filter.mpr ⟨lvO_mem.mpr ⟨u', h2, rfl⟩, ?_⟩)
    simp only [Bool.and_eq_true, Bool.not_eq_true', beq_eq_false_iff_ne, Bool.and_eq_false_imp, beq_iff_eq]
    refine ⟨h1, e, fun z => ?_⟩
    rw [tr_cat2 (fun y => h3 ⟨z, y⟩)]
    decide

/-- the context of a method's body -/
def CXM (X : AX) (D : va_G) (aC : Nat → ClassId) (L : Nat) (xs : Nat → Int32) (M : MI) (p : Program) (s : State) (m : MethodId) (args : Array Value) (meth : Method) (c : Code) : Prop :=
  p.tables.exec = Jvm.exec ∧ c.code = M.2.1 ∧ c.maxLocals = M.2.2.1 ∧ s.vm.findClass (nm M.2.2.2.2) = some m.cls ∧ (∀ w ∈ TB, w.before args s = true) ∧ meth.sig.returnType = M.2.2.2.1 ∧ meth.locks = false ∧ (M.1.name = "<init>" → meth.name = "<init>") ∧ KS X D aC s ∧ RO X L xs s s.heap ∧ X.1 ≤ s.heap.size
section SND
variable {p : Program} {l : Launch} {e : Env} {R : Room} {s : State} {m : MethodId} {args : Array Value} {below : List Frame} {meth : Method} {c : Code} {Q : State → Prop}
variable {X : AX} {D : va_G} {aC : Nat → ClassId} {L : Nat} {xs : Nat → Int32} {M : MI}
theorem W_size {H : Heap} {locs : List Loc} {cells slots : Nat} {g : JFrame} (k : H.size ≤ s.heap.size + cells → W p l e R s m args below meth c H locs cells slots Q g) : W p l e R s m args below meth c H locs cells slots Q g := by
  intro T hT Y
  have := Y.heapSize
  rw [hT] at this
  exact k this T hT Y
/-- what comes behind one step: the machine goes on from there -/
def NX (p : Program) (l : Launch) (e : Env) (R : Room) (s : State) (m : MethodId) (args : Array Value) (below : List Frame) (meth : Method) (c : Code) (Q : State → Prop) (X : AX) (D : va_G) (aC : Nat → ClassId) (L : Nat) (xs : Nat → Int32) (cells slots : Nat) (h : PH) (pc' : Nat) (ls' : PL) (st' : List PV) (h' : PH) : Prop :=
  ∀ (H' : Heap) (locs' : List Loc) (lsA' : Array Slot) (c' s' : Nat), c' + h.1 = cells + h'.1 → s' + h.2.1 = slots + h'.2.1 → HR X D aC L xs h' H' → va_S (fun q => X.1 ≤ q) s.heap H' locs' → LR X lsA' ls' → W p l e R s m args below meth c H' locs' c' s' Q (F0 m pc' lsA' (st'.map (tr X)))
def heapI (ins : Instr) : Bool := match ins with
  | .ldc _ | .ldc_w _ | .ldc2_w _ | .getstatic _ | .getfield _ | .putfield _ | .iaload | .baload | .laload | .aaload | .iastore | .bastore | .lastore | .aastore | .arraylength | .new _ | .newarray _ | .anewarray _ | .multianewarray _ _ | .checkcast _ | .invokevirtual _ | .invokespecial _ | .invokestatic _ => true
  | _ => false
theorem snd_simple {H : Heap} {locs : List Loc} {cells slots pc : Nat} {lsA : Array Slot} {ls : PL} {st : List PV} {h : PH} {ins : Instr} {len : Nat} (C : CXM X D aC L xs M p s m args meth c) (hd : decode M.2.1 pc = .ok (ins, len)) (hol : okLen ins len = true) (hhp : heapI ins = false)
    (hH : HR X D aC L xs h H) (hS : va_S (fun q => X.1 ≤ q) s.heap H locs) (hL : LR X lsA ls) {pc' : Nat} {ls' : PL} {st' : List PV} {h' : PH}
    (hs : stpI M pc ls st h (pc + len) ins = some (.inl (pc', ls', st', h'))) (K : NX p l e R s m args below meth c Q X D aC L xs cells slots h pc' ls' st' h') :
    W p l e R s m args below meth c H locs cells slots Q (F0 m pc lsA (st.map (tr X))) := by
  obtain ⟨hx, hb, hml, hown, hts, hrt, hlk, hnm, hKS, hRO, hB⟩ := C
  have K1 : ∀ {pc1 : Nat} {ls1 : PL} {st1 : List PV} {lsA1 : Array Slot}, nxt pc1 ls1 st1 h = some (.inl (pc', ls', st', h')) → LR X lsA1 ls1 → W p l e R s m args below meth c H locs cells slots Q (F0 m pc1 lsA1 (st1.map (tr X))) := by
    intro pc1 ls1 st1 lsA1 e1 e2
    unfold nxt at e1
    cases e1
    exact K H locs lsA1 cells slots rfl rfl hH hS e2
  have K2 : ∀ {off : Int} {st1 : List PV}, jmp pc off ls st1 h = some (.inl (pc', ls', st', h')) → ∃ tgt : Nat, (pc : Int) + off = (tgt : Int) ∧ W p l e R s m args below meth c H locs cells slots Q (F0 m tgt lsA (st1.map (tr X))) := by
    intro off st1 e1
    unfold jmp at e1
    split at e1
    · next h0 =>
      cases e1
      exact ⟨((pc : Int) + off).toNat, by omega, K H locs lsA cells slots rfl rfl hH hS hL⟩
    · cases e1
  cases ins with
  | iconst n =>
    have hl : len = 1 := by simpa [okLen] using hol
    subst hl
    exact lv_iconst hx hb hd rfl (K1 hs hL)
  | bipush n =>
    have hl : len = 2 := by simpa [okLen] using hol
    subst hl
    dsimp only [stpI] at hs
    split at hs
    · next h0 => exact lv_bipush hx hb hd (n_bip h0.1 h0.2) (K1 hs hL)
    · cases hs
  | sipush n =>
    have hl : len = 3 := by simpa [okLen] using hol
    subst hl
    dsimp only [stpI] at hs
    split at hs
    · next h0 => exact lv_sipush hx hb hd (n_sip h0.1 h0.2) (K1 hs hL)
    · cases hs
  | lconst n =>
    have hl : len = 1 := by simpa [okLen] using hol
    subst hl
    exact lv_lconst hx hb hd (n_lnat n) (K1 hs hL)
  | iload k =>
    have hl : len = 2 := by simpa [okLen] using hol
    subst hl
    dsimp only [stpI] at hs
    split at hs
    · next x hx0 => exact lv_iload hx hb hd (LR_at hL hx0) (K1 hs hL)
    · cases hs
  | iload_n k =>
    have hl : len = 1 := by simpa [okLen] using hol
    subst hl
    dsimp only [stpI] at hs
    split at hs
    · next x hx0 => exact lv_iload_n hx hb hd rfl (LR_at hL hx0) (K1 hs hL)
    · cases hs
  | lload k =>
    have hl : len = 2 := by simpa [okLen] using hol
    subst hl
    dsimp only [stpI] at hs
    split at hs
    · next x hx0 => exact lv_lload hx hb hd (LR_at hL hx0) (K1 hs hL)
    · cases hs
  | lload_n k =>
    have hl : len = 1 := by simpa [okLen] using hol
    subst hl
    dsimp only [stpI] at hs
    split at hs
    · next x hx0 => exact lv_lload_n hx hb hd rfl (LR_at hL hx0) (K1 hs hL)
    · cases hs
  | aload k =>
    have hl : len = 2 := by simpa [okLen] using hol
    subst hl
    dsimp only [stpI] at hs
    split at hs
    · next r hr =>
      have h1 := LR_at hL hr
      have h2 := K1 hs hL
      change lsA[k]? = some (.val (va_rf (r.bind (adO X)))) at h1
      change W p l e R s m args below meth c H locs cells slots Q (F0 m (pc + 2) lsA (va_rf (r.bind (adO X)) :: st.map (tr X))) at h2
      cases hr2 : r.bind (adO X) with
      | none => rw [hr2] at h1 h2; exact lv_aloadN hx hb hd h1 h2
      | some a => rw [hr2] at h1 h2; exact lv_aload hx hb hd h1 h2
    · cases hs
  | aload_n k =>
    have hl : len = 1 := by simpa [okLen] using hol
    subst hl
    dsimp only [stpI] at hs
    split at hs
    · next r hr =>
      have h1 := LR_at hL hr
      have h2 := K1 hs hL
      change lsA[(k : Nat)]? = some (.val (va_rf (r.bind (adO X)))) at h1
      change W p l e R s m args below meth c H locs cells slots Q (F0 m (pc + 1) lsA (va_rf (r.bind (adO X)) :: st.map (tr X))) at h2
      cases hr2 : r.bind (adO X) with
      | none => rw [hr2] at h1 h2; exact lv_aload_nN hx hb hd rfl h1 h2
      | some a => rw [hr2] at h1 h2; exact lv_aload_n hx hb hd rfl h1 h2
    · cases hs
  | istore k =>
    have hl : len = 2 := by simpa [okLen] using hol
    subst hl
    dsimp only [stpI] at hs
    split at hs
    · next x r =>
      split at hs
      · next hk => exact lv_istore hx hb hd hL hk rfl (fun ls1 h1 => K1 hs (LR_set1 (v := vi x) h1))
      · cases hs
    · cases hs
  | istore_n k =>
    have hl : len = 1 := by simpa [okLen] using hol
    subst hl
    dsimp only [stpI] at hs
    split at hs
    · next x r =>
      split at hs
      · next hk => exact lv_istore_n hx hb hd rfl hL hk rfl (fun ls1 h1 => K1 hs (LR_set1 (v := vi x) h1))
      · cases hs
    · cases hs
  | lstore k =>
    have hl : len = 2 := by simpa [okLen] using hol
    subst hl
    dsimp only [stpI] at hs
    split at hs
    · next x r =>
      split at hs
      · next hk => exact lv_lstore hx hb hd hL hk rfl (fun ls1 h1 => K1 hs (LR_set2 (v := vl x) h1))
      · cases hs
    · cases hs
  | lstore_n k =>
    have hl : len = 1 := by simpa [okLen] using hol
    subst hl
    dsimp only [stpI] at hs
    split at hs
    · next x r =>
      split at hs
      · next hk => exact lv_lstore_n hx hb hd rfl hL hk rfl (fun ls1 h1 => K1 hs (LR_set2 (v := vl x) h1))
      · cases hs
    · cases hs
  | astore k =>
    have hl : len = 2 := by simpa [okLen] using hol
    subst hl
    dsimp only [stpI] at hs
    split at hs
    · next x r =>
      split at hs
      · next hk =>
        have ht : tr X (Sum.inr (Sum.inr (some x))) = .ref (adr X x) := tr_r hk.2
        rw [List.map_cons, ht]
        exact lv_astore hx hb hd hL hk.1 rfl (fun ls1 h1 => K1 hs (LR_set1 (v := vr x) (by rw [tr_r hk.2]; exact h1)))
      · cases hs
    · cases hs
  | astore_n k =>
    have hl : len = 1 := by simpa [okLen] using hol
    subst hl
    dsimp only [stpI] at hs
    split at hs
    · next x r =>
      split at hs
      · next hk =>
        have ht : tr X (Sum.inr (Sum.inr (some x))) = .ref (adr X x) := tr_r hk.2
        rw [List.map_cons, ht]
        exact lv_astore_n hx hb hd rfl hL hk.1 rfl (fun ls1 h1 => K1 hs (LR_set1 (v := vr x) (by rw [tr_r hk.2]; exact h1)))
      · cases hs
    · next r =>
      split at hs
      · next hk =>
        have ht : tr X (Sum.inr (Sum.inr none)) = .null := rfl
        rw [List.map_cons, ht]
        exact lv_astore_nN hx hb hd rfl hL hk rfl (fun ls1 h1 => K1 hs (LR_set1 (v := vn) h1))
      · cases hs
    · cases hs
  | iinc k n =>
    have hl : len = 3 := by simpa [okLen] using hol
    subst hl
    dsimp only [stpI] at hs
    split at hs
    · next x hx0 =>
      obtain ⟨q, hq⟩ := List.getElem?_of_mem (lvO_mem (X := X).mpr ⟨_, hx0, rfl⟩)
      exact lv_iinc (k := q) hx hb hd hL hq (n_add x n) (List.getElem?_eq_some_iff.mp hx0).1 rfl (fun ls1 h1 => K1 hs (LR_set1 (v := vi (x + n)) h1))
    · cases hs
  | iadd =>
    have hl : len = 1 := by simpa [okLen] using hol
    subst hl
    dsimp only [stpI] at hs
    split at hs
    · next y x r =>
      refine lv_iadd hx hb hd ?_
      rw [n_add]
      exact K1 hs hL
    · cases hs
  | isub =>
    have hl : len = 1 := by simpa [okLen] using hol
    subst hl
    dsimp only [stpI] at hs
    split at hs
    · next y x r =>
      refine lv_isub hx hb hd ?_
      rw [n_sub]
      exact K1 hs hL
    · cases hs
  | imul =>
    have hl : len = 1 := by simpa [okLen] using hol
    subst hl
    dsimp only [stpI] at hs
    split at hs
    · next y x r =>
      refine lv_imul hx hb hd ?_
      rw [n_mul]
      exact K1 hs hL
    · cases hs
  | iand =>
    have hl : len = 1 := by simpa [okLen] using hol
    subst hl
    dsimp only [stpI] at hs
    split at hs
    · next y x r =>
      refine lv_iand hx hb hd ?_
      rw [n_and]
      exact K1 hs hL
    · cases hs
  | ior =>
    have hl : len = 1 := by simpa [okLen] using hol
    subst hl
    dsimp only [stpI] at hs
    split at hs
    · next y x r =>
      refine lv_ior hx hb hd ?_
      rw [n_or]
      exact K1 hs hL
    · cases hs
  | ixor =>
    have hl : len = 1 := by simpa [okLen] using hol
    subst hl
    dsimp only [stpI] at hs
    split at hs
    · next y x r =>
      refine lv_ixor hx hb hd ?_
      rw [n_xor]
      exact K1 hs hL
    · cases hs
  | ishl =>
    have hl : len = 1 := by simpa [okLen] using hol
    subst hl
    dsimp only [stpI] at hs
    split at hs
    · next y x r =>
      refine lv_ishl hx hb hd ?_
      rw [n_shl]
      exact K1 hs hL
    · cases hs
  | ishr =>
    have hl : len = 1 := by simpa [okLen] using hol
    subst hl
    dsimp only [stpI] at hs
    split at hs
    · next y x r =>
      refine lv_ishr hx hb hd ?_
      rw [n_shr]
      exact K1 hs hL
    · cases hs
  | ladd =>
    have hl : len = 1 := by simpa [okLen] using hol
    subst hl
    dsimp only [stpI] at hs
    split at hs
    · next y x r =>
      refine lv_ladd hx hb hd ?_
      rw [n_ladd]
      exact K1 hs hL
    · cases hs
  | lsub =>
    have hl : len = 1 := by simpa [okLen] using hol
    subst hl
    dsimp only [stpI] at hs
    split at hs
    · next y x r =>
      refine lv_lsub hx hb hd ?_
      rw [n_lsub]
      exact K1 hs hL
    · cases hs
  | lmul =>
    have hl : len = 1 := by simpa [okLen] using hol
    subst hl
    dsimp only [stpI] at hs
    split at hs
    · next y x r =>
      refine lv_lmul hx hb hd ?_
      rw [n_lmul]
      exact K1 hs hL
    · cases hs
  | land =>
    have hl : len = 1 := by simpa [okLen] using hol
    subst hl
    dsimp only [stpI] at hs
    split at hs
    · next y x r =>
      refine lv_land hx hb hd ?_
      rw [n_land]
      exact K1 hs hL
    · cases hs
  | lor =>
    have hl : len = 1 := by simpa [okLen] using hol
    subst hl
    dsimp only [stpI] at hs
    split at hs
    · next y x r =>
      refine lv_lor hx hb hd ?_
      rw [n_lor]
      exact K1 hs hL
    · cases hs
  | iushr =>
    have hl : len = 1 := by simpa [okLen] using hol
    subst hl
    dsimp only [stpI] at hs
    split at hs
    · next y x r => exact lv_iushr hx hb hd (n_ushr x y) (K1 hs hL)
    · cases hs
  | lshl =>
    have hl : len = 1 := by simpa [okLen] using hol
    subst hl
    dsimp only [stpI] at hs
    split at hs
    · next y x r => exact lv_lshl hx hb hd (n_lshl x y) (K1 hs hL)
    · cases hs
  | lshr =>
    have hl : len = 1 := by simpa [okLen] using hol
    subst hl
    dsimp only [stpI] at hs
    split at hs
    · next y x r => exact lv_lshr hx hb hd (n_lshr x y) (K1 hs hL)
    · cases hs
  | idiv =>
    have hl : len = 1 := by simpa [okLen] using hol
    subst hl
    dsimp only [stpI] at hs
    split at hs
    · next y x r =>
      split at hs
      · cases hs
      · next h0 =>
        refine lv_idiv hx hb hd (fun z => h0 ((n_eq (y := 0)).mp z)) ?_
        rw [n_div]
        exact K1 hs hL
    · cases hs
  | irem =>
    have hl : len = 1 := by simpa [okLen] using hol
    subst hl
    dsimp only [stpI] at hs
    split at hs
    · next y x r =>
      split at hs
      · cases hs
      · next h0 =>
        refine lv_irem hx hb hd (fun z => h0 ((n_eq (y := 0)).mp z)) ?_
        rw [n_rem]
        exact K1 hs hL
    · cases hs
  | ldiv =>
    have hl : len = 1 := by simpa [okLen] using hol
    subst hl
    dsimp only [stpI] at hs
    split at hs
    · next y x r =>
      split at hs
      · cases hs
      · next h0 =>
        refine lv_ldiv hx hb hd (fun z => h0 ((n_leq (y := 0)).mp z)) ?_
        rw [n_ldiv]
        exact K1 hs hL
    · cases hs
  | lrem =>
    have hl : len = 1 := by simpa [okLen] using hol
    subst hl
    dsimp only [stpI] at hs
    split at hs
    · next y x r =>
      split at hs
      · cases hs
      · next h0 =>
        refine lv_lrem hx hb hd (fun z => h0 ((n_leq (y := 0)).mp z)) ?_
        rw [n_lrem]
        exact K1 hs hL
    · cases hs
  | lcmp =>
    have hl : len = 1 := by simpa [okLen] using hol
    subst hl
    dsimp only [stpI] at hs
    split at hs
    · next y x r =>
      refine W.lcmp hx hb hd ?_
      rw [n_cmp]
      exact K1 hs hL
    · cases hs
  | i2l =>
    have hl : len = 1 := by simpa [okLen] using hol
    subst hl
    dsimp only [stpI] at hs
    split at hs
    · next x r => exact lv_i2l hx hb hd (n_i2l x) (K1 hs hL)
    · cases hs
  | l2i =>
    have hl : len = 1 := by simpa [okLen] using hol
    subst hl
    dsimp only [stpI] at hs
    split at hs
    · next x r => exact lv_l2i hx hb hd (n_l2i x) (K1 hs hL)
    · cases hs
  | i2b =>
    have hl : len = 1 := by simpa [okLen] using hol
    subst hl
    dsimp only [stpI] at hs
    split at hs
    · next x r => exact lv_i2b hx hb hd (n_i2b x) (K1 hs hL)
    · cases hs
  | i2s =>
    have hl : len = 1 := by simpa [okLen] using hol
    subst hl
    dsimp only [stpI] at hs
    split at hs
    · next x r => exact lv_i2s hx hb hd (n_i2s x) (K1 hs hL)
    · cases hs
  | i2c =>
    have hl : len = 1 := by simpa [okLen] using hol
    subst hl
    dsimp only [stpI] at hs
    split at hs
    · next x r => exact lv_i2c hx hb hd (n_i2c x) (K1 hs hL)
    · cases hs
  | dup =>
    have hl : len = 1 := by simpa [okLen] using hol
    subst hl
    dsimp only [stpI] at hs
    split at hs
    · next x r => exact lv_dup hx hb hd rfl (K1 hs hL)
    · next x r => exact lv_dup hx hb hd (tr_cat2 (v := vo x) (fun z => by obtain ⟨q, z⟩ := z; cases z)) (K1 hs hL)
    · cases hs
  | dup2 =>
    have hl : len = 1 := by simpa [okLen] using hol
    subst hl
    dsimp only [stpI] at hs
    split at hs
    · next x y r => exact lv_dup2_11 hx hb hd rfl (tr_cat2 (v := vo y) (fun z => by obtain ⟨q, z⟩ := z; cases z)) (K1 hs hL)
    · cases hs
  | pop =>
    have hl : len = 1 := by simpa [okLen] using hol
    subst hl
    dsimp only [stpI] at hs
    split at hs
    · next x r => exact lv_pop hx hb hd rfl (K1 hs hL)
    · next x r => exact lv_pop hx hb hd (tr_cat2 (v := vo x) (fun z => by obtain ⟨q, z⟩ := z; cases z)) (K1 hs hL)
    · cases hs
  | pop2 =>
    have hl : len = 1 := by simpa [okLen] using hol
    subst hl
    dsimp only [stpI] at hs
    split at hs
    · next x r => exact lv_pop2_2 hx hb hd rfl (K1 hs hL)
    · cases hs
  | goto off =>
    have hl : len = 3 := by simpa [okLen] using hol
    subst hl
    obtain ⟨tgt, h1, h2⟩ := K2 hs
    exact lv_goto hx hb hd h1 h2
  | ifCond cd off =>
    have hl : len = 3 := by simpa [okLen] using hol
    subst hl
    dsimp only [stpI] at hs
    split at hs
    · next x r =>
      split at hs
      · next hn =>
        have h00 : w 0 = 0 := rfl
        have K3 : ∀ {b : Bool}, (if b = true then jmp pc off ls r h else nxt (pc + 3) ls r h) = some (.inl (pc', ls', st', h')) → ((b = true → W p l e R s m args below meth c H locs cells slots Q (F0 m ((pc : Int) + off).toNat lsA (r.map (tr X)))) ∧ (b = false → W p l e R s m args below meth c H locs cells slots Q (F0 m (pc + 3) lsA (r.map (tr X))))) := by
          intro b hb1
          cases b with
          | true =>
            refine ⟨fun _ => ?_, fun z => by cases z⟩
            rw [if_pos rfl] at hb1
            obtain ⟨tgt, h1, h2⟩ := K2 hb1
            rw [h1, Int.toNat_natCast]
            exact h2
          | false =>
            refine ⟨fun z => (by cases z), fun _ => ?_⟩
            rw [if_neg (by decide)] at hb1
            exact K1 hb1 hL
        obtain ⟨k1, k2⟩ := K3 hs
        have ht : (pc : Int) + off = ((((pc : Int) + off).toNat : Nat) : Int) := by omega
        cases cd with
        | eq => exact lv_if_eq hx hb hd ht (fun z => k1 (by have z2 := (n_eq (x := x) (y := 0)).mp z; simp only [hold, decide_eq_true_eq, Bool.not_eq_true', decide_eq_false_iff_not]; omega)) (fun z => k2 (by have z2 := (not_congr (n_eq (x := x) (y := 0))).mp z; simp only [hold, decide_eq_true_eq, Bool.not_eq_false', Bool.not_eq_true', decide_eq_false_iff_not]; omega))
        | ne => exact lv_if_ne hx hb hd ht (fun z => k1 (by have z2 := (not_congr (n_eq (x := x) (y := 0))).mp z; simp only [hold, decide_eq_true_eq, Bool.not_eq_true', decide_eq_false_iff_not]; omega)) (fun z => k2 (by have z2 := (n_eq (x := x) (y := 0)).mp z; simp only [hold, decide_eq_true_eq, Bool.not_eq_false', Bool.not_eq_true', decide_eq_false_iff_not]; omega))
        | lt => exact lv_if_lt hx hb hd ht (fun z => k1 (by have z2 := (n_lt (x := x) (y := 0)).mp z; simp only [hold, decide_eq_true_eq, Bool.not_eq_true', decide_eq_false_iff_not]; omega)) (fun z => k2 (by have z2 := (not_congr (n_lt (x := x) (y := 0))).mp z; simp only [hold, decide_eq_true_eq, Bool.not_eq_false', Bool.not_eq_true', decide_eq_false_iff_not]; omega))
        | ge => exact lv_if_ge hx hb hd ht (fun z => k1 (by have z2 := (n_le (x := 0) (y := x)).mp z; simp only [hold, decide_eq_true_eq, Bool.not_eq_true', decide_eq_false_iff_not]; omega)) (fun z => k2 (by have z2 := (not_congr (n_le (x := 0) (y := x))).mp z; simp only [hold, decide_eq_true_eq, Bool.not_eq_false', Bool.not_eq_true', decide_eq_false_iff_not]; omega))
        | gt => exact lv_if_gt hx hb hd ht (fun z => k1 (by have z2 := (n_lt (x := 0) (y := x)).mp z; simp only [hold, decide_eq_true_eq, Bool.not_eq_true', decide_eq_false_iff_not]; omega)) (fun z => k2 (by have z2 := (not_congr (n_lt (x := 0) (y := x))).mp z; simp only [hold, decide_eq_true_eq, Bool.not_eq_false', Bool.not_eq_true', decide_eq_false_iff_not]; omega))
        | le => exact lv_if_le hx hb hd ht (fun z => k1 (by have z2 := (n_le (x := x) (y := 0)).mp z; simp only [hold, decide_eq_true_eq, Bool.not_eq_true', decide_eq_false_iff_not]; omega)) (fun z => k2 (by have z2 := (not_congr (n_le (x := x) (y := 0))).mp z; simp only [hold, decide_eq_true_eq, Bool.not_eq_false', Bool.not_eq_true', decide_eq_false_iff_not]; omega))
      · cases hs
    · cases hs
  | if_icmp cd off =>
    have hl : len = 3 := by simpa [okLen] using hol
    subst hl
    dsimp only [stpI] at hs
    split at hs
    · next y x r =>
      split at hs
      · next hn =>
        have h00 : True := trivial
        have K3 : ∀ {b : Bool}, (if b = true then jmp pc off ls r h else nxt (pc + 3) ls r h) = some (.inl (pc', ls', st', h')) → ((b = true → W p l e R s m args below meth c H locs cells slots Q (F0 m ((pc : Int) + off).toNat lsA (r.map (tr X)))) ∧ (b = false → W p l e R s m args below meth c H locs cells slots Q (F0 m (pc + 3) lsA (r.map (tr X))))) := by
          intro b hb1
          cases b with
          | true =>
            refine ⟨fun _ => ?_, fun z => by cases z⟩
            rw [if_pos rfl] at hb1
            obtain ⟨tgt, h1, h2⟩ := K2 hb1
            rw [h1, Int.toNat_natCast]
            exact h2
          | false =>
            refine ⟨fun z => (by cases z), fun _ => ?_⟩
            rw [if_neg (by decide)] at hb1
            exact K1 hb1 hL
        obtain ⟨k1, k2⟩ := K3 hs
        have ht : (pc : Int) + off = ((((pc : Int) + off).toNat : Nat) : Int) := by omega
        cases cd with
        | eq => exact lv_icmp_eq hx hb hd ht (fun z => k1 (by have z2 := (n_eq (x := x) (y := y)).mp z; simp only [hold, decide_eq_true_eq, Bool.not_eq_true', decide_eq_false_iff_not]; omega)) (fun z => k2 (by have z2 := (not_congr (n_eq (x := x) (y := y))).mp z; simp only [hold, decide_eq_true_eq, Bool.not_eq_false', Bool.not_eq_true', decide_eq_false_iff_not]; omega))
        | ne => exact lv_icmp_ne hx hb hd ht (fun z => k1 (by have z2 := (not_congr (n_eq (x := x) (y := y))).mp z; simp only [hold, decide_eq_true_eq, Bool.not_eq_true', decide_eq_false_iff_not]; omega)) (fun z => k2 (by have z2 := (n_eq (x := x) (y := y)).mp z; simp only [hold, decide_eq_true_eq, Bool.not_eq_false', Bool.not_eq_true', decide_eq_false_iff_not]; omega))
        | lt => exact lv_icmp_lt hx hb hd ht (fun z => k1 (by have z2 := (n_lt (x := x) (y := y)).mp z; simp only [hold, decide_eq_true_eq, Bool.not_eq_true', decide_eq_false_iff_not]; omega)) (fun z => k2 (by have z2 := (not_congr (n_lt (x := x) (y := y))).mp z; simp only [hold, decide_eq_true_eq, Bool.not_eq_false', Bool.not_eq_true', decide_eq_false_iff_not]; omega))
        | ge => exact lv_icmp_ge hx hb hd ht (fun z => k1 (by have z2 := (n_le (x := y) (y := x)).mp z; simp only [hold, decide_eq_true_eq, Bool.not_eq_true', decide_eq_false_iff_not]; omega)) (fun z => k2 (by have z2 := (not_congr (n_le (x := y) (y := x))).mp z; simp only [hold, decide_eq_true_eq, Bool.not_eq_false', Bool.not_eq_true', decide_eq_false_iff_not]; omega))
        | gt => exact lv_icmp_gt hx hb hd ht (fun z => k1 (by have z2 := (n_lt (x := y) (y := x)).mp z; simp only [hold, decide_eq_true_eq, Bool.not_eq_true', decide_eq_false_iff_not]; omega)) (fun z => k2 (by have z2 := (not_congr (n_lt (x := y) (y := x))).mp z; simp only [hold, decide_eq_true_eq, Bool.not_eq_false', Bool.not_eq_true', decide_eq_false_iff_not]; omega))
        | le => exact lv_icmp_le hx hb hd ht (fun z => k1 (by have z2 := (n_le (x := x) (y := y)).mp z; simp only [hold, decide_eq_true_eq, Bool.not_eq_true', decide_eq_false_iff_not]; omega)) (fun z => k2 (by have z2 := (not_congr (n_le (x := x) (y := y))).mp z; simp only [hold, decide_eq_true_eq, Bool.not_eq_false', Bool.not_eq_true', decide_eq_false_iff_not]; omega))
      · cases hs
    · cases hs
  | if_acmp cd off =>
    have hl : len = 3 := by simpa [okLen] using hol
    subst hl
    dsimp only [stpI] at hs
    split at hs
    · next y x r =>
      obtain ⟨⟨⟨h1, h2⟩, hn⟩, hs⟩ := ifP_some hs
      have ht : (pc : Int) + off = ((((pc : Int) + off).toNat : Nat) : Int) := by omega
      have hinj : x.bind (adO X) = y.bind (adO X) ↔ x = y := adO_inj h1 h2
      cases cd with
      | eq =>
        refine lv_acmp_eq (rx := x.bind (adO X)) (ry := y.bind (adO X)) hx hb hd ht (fun z => ?_) (fun z => ?_)
        · dsimp only at hs; rw [if_pos (hinj.mp z)] at hs; obtain ⟨tgt, q1, q2⟩ := K2 hs; rw [q1, Int.toNat_natCast]; exact q2
        · dsimp only at hs; rw [if_neg (fun q => z (hinj.mpr q))] at hs; exact K1 hs hL
      | ne =>
        refine lv_acmp_ne (rx := x.bind (adO X)) (ry := y.bind (adO X)) hx hb hd ht (fun z => ?_) (fun z => ?_)
        · dsimp only at hs; rw [if_neg (fun q => z (hinj.mpr q))] at hs; obtain ⟨tgt, q1, q2⟩ := K2 hs; rw [q1, Int.toNat_natCast]; exact q2
        · dsimp only at hs; rw [if_pos (hinj.mp z)] at hs; exact K1 hs hL
    · cases hs
  | ifnonnull off =>
    have hl : len = 3 := by simpa [okLen] using hol
    subst hl
    dsimp only [stpI] at hs
    split at hs
    · next a r =>
      split at hs
      · cases hs
      · next h9 =>
        have ht : tr X (Sum.inr (Sum.inr (some a))) = .ref (adr X a) := tr_r h9
        rw [List.map_cons, ht]
        obtain ⟨tgt, h1, h2⟩ := K2 hs
        exact lv_ifnonnull hx hb hd h1 h2
    · next r => exact lv_ifnonnullN hx hb hd (K1 hs hL)
    · cases hs
  | tableswitch dflt lo hi offs =>
    dsimp only [stpI] at hs
    split at hs
    · next x r =>
      split at hs
      · next h0 =>
        split at hs
        · next off ho =>
          obtain ⟨tgt, h1, h2⟩ := K2 hs
          exact lv_tableIn hx hb hd (by rw [n_ti]; omega) (by rw [n_ti]; omega) (by rw [n_ti]; exact ho) h1 h2
        · cases hs
      · next h0 =>
        obtain ⟨tgt, h1, h2⟩ := K2 hs
        exact lv_tableOut hx hb hd (by rw [n_ti]; omega) h1 h2
    · cases hs
  | lookupswitch dflt ps =>
    dsimp only [stpI] at hs
    split at hs
    · next x r =>
      split at hs
      · next h0 =>
        obtain ⟨tgt, h1, h2⟩ := K2 hs
        exact lv_lookup hx hb hd h0 (by rw [n_ti]) h1 h2
      · cases hs
    · cases hs
  | ireturn =>
    dsimp only [stpI] at hs
    split at hs
    · obtain ⟨-, h1⟩ := ifP_some hs
      cases h1
    · cases hs
  | lreturn =>
    dsimp only [stpI] at hs
    split at hs
    · obtain ⟨-, h1⟩ := ifP_some hs
      cases h1
    · cases hs
  | areturn =>
    dsimp only [stpI] at hs
    split at hs
    · obtain ⟨-, h1⟩ := ifP_some hs
      cases h1
    · cases hs
  | return_ =>
    dsimp only [stpI] at hs
    split at hs
    · obtain ⟨-, h1⟩ := ifP_some hs
      cases h1
    · cases hs
  | _ => first | (simp [heapI] at hhp; done) | (simp [stpI] at hs; done)
end SND
