/-! CALLS, and the induction -/
theorem lay_args {X : AX} : ∀ (as : List PV) (k j : Nat) (v : PV), (lay as)[j]? = some (some v) → (k + j, tr X v) ∈ lv_args k (as.map (tr X))
  | [], k, j, v, h => by simp [lay] at h
  | .inl x :: r, k, 0, v, h => by
    simp only [lay, List.getElem?_cons_zero, Option.some.injEq] at h
    subst h
    exact List.mem_cons_self
  | .inl x :: r, k, j + 1, v, h => by
    simp only [lay, List.getElem?_cons_succ] at h
    have := lay_args (X := X) r (k + 1) j v h
    refine List.mem_cons_of_mem _ ?_
    rw [show k + (j + 1) = k + 1 + j by omega]
    exact this
  | .inr (.inl x) :: r, k, 0, v, h => by
    simp only [lay, List.getElem?_cons_zero, Option.some.injEq] at h
    subst h
    exact List.mem_cons_self
  | .inr (.inl x) :: r, k, 1, v, h => by
    simp [lay] at h
  | .inr (.inl x) :: r, k, j + 2, v, h => by
    simp only [lay, List.getElem?_cons_succ] at h
    have := lay_args (X := X) r (k + 2) j v h
    refine List.mem_cons_of_mem _ ?_
    rw [show k + (j + 2) = k + 2 + j by omega]
    exact this
  | .inr (.inr x) :: r, k, 0, v, h => by
    simp only [lay, List.getElem?_cons_zero, Option.some.injEq] at h
    subst h
    exact List.mem_cons_self
  | .inr (.inr x) :: r, k, j + 1, v, h => by
    simp only [lay, List.getElem?_cons_succ] at h
    have := lay_args (X := X) r (k + 1) j v h
    have hc : ¬ (tr X (.inr (.inr x))).category = 2 := by rw [tr_cat2 (fun z => by obtain ⟨q, z⟩ := z; cases z)]; decide
    rw [List.map_cons, lv_args, if_neg hc]
    refine List.mem_cons_of_mem _ ?_
    rw [show k + (j + 1) = k + 1 + j by omega]
    exact this
theorem lay_len {X : AX} : ∀ (as : List PV), (lg_sl (as.map (tr X))).length = (lay as).length
  | [] => rfl
  | .inl x :: r => by
    have := lay_len (X := X) r
    unfold lg_sl at this ⊢
    simp only [List.map_cons, List.flatMap_cons, List.length_append, lay, List.length_cons]
    rw [this]
    show 1 + _ = _
    omega
  | .inr (.inl x) :: r => by
    have := lay_len (X := X) r
    unfold lg_sl at this ⊢
    simp only [List.map_cons, List.flatMap_cons, List.length_append, lay, List.length_cons]
    rw [this]
    show 2 + _ = _
    omega
  | .inr (.inr x) :: r => by
    have := lay_len (X := X) r
    have hc : ¬ (tr X (.inr (.inr x))).category = 2 := by rw [tr_cat2 (fun z => by obtain ⟨q, z⟩ := z; cases z)]; decide
    unfold lg_sl at this ⊢
    simp only [List.map_cons, List.flatMap_cons, List.length_append, lay, List.length_cons]
    rw [this, if_neg hc]
    show 1 + _ = _
    omega
theorem ent_len {as : List PV} {n : Nat} (h : (lay as).length ≤ n) : (ent as n).length = n := by
  unfold ent
  rw [List.length_append, List.length_replicate]
  omega
theorem LR_entry {X : AX} {as : List PV} {n : Nat} (h : (lay as).length ≤ n) : LR X ((lg_sl (as.map (tr X)) ++ List.replicate (n - (lg_sl (as.map (tr X))).length) Slot.unset).toArray) (ent as n) := by
  have h1 := lv_entry (as.map (tr X)) (n := n) (by rw [lay_len]; exact h)
  refine ⟨by rw [ent_len h]; exact h1.1, h1.2.1, fun q hq => h1.2.2 q ?_⟩
  obtain ⟨j, u⟩ := q
  obtain ⟨v, hv, rfl⟩ := lvO_mem.mp hq
  unfold ent at hv
  have hj : (lay as)[j]? = some (some v) := by
    by_cases hl : j < (lay as).length
    · rw [List.getElem?_append_left hl] at hv; exact hv
    · rw [List.getElem?_append_right (by omega)] at hv
      exfalso
      have := List.mem_of_getElem? hv
      rw [List.mem_replicate] at this
      cases this.2
  have := lay_args (X := X) as 0 j v hj
  rw [Nat.zero_add] at this
  exact this
theorem Met.ofW' {l : Launch} {y : MethodName} {ws ws' : List Cond} {rm : Room} {Pc : Array Value → State → Prop} {Qc : Array Value → State → Outcome → State → Prop} {mc ms : Nat} {free : Addr → Prop} {cc : ByteArray} {maxL : Nat} {ret : Option FieldType}
    (hy : plainFor y = true) (hw : ws = Cond.code y cc maxL ret :: ws')
    (body : ∀ p e s m args below meth c s₁, BodyLoose p l y (headSpec ws rm) cc maxL ret e s m args below meth c s₁ → c.maxLocals = maxL → Pc args s →
      W p l e (headSpec ws rm).room s m args below meth c s.heap [] 0 0 (MQ below Qc args s mc ms free) (entryFrame m args maxL)) : Met l y ws rm Pc Qc mc ms free := by
  refine MetFree.of_bodySF (code := cc) (maxLocals := maxL) (ret := ret) hy ?_ ?_
  · intro args s m h hn
    obtain ⟨meth, c, h1, h2, h3, h4, h5, h6, -, -⟩ := Cond.code_spec hn (atoms_spec (ws := ws) h _ (by rw [hw]; exact List.mem_cons_self))
    exact ⟨meth, c, h1, h2, h3, h4, h5, h6⟩
  · intro p e s m args below meth c s₁ B hml hP _
    have hh0 : s₁.heap = s.heap := by rw [B.state]; rfl
    obtain ⟨t, a1, o, b1, b2, b3⟩ := body p e s m args below meth c s₁ B hml hP s₁ hh0 (Stand.of_body B)
    exact ⟨t, o, a1, b1, b2, ⟨b3.1, b3.2⟩⟩
def cPc (X : AX) (D : va_G) (aC : Nat → ClassId) (L : Nat) (xs : Nat → Int32) (h : PH) (as : List PV) : Array Value → State → Prop := fun v U => v = (as.map (tr X)).toArray ∧ KS X D aC U ∧ RO X L xs U U.heap ∧ HR X D aC L xs h U.heap ∧ X.1 + h.1 = U.heap.size + 10
def cQc (X : AX) (D : va_G) (aC : Nat → ClassId) (L : Nat) (xs : Nat → Int32) (v : Option PV) (h' : PH) : Array Value → State → Outcome → State → Prop := fun _ st oc t => oc = .returned (v.map (tr X)) ∧ HR X D aC L xs h' t.heap ∧ va_F (fun q => X.1 ≤ q) st t
theorem met_of {l : Launch} {X : AX} {D : va_G} {aC : Nat → ClassId} {L : Nat} {xs : Nat → Int32} {d j : Nat} {as : List PV} {h h1 : PH} {v : Option PV} {J : MI} (hJ : meths[j]? = some J) (h20 : J.2.2.2.2 ≠ 20) (hl : (lay as).length ≤ J.2.2.1) (ih : SEM d j 0 (ent as J.2.2.1) [] h v h1) :
    Met l J.1 (Cond.code J.1 J.2.1 J.2.2.1 J.2.2.2.1 :: TB) ({ frames := d + 1, cells := h1.1 - h.1, slots := h1.2.1 - h.2.1, locals := 48 * (d + 1) }) (cPc X D aC L xs h as) (cQc X D aC L xs v h1) (h1.1 - h.1) (h1.2.1 - h.2.1) (fun q => X.1 ≤ q) := by
  obtain ⟨hcode, hpl, hcn, hmx, hmh⟩ := meth_ok hJ h20
  obtain ⟨⟨hm1, hm2⟩, ih⟩ := ih
  refine Met.ofW' (cc := J.2.1) (maxL := J.2.2.1) (ret := J.2.2.2.1) hpl rfl ?_
  intro p e s m args below meth c s₁ B hml hv
  obtain ⟨rfl, hKS, hRO, hH, hsz⟩ := hv
  have hts := atoms_spec (ws := Cond.code J.1 J.2.1 J.2.2.1 J.2.2.2.1 :: TB) B.pre
  have hown : s.vm.findClass J.1.cls = some m.cls := findClass_of_methodNamed B.named
  have hC : CXM X D aC L xs J p s m (as.map (tr X)).toArray meth c := ⟨B.exec, B.bytes, hml, by rw [← hcn]; exact hown, fun w hw => hts w (List.mem_cons_of_mem _ hw), B.returns, B.notSynchronized, fun hi => (name_of_methodNamed B.named B.method).1.trans hi, hKS, hRO, by have := hH.1; omega⟩
  rw [lg_entry_eq]
  refine ih J hJ (ent_len hl) p l e _ s m _ below meth c _ X D aC L xs s.heap [] 0 0 _ hC (Nat.le_refl _) (Nat.le_refl _) hH va_S.rf (LR_entry hl) (by omega) (by show 0 + h1.1 ≤ (h1.1 - h.1) + h.1; omega) (by show 0 + h1.2.1 ≤ (h1.2.1 - h.2.1) + h.2.1; omega) ?_
  intro pcR H' locs' lsA' c' s' e1 e2 hH' hS' hret
  have ec : c' = h1.1 - h.1 := by omega
  have es : s' = h1.2.1 - h.2.1 := by omega
  subst ec
  subst es
  have hpost : ∀ t : State, t.heap = H' → cQc X D aC L xs v h1 (as.map (tr X)).toArray s (.returned (v.map (tr X))) t := fun t ht => ⟨rfl, by rw [ht]; exact hH', hS'.F ht⟩
  obtain ⟨hok, hret⟩ := hret
  have hr := B.returns
  have hlocks := B.notSynchronized
  rcases v with _ | x | x | r
  · have hn : J.2.2.2.1 = none := by
      cases hq : J.2.2.2.1 with
      | none => rfl
      | some ty => rw [hq] at hok; cases ty <;> first | exact hok.elim | (rename_i t; cases t <;> exact hok.elim)
    exact W.vret B.exec B.bytes (hr.trans hn) (fun t ht _ => hpost t ht) hS'.2.2 hret
  · have hn : ∃ ty, J.2.2.2.1 = some ty ∧ narrow ty (.int (Int32.ofInt x)) = .int (Int32.ofInt x) := by
      cases hq : J.2.2.2.1 with
      | none => rw [hq] at hok; exact hok.elim
      | some ty =>
        rw [hq] at hok
        refine ⟨ty, rfl, ?_⟩
        cases ty with
        | int => rfl
        | boolean =>
          have hok : x = 0 ∨ x = 1 := hok
          rcases hok with rfl | rfl <;> rfl
        | char =>
          have hok : 0 ≤ x ∧ x < 65536 := hok
          show Value.int (((Int32.ofInt x).toUInt32 % 65536).toInt32) = _
          rw [n_i2c]
          congr 2
          omega
        | byte =>
          have hok : -128 ≤ x ∧ x < 128 := hok
          show Value.int ((Int32.ofInt x).toInt8.toInt32) = _
          rw [n_i2b]
          congr 2
          rw [Int.bmod_def]; split <;> omega
        | array t => cases t <;> exact hok.elim
        | _ => exact hok.elim
    obtain ⟨ty, hn1, hn2⟩ := hn
    exact W.zret B.exec B.bytes (hr.trans hn1) hn2 (fun t ht _ => hpost t ht) hS'.2.2 hret
  · have hn : J.2.2.2.1 = some .long := by
      cases hq : J.2.2.2.1 with
      | none => rw [hq] at hok; exact hok.elim
      | some ty => rw [hq] at hok; cases ty <;> first | rfl | exact hok.elim | (rename_i t; cases t <;> exact hok.elim)
    exact W.lret B.exec B.bytes (hr.trans hn) (fun t ht _ => hpost t ht) hS'.2.2 hret
  · have hn : J.2.2.2.1 = some (.array .int) := by
      cases hq : J.2.2.2.1 with
      | none => rw [hq] at hok; exact hok.elim
      | some ty =>
        rw [hq] at hok
        cases ty with
        | array t => cases t <;> first | rfl | exact hok.elim
        | _ => exact hok.elim
    exact W.aret B.exec B.bytes (hr.trans hn) (Or.inr ⟨_, rfl⟩) (va_rf_or _) (fun t ht _ => hpost t ht) hS'.2.2 hret.1

theorem cPc_blind {X : AX} {D : va_G} {aC : Nat → ClassId} {L : Nat} {xs : Nat → Int32} {h : PH} {as : List PV} : FrameBlind (cPc X D aC L xs h as) := by
  intro a U g mk ⟨q1, q2, q3, q4, q5⟩
  exact ⟨q1, KS.same (s := U) rfl q2, RO.to (s := U) (Vm.Alike.refl _) (fun _ _ _ => rfl) q3, q4, q5⟩
theorem mth_some {o k kd j n : Nat} (h : mth o k = some (kd, j, n)) : ∃ J, meths[j]? = some J := by
  have hm := lookup_mem h
  obtain ⟨p0, h0⟩ := chk_mem (ml_chk0 (getD_nil mths_len hm)) _ hm
  cases hJ : meths[j]? with
  | none => simp only [mlF0, hJ] at h0; cases h0
  | some J => exact ⟨J, rfl⟩
theorem own_chk : meths.all (fun M => decide (M.2.2.2.2 < 21)) = true := by decide +kernel
theorem own_lt {j : Nat} {J : MI} (h : meths[j]? = some J) : J.2.2.2.2 < 21 := of_decide_eq_true (List.all_eq_true.mp own_chk J (List.mem_of_getElem? h))
theorem nest_chk : ∀ k, k = 9 ∨ k = 41 ∨ k = 76 → ∃ j J, mth 11 k = some (1, j, 0) ∧ meths[j]? = some J ∧ J.1 = nestM k := by
  rintro k (rfl | rfl | rfl)
  · exact ⟨89, _, rfl, m_89, rfl⟩
  · exact ⟨31, _, rfl, m_31, rfl⟩
  · exact ⟨98, _, rfl, m_98, rfl⟩
theorem nest_no {o k j n : Nat} (hz : o = 11 ∧ (k = 9 ∨ k = 41 ∨ k = 76)) (h : mth o k = some (0, j, n)) : False := by
  obtain ⟨j', J', h1, -⟩ := nest_chk k hz.2
  rw [hz.1, h1] at h
  cases h
theorem nest_no2 {o k j n : Nat} (hz : o = 11 ∧ (k = 9 ∨ k = 41 ∨ k = 76)) : ¬ mth o k = some (2, j, n) := by
  intro h
  obtain ⟨j', J', h1, -⟩ := nest_chk k hz.2
  rw [hz.1, h1] at h
  cases h
theorem nest_J {o k j n : Nat} {J : MI} (hz : o = 11 ∧ (k = 9 ∨ k = 41 ∨ k = 76)) (h : mth o k = some (1, j, n)) (hJ : meths[j]? = some J) : J.1 = nestM k := by
  obtain ⟨j', J', h1, h2, h3⟩ := nest_chk k hz.2
  rw [hz.1, h1] at h
  cases h
  rw [h2] at hJ
  cases hJ
  exact h3
def isCallI (ins : Instr) : Bool := match ins with
  | .invokevirtual _ | .invokespecial _ | .invokestatic _ => true
  | _ => false
theorem stpI_nocall {M : MI} {pc nx : Nat} {ls : PL} {st : List PV} {h : PH} {ins : Instr} {q : Nat × List PV × List PV} (hs : stpI M pc ls st h nx ins = some (.inr (.inl q))) (hc : isCallI ins = false) : False := by
  have J0 : ∀ {off : Int} {ls1 : PL} {st1 : List PV}, jmp pc off ls1 st1 h = some (.inr (.inl q)) → False := by
    intro off ls1 st1 e1
    unfold jmp at e1
    split at e1 <;> cases e1
  cases ins with
  | iconst n =>
    dsimp only [stpI] at hs
    unfold nxt at hs; cases hs
  | lconst n =>
    dsimp only [stpI] at hs
    unfold nxt at hs; cases hs
  | goto off =>
    dsimp only [stpI] at hs
    exact J0 hs
  | bipush n =>
    dsimp only [stpI] at hs
    split at hs
    · unfold nxt at hs; cases hs
    · cases hs
  | sipush n =>
    dsimp only [stpI] at hs
    split at hs
    · unfold nxt at hs; cases hs
    · cases hs
  | iload k =>
    dsimp only [stpI] at hs
    split at hs
    · unfold nxt at hs; cases hs
    · cases hs
  | iload_n k =>
    dsimp only [stpI] at hs
    split at hs
    · unfold nxt at hs; cases hs
    · cases hs
  | lload k =>
    dsimp only [stpI] at hs
    split at hs
    · unfold nxt at hs; cases hs
    · cases hs
  | lload_n k =>
    dsimp only [stpI] at hs
    split at hs
    · unfold nxt at hs; cases hs
    · cases hs
  | aload k =>
    dsimp only [stpI] at hs
    split at hs
    · unfold nxt at hs; cases hs
    · cases hs
  | aload_n k =>
    dsimp only [stpI] at hs
    split at hs
    · unfold nxt at hs; cases hs
    · cases hs
  | iinc k n =>
    dsimp only [stpI] at hs
    split at hs
    · unfold nxt at hs; cases hs
    · cases hs
  | iadd =>
    dsimp only [stpI] at hs
    split at hs
    · unfold nxt at hs; cases hs
    · cases hs
  | isub =>
    dsimp only [stpI] at hs
    split at hs
    · unfold nxt at hs; cases hs
    · cases hs
  | imul =>
    dsimp only [stpI] at hs
    split at hs
    · unfold nxt at hs; cases hs
    · cases hs
  | iand =>
    dsimp only [stpI] at hs
    split at hs
    · unfold nxt at hs; cases hs
    · cases hs
  | ior =>
    dsimp only [stpI] at hs
    split at hs
    · unfold nxt at hs; cases hs
    · cases hs
  | ixor =>
    dsimp only [stpI] at hs
    split at hs
    · unfold nxt at hs; cases hs
    · cases hs
  | ishl =>
    dsimp only [stpI] at hs
    split at hs
    · unfold nxt at hs; cases hs
    · cases hs
  | ishr =>
    dsimp only [stpI] at hs
    split at hs
    · unfold nxt at hs; cases hs
    · cases hs
  | iushr =>
    dsimp only [stpI] at hs
    split at hs
    · unfold nxt at hs; cases hs
    · cases hs
  | ladd =>
    dsimp only [stpI] at hs
    split at hs
    · unfold nxt at hs; cases hs
    · cases hs
  | lsub =>
    dsimp only [stpI] at hs
    split at hs
    · unfold nxt at hs; cases hs
    · cases hs
  | lmul =>
    dsimp only [stpI] at hs
    split at hs
    · unfold nxt at hs; cases hs
    · cases hs
  | land =>
    dsimp only [stpI] at hs
    split at hs
    · unfold nxt at hs; cases hs
    · cases hs
  | lor =>
    dsimp only [stpI] at hs
    split at hs
    · unfold nxt at hs; cases hs
    · cases hs
  | lshl =>
    dsimp only [stpI] at hs
    split at hs
    · unfold nxt at hs; cases hs
    · cases hs
  | lshr =>
    dsimp only [stpI] at hs
    split at hs
    · unfold nxt at hs; cases hs
    · cases hs
  | lcmp =>
    dsimp only [stpI] at hs
    split at hs
    · unfold nxt at hs; cases hs
    · cases hs
  | i2l =>
    dsimp only [stpI] at hs
    split at hs
    · unfold nxt at hs; cases hs
    · cases hs
  | l2i =>
    dsimp only [stpI] at hs
    split at hs
    · unfold nxt at hs; cases hs
    · cases hs
  | i2b =>
    dsimp only [stpI] at hs
    split at hs
    · unfold nxt at hs; cases hs
    · cases hs
  | i2s =>
    dsimp only [stpI] at hs
    split at hs
    · unfold nxt at hs; cases hs
    · cases hs
  | i2c =>
    dsimp only [stpI] at hs
    split at hs
    · unfold nxt at hs; cases hs
    · cases hs
  | dup2 =>
    dsimp only [stpI] at hs
    split at hs
    · unfold nxt at hs; cases hs
    · cases hs
  | pop2 =>
    dsimp only [stpI] at hs
    split at hs
    · unfold nxt at hs; cases hs
    · cases hs
  | ldc k =>
    dsimp only [stpI] at hs
    split at hs
    · unfold nxt at hs; cases hs
    · cases hs
  | ldc_w k =>
    dsimp only [stpI] at hs
    split at hs
    · unfold nxt at hs; cases hs
    · cases hs
  | ldc2_w k =>
    dsimp only [stpI] at hs
    split at hs
    · unfold nxt at hs; cases hs
    · cases hs
  | getstatic k =>
    dsimp only [stpI] at hs
    split at hs
    · unfold nxt at hs; cases hs
    · cases hs
  | dup =>
    dsimp only [stpI] at hs
    split at hs
    · unfold nxt at hs; cases hs
    · unfold nxt at hs; cases hs
    · cases hs
  | pop =>
    dsimp only [stpI] at hs
    split at hs
    · unfold nxt at hs; cases hs
    · unfold nxt at hs; cases hs
    · cases hs
  | istore k =>
    dsimp only [stpI] at hs
    split at hs
    · split at hs
      · unfold nxt at hs; cases hs
      · cases hs
    · cases hs
  | istore_n k =>
    dsimp only [stpI] at hs
    split at hs
    · split at hs
      · unfold nxt at hs; cases hs
      · cases hs
    · cases hs
  | astore k =>
    dsimp only [stpI] at hs
    split at hs
    · split at hs
      · unfold nxt at hs; cases hs
      · cases hs
    · cases hs
  | astore_n k =>
    dsimp only [stpI] at hs
    split at hs
    · split at hs
      · unfold nxt at hs; cases hs
      · cases hs
    · split at hs
      · unfold nxt at hs; cases hs
      · cases hs
    · cases hs
  | lstore k =>
    dsimp only [stpI] at hs
    split at hs
    · split at hs
      · unfold nxt at hs; cases hs
      · cases hs
    · cases hs
  | lstore_n k =>
    dsimp only [stpI] at hs
    split at hs
    · split at hs
      · unfold nxt at hs; cases hs
      · cases hs
    · cases hs
  | idiv =>
    dsimp only [stpI] at hs
    split at hs
    · split at hs
      · cases hs
      · unfold nxt at hs; cases hs
    · cases hs
  | irem =>
    dsimp only [stpI] at hs
    split at hs
    · split at hs
      · cases hs
      · unfold nxt at hs; cases hs
    · cases hs
  | ldiv =>
    dsimp only [stpI] at hs
    split at hs
    · split at hs
      · cases hs
      · unfold nxt at hs; cases hs
    · cases hs
  | lrem =>
    dsimp only [stpI] at hs
    split at hs
    · split at hs
      · cases hs
      · unfold nxt at hs; cases hs
    · cases hs
  | ifCond cd off =>
    dsimp only [stpI] at hs
    split at hs
    · split at hs
      · split at hs
        · exact J0 hs
        · unfold nxt at hs; cases hs
      · cases hs
    · cases hs
  | if_icmp cd off =>
    dsimp only [stpI] at hs
    split at hs
    · split at hs
      · split at hs
        · exact J0 hs
        · unfold nxt at hs; cases hs
      · cases hs
    · cases hs
  | if_acmp cd off =>
    dsimp only [stpI] at hs
    split at hs
    · replace hs := (ifP_some hs).2
      cases cd with
      | eq =>
        dsimp only at hs
        split at hs
        · exact J0 hs
        · unfold nxt at hs; cases hs
      | ne =>
        dsimp only at hs
        split at hs
        · unfold nxt at hs; cases hs
        · exact J0 hs
    · cases hs
  | ifnonnull off =>
    dsimp only [stpI] at hs
    split at hs
    · split at hs
      · cases hs
      · exact J0 hs
    · unfold nxt at hs; cases hs
    · cases hs
  | tableswitch a b cc dd =>
    dsimp only [stpI] at hs
    split at hs
    · split at hs
      · split at hs
        · exact J0 hs
        · cases hs
      · exact J0 hs
    · cases hs
  | lookupswitch a b =>
    dsimp only [stpI] at hs
    split at hs
    · split at hs
      · exact J0 hs
      · cases hs
    · cases hs
  | getfield k =>
    dsimp only [stpI] at hs
    split at hs
    · split at hs
      · cases (ifP_some hs).2
      · cases hs
    · cases hs
  | putfield k =>
    dsimp only [stpI] at hs
    split at hs
    · split at hs
      · cases (ifP_some hs).2
      · cases hs
    · cases hs
  | iaload =>
    dsimp only [stpI] at hs
    split at hs
    · cases (ifP_some hs).2
    · cases hs
  | baload =>
    dsimp only [stpI] at hs
    split at hs
    · cases (ifP_some hs).2
    · cases hs
  | laload =>
    dsimp only [stpI] at hs
    split at hs
    · cases (ifP_some hs).2
    · cases hs
  | aaload =>
    dsimp only [stpI] at hs
    split at hs
    · cases (ifP_some hs).2
    · cases hs
  | iastore =>
    dsimp only [stpI] at hs
    split at hs
    · cases (ifP_some hs).2
    · cases hs
  | bastore =>
    dsimp only [stpI] at hs
    split at hs
    · cases (ifP_some hs).2
    · cases hs
  | lastore =>
    dsimp only [stpI] at hs
    split at hs
    · cases (ifP_some hs).2
    · cases hs
  | aastore =>
    dsimp only [stpI] at hs
    split at hs
    · cases (ifP_some hs).2
    · cases hs
  | arraylength =>
    dsimp only [stpI] at hs
    split at hs
    · split at hs
      · unfold nxt at hs; cases hs
      · cases hs
    · cases hs
  | new k =>
    dsimp only [stpI] at hs
    split at hs
    · split at hs
      · cases hs
      · unfold nxt at hs; cases hs
    · cases hs
  | newarray t =>
    dsimp only [stpI] at hs
    split at hs
    · split at hs
      · split at hs
        · unfold nxt at hs; cases hs
        · unfold nxt at hs; cases hs
        · unfold nxt at hs; cases hs
        · unfold nxt at hs; cases hs
        · cases hs
      · cases hs
    · cases hs
  | anewarray k =>
    dsimp only [stpI] at hs
    split at hs
    · split at hs
      · unfold nxt at hs; cases hs
      · cases hs
    · cases hs
  | multianewarray k dm =>
    dsimp only [stpI] at hs
    split at hs
    · split at hs
      · unfold nxt at hs; cases hs
      · cases hs
    · cases hs
  | checkcast k =>
    dsimp only [stpI] at hs
    split at hs
    · split at hs
      · cases (ifP_some hs).2
      · cases hs
    · cases hs
  | invokevirtual k => cases hc
  | invokespecial k => cases hc
  | invokestatic k => cases hc
  | ireturn =>
    dsimp only [stpI] at hs
    split at hs
    · cases (ifP_some hs).2
    · cases hs
  | lreturn =>
    dsimp only [stpI] at hs
    split at hs
    · cases (ifP_some hs).2
    · cases hs
  | areturn =>
    dsimp only [stpI] at hs
    split at hs
    · cases (ifP_some hs).2
    · cases hs
  | return_ =>
    dsimp only [stpI] at hs
    split at hs
    · cases (ifP_some hs).2
    · cases hs
  | _ => simp [stpI] at hs

section CALL
variable {p : Program} {l : Launch} {e : Env} {R : Room} {s : State} {m : MethodId} {args : Array Value} {below : List Frame} {meth : Method} {c : Code} {Q : State → Prop}
variable {X : AX} {D : va_G} {aC : Nat → ClassId} {L : Nat} {xs : Nat → Int32} {M : MI}
variable {H : Heap} {locs : List Loc} {cells slots pc : Nat} {lsA : Array Slot} {ls : PL} {st : List PV} {h : PH}
theorem W_run {mc ms : Nat} {st0 rest : List Value} {v : Option PV} {h1 : PH} {free : Addr → Prop} {a : Array Value} (hr : va_Run p l e R s m args below meth c H locs cells slots mc ms (F0 m pc lsA st0) rest (cQc X D aC L xs v h1 a) free) (hf : ∀ q, free q → X.1 ≤ q) (hS : va_S (fun q => X.1 ≤ q) s.heap H locs)
    (kk : ∀ (H1 : Heap) (locs1 : List Loc), HR X D aC L xs h1 H1 → va_S (fun q => X.1 ≤ q) s.heap H1 locs1 → W p l e R s m args below meth c H1 locs1 (cells + mc) (slots + ms) Q (F0 m (pc + 3) lsA ((v.map (tr X)).toList ++ rest))) :
    W p l e R s m args below meth c H locs cells slots Q (F0 m pc lsA st0) := by
  intro T hT Y
  obtain ⟨v1, st₀, t, T', L1, h0, X', hL, e1, e2, ⟨hv, hH, hz, hk⟩, stp⟩ := hr T hT Y
  cases hv
  rw [h0] at hz hk
  obtain ⟨t2, a1, b1⟩ := kk T'.heap (locs ++ L1) (by rw [e1]; exact hH) ⟨Nat.le_trans hS.1 (by rw [e1]; exact hz), fun q g1 g2 => by rw [e1, hk q (Nat.lt_of_lt_of_le g1 hS.1) g2]; exact hS.2.1 q g1 g2, fun q hq => by
      rcases List.mem_append.mp hq with z | z
      · exact hS.2.2 q z
      · exact hf _ (hL q z)⟩ T' rfl X'
  exact ⟨t2, stp t2 a1, b1⟩
theorem pre_of (C : CXM X D aC L xs M p s m args meth c) (hH : HR X D aC L xs h H) (hS : va_S (fun q => X.1 ≤ q) s.heap H locs) (hsz : H.size ≤ s.heap.size + cells) (hz : X.1 + h.1 = s.heap.size + cells + 10) (as : List PV) : ∀ U : State, U.heap = H → s.WarmedH U.vm → cPc X D aC L xs h as (as.map (tr X)).toArray U := by
  intro U hU hW
  obtain ⟨hx, hb, hml, hown, hts, hrt, hlk, hnm, hKS, hRO, hB⟩ := C
  have h2 := HR_size hH hB hS
  have h10 := hH.1
  refine ⟨rfl, KS.warm hW hKS, RO.to hW.alike (fun q g1 g2 => by rw [hU]; exact hS.2.1 q g1 g2) hRO, by rw [hU]; exact hH, by rw [hU]; omega⟩
theorem snd_call {ins : Instr} {len d j : Nat} {as r : List PV} {v : Option PV} {h1 : PH} (C : CXM X D aC L xs M p s m args meth c) (hd : decode M.2.1 pc = .ok (ins, len)) (hol : okLen ins len = true) (hr1 : d + 2 ≤ R.frames) (hr2 : 48 * (d + 2) ≤ R.locals) (hlen : ls.length = M.2.2.1)
    (hH : HR X D aC L xs h H) (hS : va_S (fun q => X.1 ≤ q) s.heap H locs) (hL : LR X lsA ls) (hz : X.1 + h.1 = s.heap.size + cells + 10) (hs : stpI M pc ls st h (pc + len) ins = some (.inr (.inl (j, as, r)))) (ih : ∀ J, meths[j]? = some J → (lay as).length ≤ J.2.2.1 → SEM d j 0 (ent as J.2.2.1) [] h v h1)
    (hm : h.1 ≤ h1.1 ∧ h.2.1 ≤ h1.2.1) (hc1 : cells + h1.1 ≤ R.cells + h.1) (hs1 : slots + h1.2.1 ≤ R.slots + h.2.1)
    (K : NX p l e R s m args below meth c Q X D aC L xs cells slots h (pc + 3) ls (v.toList ++ r) h1) :
    W p l e R s m args below meth c H locs cells slots Q (F0 m pc lsA (st.map (tr X))) := by
  have hlA : lsA.size = M.2.2.1 := by rw [← hlen]; exact hL.1
  have C' := C
  obtain ⟨hx, hb, hml, hown, hts, hrt, hlk, hnm, hKS, hRO, hB⟩ := C
  have Kk : ∀ (H1 : Heap) (locs1 : List Loc), HR X D aC L xs h1 H1 → va_S (fun q => X.1 ≤ q) s.heap H1 locs1 → W p l e R s m args below meth c H1 locs1 (cells + (h1.1 - h.1)) (slots + (h1.2.1 - h.2.1)) Q (F0 m (pc + 3) lsA ((v.map (tr X)).toList ++ r.map (tr X))) := by
    intro H1 locs1 g1 g2
    have := K H1 locs1 lsA (cells + (h1.1 - h.1)) (slots + (h1.2.1 - h.2.1)) (by omega) (by omega) g1 g2 hL
    rw [List.map_append] at this
    cases v <;> exact this
  have hGood : ∀ {J : MI}, Cond.code J.1 J.2.1 J.2.2.1 J.2.2.2.1 ∈ TB → GoodIn TB (Cond.code J.1 J.2.1 J.2.2.1 J.2.2.2.1 :: TB) := fun hcd w hw => by
    rcases List.mem_cons.mp hw with rfl | hw
    · exact TB_good _ hcd
    · exact TB_good _ hw
  refine W_size (fun hsz => ?_)
  cases ins with
  | invokevirtual k =>
    have hl : len = 3 := by simpa [okLen] using hol
    subst hl
    dsimp only [stpI] at hs
    split at hs
    · next j' n hk =>
      split at hs
      · next a r' hst =>
        obtain ⟨⟨⟨g1, g2⟩, g3⟩, hs⟩ := ifP_some hs
        cases hs
        obtain ⟨J, hJ⟩ := mth_some hk
        rw [hJ] at g1
        have hmx : mxl j = J.2.2.1 := by unfold mxl; rw [hJ]
        rw [hmx] at g3
        obtain ⟨hlk1, hpar, h20, hinst, -, hsel, -, hini⟩ := mth_ok hk hJ (by omega)
        obtain ⟨hcode, hpl, hcn, hm20, hmh⟩ := meth_ok hJ h20
        have hM := met_of (l := l) (X := X) (D := D) (aC := aC) (L := L) (xs := xs) hJ h20 g3 (ih J hJ g3)
        have hown21 := own_lt hJ
        have hlink : Cond.methodLink (nm M.2.2.2.2) k J.1 ∈ TB := by
          rcases hlk1 with z | z
          · exfalso
            unfold isNest at z
            have := of_decide_eq_true z
            exact nest_no (of_decide_eq_true z) hk
          · exact z
        have hne : hp h a ≠ oC 99 [] := fun z => by
          rw [z] at g1
          have : (99 : Nat) = J.2.2.2.2 := Option.some.inj g1
          omega
        have hold := HR_old hH hne
        have ha9 : a ≠ 9 := by omega
        have hrecv : ∃ cellB : Cell, H[adr X a]? = some cellB ∧ cellB.vm.isStatics = false ∧ s.vm.findClass J.1.cls = some cellB.cls := by
          cases hq : hp h a with
          | inr z => rw [hq] at g1; cases g1
          | inl z =>
            obtain ⟨ci, fs⟩ := z
            rw [hq] at g1
            have hci : ci = J.2.2.2.2 := Option.some.inj g1
            rcases hold with h9 | ⟨q1, q2⟩
            · have h3 := hH.2.2.2.1 a (by omega)
              rw [hq] at h3
              have hk1 : (1 ≤ a ∧ a ≤ 4) ∧ ci = 13 := by
                match a, h9, h3 with
                | 0, _, h3 => cases h3
                | 1, _, h3 => cases h3; exact ⟨by omega, rfl⟩
                | 2, _, h3 => cases h3; exact ⟨by omega, rfl⟩
                | 3, _, h3 => cases h3; exact ⟨by omega, rfl⟩
                | 4, _, h3 => cases h3; exact ⟨by omega, rfl⟩
                | 5, _, h3 => cases h3
                | 6, _, h3 => cases h3
                | 7, _, h3 => cases h3
                | 8, _, h3 => cases h3
              obtain ⟨⟨ha1, ha4⟩, hc13⟩ := hk1
              have := va_Orecv (hRO.2.1 a ha1 ha4).1 hS
              have had : adr X a = X.2.1 a := by unfold adr; rw [if_pos (by omega)]
              rw [had, hcn, ← hci, hc13]
              exact this
            · obtain ⟨h3, h4⟩ := HR_at hH q1 q2 hq
              obtain ⟨rr, hcl, -⟩ := h4
              have := va_recv hKS.1 hH.2.1 hcl h3
              rw [hcn, ← hci, (dfl_len hcl).2]
              exact this
        have hsp : st = st.take n ++ vr a :: r := by
          have := List.take_append_drop n st
          rw [hst] at this
          exact this.symm
        have hnl : (st.take n).length = n := by
          rw [List.length_take]
          have : (st.drop n).length = (Sum.inr (Sum.inr (some a)) :: r : List PV).length := by rw [hst]
          rw [List.length_drop, List.length_cons] at this
          omega
        have hstk : st.map (tr X) = (((st.take n).reverse).map (tr X)).reverse ++ .ref (adr X a) :: r.map (tr X) := by
          conv => lhs; rw [hsp]
          rw [List.map_append, List.map_cons, tr_r ha9, ← List.map_reverse, List.reverse_reverse]
        rw [hstk]
        have hpre := pre_of C' hH hS hsz hz (vr a :: (st.take n).reverse)
        rw [List.map_cons, tr_r ha9] at hpre
        refine W_run (a := (Value.ref (adr X a) :: ((st.take n).reverse).map (tr X)).toArray) (va_runV (As := ((st.take n).reverse).map (tr X)) (rest := r.map (tr X)) (b := adr X a) (n := n) ⟨hx, hb, hml, hown, hts⟩ hM (cwV n hts (C := J.1.cls) (fun w hw => ?_) rfl rfl rfl ⟨rfl, hmh.1, hmh.2, hpar⟩ ⟨by show d + 1 + 1 ≤ _; omega, by show 8 + (J.2.2.1 + 11) + 48 * (d + 1) ≤ _; omega⟩) ⟨cPc_blind, hrecv, hpre⟩ rfl (by rw [List.length_map, List.length_reverse]; exact hnl) hlA rfl (lv_room (by rw [wd_cat]; exact g2)) hd ⟨by omega, by omega⟩) (fun _ z => z) hS Kk
        unfold wsV at hw
        rcases List.mem_append.mp hw with z | z
        · simp only [List.mem_cons, List.not_mem_nil, or_false] at z
          rcases z with rfl | rfl | rfl | rfl
          · exact TB_good _ hlink
          · exact TB_good _ (hinst (by omega))
          · exact TB_good _ (hsel rfl)
          · exact TB_good _ hini
        · exact hGood hcode w z
      · cases hs
    · split at hs
      · split at hs
        · cases (ifP_some hs).2
        · cases hs
      · cases hs
    · cases hs
  | invokespecial k =>
    have hl : len = 3 := by simpa [okLen] using hol
    subst hl
    dsimp only [stpI] at hs
    split at hs
    · next j' n hk =>
      split at hs
      · next a r' hst =>
        obtain ⟨⟨⟨g1, g2⟩, g3⟩, hs⟩ := ifP_some hs
        cases hs
        obtain ⟨J, hJ⟩ := mth_some hk
        have hmx : mxl j = J.2.2.1 := by unfold mxl; rw [hJ]
        rw [hmx] at g3
        obtain ⟨hlk1, hpar, h20, hinst, -, -, hini2, hini⟩ := mth_ok hk hJ (by omega)
        obtain ⟨hcode, hpl, hcn, hm20, hmh⟩ := meth_ok hJ h20
        have hM := met_of (l := l) (X := X) (D := D) (aC := aC) (L := L) (xs := xs) hJ h20 g3 (ih J hJ g3)
        have ha9 : a ≠ 9 := by omega
        have hsp : st = st.take n ++ vr a :: r := by
          have := List.take_append_drop n st
          rw [hst] at this
          exact this.symm
        have hnl : (st.take n).length = n := by
          rw [List.length_take]
          have : (st.drop n).length = (Sum.inr (Sum.inr (some a)) :: r : List PV).length := by rw [hst]
          rw [List.length_drop, List.length_cons] at this
          omega
        have hstk : st.map (tr X) = (((st.take n).reverse).map (tr X)).reverse ++ .ref (adr X a) :: r.map (tr X) := by
          conv => lhs; rw [hsp]
          rw [List.map_append, List.map_cons, tr_r ha9, ← List.map_reverse, List.reverse_reverse]
        rw [hstk]
        have hpre := pre_of C' hH hS hsz hz (vr a :: (st.take n).reverse)
        rw [List.map_cons, tr_r ha9] at hpre
        obtain ⟨hi1, hi2⟩ := hini2 rfl
        rw [hi2] at hM
        have hG2 : GoodIn TB (Cond.code J.1 J.2.1 J.2.2.1 none :: TB) := by rw [← hi2]; exact hGood hcode
        rcases hlk1 with z | z
        · have hz1 := of_decide_eq_true z
          have hnst := nest_J hz1 hk hJ
          rw [hz1.1] at hown hk
          exact W_run (a := (Value.ref (adr X a) :: ((st.take n).reverse).map (tr X)).toArray) (va_runIN (As := ((st.take n).reverse).map (tr X)) (rest := r.map (tr X)) (b := adr X a) (n := n) (own := "BearerKin") (host := "BearerKin") ⟨hx, hb, hml, hown, hts⟩ hM ⟨va_cnB n hts hG2 rfl rfl rfl (by rw [hnst]; exact hKS.2.1 k hz1.2) (hts _ hini) ⟨hmh.1, hmh.2, hpar⟩ ⟨by show d + 1 + 1 ≤ _; omega, by show 8 + (J.2.2.1 + 11) + 48 * (d + 1) ≤ _; omega⟩, hi1, hts _ (hinst (by omega))⟩ ⟨cPc_blind, hpre⟩ rfl (by rw [List.length_map, List.length_reverse]; exact hnl) hlA rfl (lv_room (by rw [wd_cat]; exact g2)) hd ⟨by omega, by omega⟩) (fun _ z => z) hS Kk
        · exact W_run (a := (Value.ref (adr X a) :: ((st.take n).reverse).map (tr X)).toArray) (va_runI (As := ((st.take n).reverse).map (tr X)) (rest := r.map (tr X)) (b := adr X a) (n := n) ⟨hx, hb, hml, hown, hts⟩ hM (cwI n hts hG2 rfl rfl rfl (hts _ hini) (hts _ z) (hts _ (hinst (by omega))) hi1 ⟨hmh.1, hmh.2, hpar⟩ ⟨by show d + 1 + 1 ≤ _; omega, by show 8 + (J.2.2.1 + 11) + 48 * (d + 1) ≤ _; omega⟩) ⟨cPc_blind, hpre⟩ rfl (by rw [List.length_map, List.length_reverse]; exact hnl) hlA rfl (lv_room (by rw [wd_cat]; exact g2)) hd ⟨by omega, by omega⟩) (fun _ z => z) hS Kk
      · cases hs
    · split at hs
      · cases (ifP_some hs).2
      · cases hs
    · cases hs
  | invokestatic k =>
    have hl : len = 3 := by simpa [okLen] using hol
    subst hl
    dsimp only [stpI] at hs
    split at hs
    · next j' n hk =>
      obtain ⟨⟨⟨g1, g2⟩, g3⟩, hs⟩ := ifP_some hs
      cases hs
      obtain ⟨J, hJ⟩ := mth_some hk
      have hmx : mxl j = J.2.2.1 := by unfold mxl; rw [hJ]
      rw [hmx] at g3
      obtain ⟨hlk1, hpar, h20, -, hstat, -, -, hini⟩ := mth_ok hk hJ (by omega)
      obtain ⟨hcode, hpl, hcn, hm20, hmh⟩ := meth_ok hJ h20
      have hM := met_of (l := l) (X := X) (D := D) (aC := aC) (L := L) (xs := xs) hJ h20 g3 (ih J hJ g3)
      have hlink : Cond.methodLink (nm M.2.2.2.2) k J.1 ∈ TB := by
        rcases hlk1 with z | z
        · exact absurd hk (nest_no2 (of_decide_eq_true z))
        · exact z
      have hstk : st.map (tr X) = (((st.take n).reverse).map (tr X)).reverse ++ (st.drop n).map (tr X) := by
        conv => lhs; rw [← List.take_append_drop n st]
        rw [List.map_append, ← List.map_reverse, List.reverse_reverse]
      rw [hstk]
      have hpre := pre_of C' hH hS hsz hz (st.take n).reverse
      refine W_run (a := (((st.take n).reverse).map (tr X)).toArray) (va_runS (As := ((st.take n).reverse).map (tr X)) (rest := (st.drop n).map (tr X)) (n := n) ⟨hx, hb, hml, hown, hts⟩ hM (va_cwS n hts (fun w hw => ?_) rfl rfl rfl ⟨hmh.1, hmh.2, hpar⟩ ⟨by show d + 1 + 1 ≤ _; omega, by show 8 + (J.2.2.1 + 11) + 48 * (d + 1) ≤ _; omega⟩) ⟨cPc_blind, hpre⟩ rfl (by rw [List.length_map, List.length_reverse, List.length_take]; omega) hlA rfl (lv_room (by rw [wd_cat]; exact g2)) hd ⟨by omega, by omega⟩) (fun _ z => z) hS Kk
      unfold va_wsS at hw
      rcases List.mem_append.mp hw with z | z
      · simp only [List.mem_cons, List.not_mem_nil, or_false] at z
        rcases z with rfl | rfl | rfl
        · exact TB_good _ hlink
        · exact TB_good _ (hstat rfl)
        · exact TB_good _ hini
      · exact hGood hcode w z
    · split at hs
      · split at hs
        · cases (ifP_some hs).2
        · cases hs
      · cases hs
    · cases hs
  | _ => exact (stpI_nocall hs (by rfl)).elim
end CALL
