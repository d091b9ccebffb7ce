/-! SOUNDNESS, the whole: by induction over the run -/
theorem va_AOA.moved {t : FieldType} {u U : State} (hvm : u.vm.Alike U.vm) (h : va_AOA t u) : va_AOA t U := by
  obtain ⟨comp, c, k, h1, h2, h3, h4, h5⟩ := arrayOverA_spec h
  obtain ⟨k', hk', he⟩ := hvm.2.2 _ _ h3
  have hi : (U.vm.classes.findIdx? fun (x : Class) => match x.kind with | .array component _ => component == comp | _ => false) = some c := by
    have e1 := va_idx_bare U.vm comp
    have e2 := va_idx_bare u.vm comp
    have e3 : U.vm.bare = u.vm.bare := by first | exact hvm.bare_eq | exact hvm.bare_eq.symm
    rw [e3] at e1
    exact (e1.symm.trans e2).trans h2
  have hkind : k'.kind = .array comp (.array t) := by rw [he]; exact h4
  have f1 : U.vm.findClass (FieldType.array t).toString = some comp := by rw [hvm.findClass]; exact h1
  have f2 : U.vm.findClass ("[" ++ (FieldType.array t).toString) = some c := by rw [hvm.findClass]; exact h5
  unfold va_AOA Cond.before Cond.holds
  simp only [Cond.value]
  rw [f1, Option.bind_some]
  refine (congrArg (fun o : Option Nat => (o.bind (fun c => (U.vm.classes[c]?).map fun (k : Class) => match k.kind with | .array _ ty => decide (ty = FieldType.array t) && decide (U.vm.findClass ("[" ++ (FieldType.array t).toString) = some c) | _ => false) == some true)) hi).trans ?_
  simp [hk', hkind, f2]
theorem va_Nw.castable {a b : String} {s U : State} (hvm : s.vm.Alike U.vm) (h : va_Nw (.castable a b) s) : va_Nw (.castable a b) U := by
  have h1 : (Cond.castable a b).before #[] (s.setVm U.vm) = true := by rw [Cond.castable_setVm hvm]; exact h
  exact va_tabs rfl (rfl : (s.setVm U.vm).vm = U.vm) h1
theorem KS.warm {X : AX} {D : va_G} {aC : Nat → ClassId} {s U : State} (hW : s.WarmedH U.vm) (h : KS X D aC s) : KS X D aC U := by
  obtain ⟨h1, h2, h3, h4, h5, h6, h7, h8, h9⟩ := h
  exact ⟨va_K.moved hW.alike h1, fun k hk => va_Nw.warmM hW (h2 k hk), va_Nw.castable hW.alike h3, va_AO.moved hW.alike h4, va_AOA.moved hW.alike h5, vk_R.warm hW h6, vk_R.warm hW h7, vk_R.warm hW h8, vk_R.warm hW h9⟩
theorem KS.same {X : AX} {D : va_G} {aC : Nat → ClassId} {s U : State} (hv : U.vm = s.vm) (h : KS X D aC s) : KS X D aC U := by
  have ha : s.vm.Alike U.vm := by rw [hv]; exact Vm.Alike.refl _
  obtain ⟨h1, h2, h3, h4, h5, h6, h7, h8, h9⟩ := h
  exact ⟨va_K.moved ha h1, fun k hk => va_Nw.same rfl hv.symm (h2 k hk), va_Nw.castable ha h3, va_AO.moved ha h4, va_AOA.moved ha h5, vk_R.same hv h6, vk_R.same hv h7, vk_R.same hv h8, vk_R.same hv h9⟩
theorem RO.to {X : AX} {L : Nat} {xs : Nat → Int32} {s U : State} {H H1 : Heap} (hvm : s.vm.Alike U.vm) (hq : ∀ q : Nat, q < H.size → ¬ X.1 ≤ q → H1[q]? = H[q]?) (h : RO X L xs s H) : RO X L xs U H1 := by
  obtain ⟨h1, h2, h3, h4⟩ := h
  refine ⟨va_T.moved hvm (h1.kept hq), fun k k1 k4 => ?_, va_Z.moved hvm (h3.kept hq), va_Z.moved hvm (h4.kept hq)⟩
  obtain ⟨g1, g2, g3, g4⟩ := h2 k k1 k4
  exact ⟨va_O.moved hvm (g1.kept hq), va_OF.moved hvm (g2.kept hq), va_OF.moved hvm (g3.kept hq), va_T.moved hvm (g4.kept hq)⟩
theorem stpI_mono {M : MI} {pc nx pc' : Nat} {ls ls' : PL} {st st' : List PV} {h h' : PH} {ins : Instr} (hs : stpI M pc ls st h nx ins = some (.inl (pc', ls', st', h'))) : h.1 ≤ h'.1 ∧ h.2.1 ≤ h'.2.1 := by
  have N1 : ∀ {pc1 : Nat} {ls1 : PL} {st1 : List PV}, nxt pc1 ls1 st1 h = some (.inl (pc', ls', st', h')) → h.1 ≤ h'.1 ∧ h.2.1 ≤ h'.2.1 := by
    intro pc1 ls1 st1 e1
    unfold nxt at e1
    cases e1
    exact ⟨Nat.le_refl _, Nat.le_refl _⟩
  have J1 : ∀ {off : Int} {ls1 : PL} {st1 : List PV}, jmp pc off ls1 st1 h = some (.inl (pc', ls', st', h')) → h.1 ≤ h'.1 ∧ h.2.1 ≤ h'.2.1 := by
    intro off ls1 st1 e1
    unfold jmp at e1
    split at e1
    · cases e1; exact ⟨Nat.le_refl _, Nat.le_refl _⟩
    · cases e1
  have N2 : ∀ {pc1 : Nat} {ls1 : PL} {st1 : List PV} {a : Nat} {c : PC}, nxt pc1 ls1 st1 (hup h a c) = some (.inl (pc', ls', st', h')) → h.1 ≤ h'.1 ∧ h.2.1 ≤ h'.2.1 := by
    intro pc1 ls1 st1 a c e1
    unfold nxt at e1
    cases e1
    exact ⟨Nat.le_refl _, Nat.le_refl _⟩
  have N3 : ∀ {pc1 : Nat} {ls1 : PL} {st1 : List PV} {a : Nat} {c : PC}, nxt pc1 ls1 st1 (mk1 h a c) = some (.inl (pc', ls', st', h')) → h.1 ≤ h'.1 ∧ h.2.1 ≤ h'.2.1 := by
    intro pc1 ls1 st1 a c e1
    unfold nxt at e1
    cases e1
    exact ⟨Nat.le_succ _, Nat.le_add_right _ _⟩
  have N4 : ∀ {pc1 : Nat} {ls1 : PL} {st1 : List PV} {a b : Nat}, nxt pc1 ls1 st1 (mkN h a b) = some (.inl (pc', ls', st', h')) → h.1 ≤ h'.1 ∧ h.2.1 ≤ h'.2.1 := by
    intro pc1 ls1 st1 a b e1
    unfold nxt at e1
    cases e1
    unfold mkN
    dsimp only
    exact ⟨by omega, by omega⟩
  cases ins with
  | iconst n =>
    dsimp only [stpI] at hs
    exact N1 hs
  | lconst n =>
    dsimp only [stpI] at hs
    exact N1 hs
  | goto off =>
    dsimp only [stpI] at hs
    exact J1 hs
  | bipush n =>
    dsimp only [stpI] at hs
    split at hs
    · exact N1 hs
    · cases hs
  | sipush n =>
    dsimp only [stpI] at hs
    split at hs
    · exact N1 hs
    · cases hs
  | iload k =>
    dsimp only [stpI] at hs
    split at hs
    · exact N1 hs
    · cases hs
  | iload_n k =>
    dsimp only [stpI] at hs
    split at hs
    · exact N1 hs
    · cases hs
  | lload k =>
    dsimp only [stpI] at hs
    split at hs
    · exact N1 hs
    · cases hs
  | lload_n k =>
    dsimp only [stpI] at hs
    split at hs
    · exact N1 hs
    · cases hs
  | aload k =>
    dsimp only [stpI] at hs
    split at hs
    · exact N1 hs
    · cases hs
  | aload_n k =>
    dsimp only [stpI] at hs
    split at hs
    · exact N1 hs
    · cases hs
  | iinc k n =>
    dsimp only [stpI] at hs
    split at hs
    · exact N1 hs
    · cases hs
  | iadd =>
    dsimp only [stpI] at hs
    split at hs
    · exact N1 hs
    · cases hs
  | isub =>
    dsimp only [stpI] at hs
    split at hs
    · exact N1 hs
    · cases hs
  | imul =>
    dsimp only [stpI] at hs
    split at hs
    · exact N1 hs
    · cases hs
  | iand =>
    dsimp only [stpI] at hs
    split at hs
    · exact N1 hs
    · cases hs
  | ior =>
    dsimp only [stpI] at hs
    split at hs
    · exact N1 hs
    · cases hs
  | ixor =>
    dsimp only [stpI] at hs
    split at hs
    · exact N1 hs
    · cases hs
  | ishl =>
    dsimp only [stpI] at hs
    split at hs
    · exact N1 hs
    · cases hs
  | ishr =>
    dsimp only [stpI] at hs
    split at hs
    · exact N1 hs
    · cases hs
  | iushr =>
    dsimp only [stpI] at hs
    split at hs
    · exact N1 hs
    · cases hs
  | ladd =>
    dsimp only [stpI] at hs
    split at hs
    · exact N1 hs
    · cases hs
  | lsub =>
    dsimp only [stpI] at hs
    split at hs
    · exact N1 hs
    · cases hs
  | lmul =>
    dsimp only [stpI] at hs
    split at hs
    · exact N1 hs
    · cases hs
  | land =>
    dsimp only [stpI] at hs
    split at hs
    · exact N1 hs
    · cases hs
  | lor =>
    dsimp only [stpI] at hs
    split at hs
    · exact N1 hs
    · cases hs
  | lshl =>
    dsimp only [stpI] at hs
    split at hs
    · exact N1 hs
    · cases hs
  | lshr =>
    dsimp only [stpI] at hs
    split at hs
    · exact N1 hs
    · cases hs
  | lcmp =>
    dsimp only [stpI] at hs
    split at hs
    · exact N1 hs
    · cases hs
  | i2l =>
    dsimp only [stpI] at hs
    split at hs
    · exact N1 hs
    · cases hs
  | l2i =>
    dsimp only [stpI] at hs
    split at hs
    · exact N1 hs
    · cases hs
  | i2b =>
    dsimp only [stpI] at hs
    split at hs
    · exact N1 hs
    · cases hs
  | i2s =>
    dsimp only [stpI] at hs
    split at hs
    · exact N1 hs
    · cases hs
  | i2c =>
    dsimp only [stpI] at hs
    split at hs
    · exact N1 hs
    · cases hs
  | dup2 =>
    dsimp only [stpI] at hs
    split at hs
    · exact N1 hs
    · cases hs
  | pop2 =>
    dsimp only [stpI] at hs
    split at hs
    · exact N1 hs
    · cases hs
  | ldc k =>
    dsimp only [stpI] at hs
    split at hs
    · exact N1 hs
    · cases hs
  | ldc_w k =>
    dsimp only [stpI] at hs
    split at hs
    · exact N1 hs
    · cases hs
  | ldc2_w k =>
    dsimp only [stpI] at hs
    split at hs
    · exact N1 hs
    · cases hs
  | getstatic k =>
    dsimp only [stpI] at hs
    split at hs
    · exact N1 hs
    · cases hs
  | dup =>
    dsimp only [stpI] at hs
    split at hs
    · exact N1 hs
    · exact N1 hs
    · cases hs
  | pop =>
    dsimp only [stpI] at hs
    split at hs
    · exact N1 hs
    · exact N1 hs
    · cases hs
  | istore k =>
    dsimp only [stpI] at hs
    split at hs
    · split at hs
      · exact N1 hs
      · cases hs
    · cases hs
  | istore_n k =>
    dsimp only [stpI] at hs
    split at hs
    · split at hs
      · exact N1 hs
      · cases hs
    · cases hs
  | astore k =>
    dsimp only [stpI] at hs
    split at hs
    · split at hs
      · exact N1 hs
      · cases hs
    · cases hs
  | astore_n k =>
    dsimp only [stpI] at hs
    split at hs
    · split at hs
      · exact N1 hs
      · cases hs
    · split at hs
      · exact N1 hs
      · cases hs
    · cases hs
  | lstore k =>
    dsimp only [stpI] at hs
    split at hs
    · split at hs
      · exact N1 hs
      · cases hs
    · cases hs
  | lstore_n k =>
    dsimp only [stpI] at hs
    split at hs
    · split at hs
      · exact N1 hs
      · cases hs
    · cases hs
  | idiv =>
    dsimp only [stpI] at hs
    split at hs
    · split at hs
      · cases hs
      · exact N1 hs
    · cases hs
  | irem =>
    dsimp only [stpI] at hs
    split at hs
    · split at hs
      · cases hs
      · exact N1 hs
    · cases hs
  | ldiv =>
    dsimp only [stpI] at hs
    split at hs
    · split at hs
      · cases hs
      · exact N1 hs
    · cases hs
  | lrem =>
    dsimp only [stpI] at hs
    split at hs
    · split at hs
      · cases hs
      · exact N1 hs
    · cases hs
  | ifCond cd off =>
    dsimp only [stpI] at hs
    split at hs
    · split at hs
      · split at hs
        · exact J1 hs
        · exact N1 hs
      · cases hs
    · cases hs
  | if_icmp cd off =>
    dsimp only [stpI] at hs
    split at hs
    · split at hs
      · split at hs
        · exact J1 hs
        · exact N1 hs
      · cases hs
    · cases hs
  | if_acmp cd off =>
    dsimp only [stpI] at hs
    split at hs
    · replace hs := (ifP_some hs).2
      cases cd with
      | eq =>
        dsimp only at hs
        split at hs
        · exact J1 hs
        · exact N1 hs
      | ne =>
        dsimp only at hs
        split at hs
        · exact N1 hs
        · exact J1 hs
    · cases hs
  | ifnonnull off =>
    dsimp only [stpI] at hs
    split at hs
    · split at hs
      · cases hs
      · exact J1 hs
    · exact N1 hs
    · cases hs
  | tableswitch a b cc dd =>
    dsimp only [stpI] at hs
    split at hs
    · split at hs
      · split at hs
        · exact J1 hs
        · cases hs
      · exact J1 hs
    · cases hs
  | lookupswitch a b =>
    dsimp only [stpI] at hs
    split at hs
    · split at hs
      · exact J1 hs
      · cases hs
    · cases hs
  | getfield k =>
    dsimp only [stpI] at hs
    split at hs
    · split at hs
      · exact N1 (ifP_some hs).2
      · cases hs
    · cases hs
  | putfield k =>
    dsimp only [stpI] at hs
    split at hs
    · split at hs
      · exact N2 (ifP_some hs).2
      · cases hs
    · cases hs
  | iaload =>
    dsimp only [stpI] at hs
    split at hs
    · exact N1 (ifP_some hs).2
    · cases hs
  | baload =>
    dsimp only [stpI] at hs
    split at hs
    · exact N1 (ifP_some hs).2
    · cases hs
  | laload =>
    dsimp only [stpI] at hs
    split at hs
    · exact N1 (ifP_some hs).2
    · cases hs
  | aaload =>
    dsimp only [stpI] at hs
    split at hs
    · exact N1 (ifP_some hs).2
    · cases hs
  | iastore =>
    dsimp only [stpI] at hs
    split at hs
    · exact N2 (ifP_some hs).2
    · cases hs
  | bastore =>
    dsimp only [stpI] at hs
    split at hs
    · exact N2 (ifP_some hs).2
    · cases hs
  | lastore =>
    dsimp only [stpI] at hs
    split at hs
    · exact N2 (ifP_some hs).2
    · cases hs
  | aastore =>
    dsimp only [stpI] at hs
    split at hs
    · exact N2 (ifP_some hs).2
    · cases hs
  | arraylength =>
    dsimp only [stpI] at hs
    split at hs
    · split at hs
      · exact N1 hs
      · cases hs
    · cases hs
  | new k =>
    dsimp only [stpI] at hs
    split at hs
    · split at hs
      · cases hs
      · exact N3 hs
    · cases hs
  | newarray t =>
    dsimp only [stpI] at hs
    split at hs
    · split at hs
      · split at hs
        · exact N3 hs
        · exact N3 hs
        · exact N3 hs
        · exact N3 hs
        · cases hs
      · cases hs
    · cases hs
  | anewarray k =>
    dsimp only [stpI] at hs
    split at hs
    · split at hs
      · exact N3 hs
      · cases hs
    · cases hs
  | multianewarray k dm =>
    dsimp only [stpI] at hs
    split at hs
    · split at hs
      · exact N4 hs
      · cases hs
    · cases hs
  | checkcast k =>
    dsimp only [stpI] at hs
    split at hs
    · split at hs
      · exact N1 (ifP_some hs).2
      · cases hs
    · cases hs
  | invokevirtual k =>
    dsimp only [stpI] at hs
    split at hs
    · split at hs
      · cases (ifP_some hs).2
      · cases hs
    · split at hs
      · split at hs
        · exact N3 (ifP_some hs).2
        · cases hs
      · cases hs
    · cases hs
  | invokespecial k =>
    dsimp only [stpI] at hs
    split at hs
    · split at hs
      · cases (ifP_some hs).2
      · cases hs
    · split at hs
      · exact N1 (ifP_some hs).2
      · cases hs
    · cases hs
  | invokestatic k =>
    dsimp only [stpI] at hs
    split at hs
    · cases (ifP_some hs).2
    · split at hs
      · split at hs
        · exact N2 (ifP_some hs).2
        · cases hs
      · cases hs
    · cases hs
  | ireturn =>
    dsimp only [stpI] at hs
    split at hs
    · cases (ifP_some hs).2
    · cases hs
  | lreturn =>
    dsimp only [stpI] at hs
    split at hs
    · cases (ifP_some hs).2
    · cases hs
  | areturn =>
    dsimp only [stpI] at hs
    split at hs
    · cases (ifP_some hs).2
    · cases hs
  | return_ =>
    dsimp only [stpI] at hs
    split at hs
    · cases (ifP_some hs).2
    · cases hs
  | _ => simp [stpI] at hs

def retAt (M : MI) (pc : Nat) (v : Option PV) : Prop := retOk M.2.2.2.1 v ∧ match v with
  | none => decode M.2.1 pc = .ok (.return_, 1)
  | some (.inl _) => decode M.2.1 pc = .ok (.ireturn, 1)
  | some (.inr (.inl _)) => decode M.2.1 pc = .ok (.lreturn, 1)
  | some (.inr (.inr r)) => decode M.2.1 pc = .ok (.areturn, 1) ∧ ∃ a, r = some a ∧ a ≠ 9
/-- what a run means on the machine -/
def SEM (d i pc : Nat) (ls : PL) (st : List PV) (h : PH) (v : Option PV) (h' : PH) : Prop :=
  (h.1 ≤ h'.1 ∧ h.2.1 ≤ h'.2.1) ∧ ∀ (M : MI), meths[i]? = some M → ls.length = M.2.2.1 →
  ∀ (p : Program) (l : Launch) (e : Env) (R : Room) (s : State) (m : MethodId) (args : Array Value) (below : List Frame) (meth : Method) (c : Code) (Q : State → Prop) (X : AX) (D : va_G) (aC : Nat → ClassId) (L : Nat) (xs : Nat → Int32) (H : Heap) (locs : List Loc) (cells slots : Nat) (lsA : Array Slot),
  CXM X D aC L xs M p s m args meth c → d + 1 ≤ R.frames → 48 * (d + 1) ≤ R.locals → HR X D aC L xs h H → va_S (fun q => X.1 ≤ q) s.heap H locs → LR X lsA ls → X.1 + h.1 = s.heap.size + cells + 10 → cells + h'.1 ≤ R.cells + h.1 → slots + h'.2.1 ≤ R.slots + h.2.1 →
  (∀ (pcR : Nat) (H' : Heap) (locs' : List Loc) (lsA' : Array Slot) (c' s' : Nat), c' + h.1 = cells + h'.1 → s' + h.2.1 = slots + h'.2.1 → HR X D aC L xs h' H' → va_S (fun q => X.1 ≤ q) s.heap H' locs' → retAt M pcR v → W p l e R s m args below meth c H' locs' c' s' Q (F0 m pcR lsA' (v.toList.map (tr X)))) →
  W p l e R s m args below meth c H locs cells slots Q (F0 m pc lsA (st.map (tr X)))
section MAIN
variable {p : Program} {l : Launch} {e : Env} {R : Room} {s : State} {m : MethodId} {args : Array Value} {below : List Frame} {meth : Method} {c : Code} {Q : State → Prop}
variable {X : AX} {D : va_G} {aC : Nat → ClassId} {L : Nat} {xs : Nat → Int32} {M : MI}
variable {H : Heap} {locs : List Loc} {cells slots pc : Nat} {lsA : Array Slot} {ls : PL} {st : List PV} {h : PH}
theorem HR_size (hH : HR X D aC L xs h H) (hB : X.1 ≤ s.heap.size) (hS : va_S (fun q => X.1 ≤ q) s.heap H locs) : X.1 + (h.1 - 10) ≤ H.size := by
  rcases Nat.lt_or_ge 10 h.1 with q | q
  · have := (hH.2.1 _ _ (wsO_at (X := X) (aC := aC) (h := h) (k := h.1 - 1) (by omega) (by omega))).lt
    rw [adr_hi (by omega)] at this
    simp only at this
    omega
  · have := hS.1
    omega
theorem snd_step {ins : Instr} {len : Nat} {pc' : Nat} {ls' : PL} {st' : List PV} {h' : PH} (C : CXM X D aC L xs M p s m args meth c) (hd : decode M.2.1 pc = .ok (ins, len)) (hol : okLen ins len = true) (hr1 : 1 ≤ R.frames) (hr2 : 48 ≤ R.locals) (hlen : ls.length = M.2.2.1)
    (hH : HR X D aC L xs h H) (hS : va_S (fun q => X.1 ≤ q) s.heap H locs) (hL : LR X lsA ls) (hz : X.1 + h.1 = s.heap.size + cells + 10) (hs : stpI M pc ls st h (pc + len) ins = some (.inl (pc', ls', st', h'))) (hc1 : cells + h'.1 ≤ R.cells + h.1) (hs1 : slots + h'.2.1 ≤ R.slots + h.2.1)
    (K : NX p l e R s m args below meth c Q X D aC L xs cells slots h pc' ls' st' h') :
    W p l e R s m args below meth c H locs cells slots Q (F0 m pc lsA (st.map (tr X))) := by
  cases hhp : heapI ins with
  | false => exact snd_simple C hd hol hhp hH hS hL hs K
  | true =>
    have hlA : lsA.size = M.2.2.1 := by rw [← hlen]; exact hL.1
    cases ins with
    | ldc k =>
      have hl : len = 2 := by simpa [okLen] using hol
      subst hl
      dsimp only [stpI] at hs
      split at hs
      · next v hv => cases hs; exact snd_ldc C hd hv (K H locs lsA cells slots rfl rfl hH hS hL)
      · cases hs
    | ldc_w k =>
      have hl : len = 3 := by simpa [okLen] using hol
      subst hl
      dsimp only [stpI] at hs
      split at hs
      · next v hv => cases hs; exact snd_ldcw C hd hv ⟨_, rfl⟩ (K H locs lsA cells slots rfl rfl hH hS hL)
      · cases hs
    | ldc2_w k =>
      have hl : len = 3 := by simpa [okLen] using hol
      subst hl
      dsimp only [stpI] at hs
      split at hs
      · next v hv => cases hs; exact lv_ldc2 C.1 C.2.1 C.2.2.2.1 (C.2.2.2.2.1 _ (kst2_ok hv)) hd (K H locs lsA cells slots rfl rfl hH hS hL)
      · cases hs
    | getstatic k =>
      have hl : len = 3 := by simpa [okLen] using hol
      subst hl
      dsimp only [stpI] at hs
      split at hs
      · next v hv => cases hs; exact snd_gets C hd hv hS (K H locs lsA cells slots rfl rfl hH hS hL)
      · cases hs
    | getfield k =>
      have hl : len = 3 := by simpa [okLen] using hol
      subst hl
      dsimp only [stpI] at hs
      split at hs
      · next a r =>
        split at hs
        · next ci q hf =>
          obtain ⟨ho, hs⟩ := ifP_some hs
          cases hs
          exact snd_getf C hd hf ho hH hS (K H locs lsA cells slots rfl rfl hH hS hL)
        · cases hs
      · cases hs
    | putfield k =>
      have hl : len = 3 := by simpa [okLen] using hol
      subst hl
      dsimp only [stpI] at hs
      split at hs
      · next v a r =>
        split at hs
        · next ci q hf =>
          obtain ⟨⟨g1, g2, g3, g4⟩, hs⟩ := ifP_some hs
          cases hs
          exact snd_putf C hd hf g1 g2 g3 g4 hH hS (fun H' locs' g1 g2 => K H' locs' lsA cells slots rfl rfl g1 g2 hL)
        · cases hs
      · cases hs
    | iaload =>
      have hl : len = 1 := by simpa [okLen] using hol
      subst hl
      dsimp only [stpI] at hs
      split at hs
      · next x a r =>
        obtain ⟨ho, hs⟩ := ifP_some hs
        cases hs
        exact snd_iald C hd ho hH hS (K H locs lsA cells slots rfl rfl hH hS hL)
      · cases hs
    | baload =>
      have hl : len = 1 := by simpa [okLen] using hol
      subst hl
      dsimp only [stpI] at hs
      split at hs
      · next x a r =>
        obtain ⟨ho, hs⟩ := ifP_some hs
        cases hs
        exact snd_bald C hd ho hH hS (K H locs lsA cells slots rfl rfl hH hS hL)
      · cases hs
    | laload =>
      have hl : len = 1 := by simpa [okLen] using hol
      subst hl
      dsimp only [stpI] at hs
      split at hs
      · next x a r =>
        obtain ⟨ho, hs⟩ := ifP_some hs
        cases hs
        exact snd_lald C hd ho hH (K H locs lsA cells slots rfl rfl hH hS hL)
      · cases hs
    | aaload =>
      have hl : len = 1 := by simpa [okLen] using hol
      subst hl
      dsimp only [stpI] at hs
      split at hs
      · next x a r =>
        obtain ⟨ho, hs⟩ := ifP_some hs
        cases hs
        exact snd_aald C hd ho hH (K H locs lsA cells slots rfl rfl hH hS hL)
      · cases hs
    | iastore =>
      have hl : len = 1 := by simpa [okLen] using hol
      subst hl
      dsimp only [stpI] at hs
      split at hs
      · next y x a r =>
        obtain ⟨ho, hs⟩ := ifP_some hs
        cases hs
        exact snd_iast C hd ho.1 ho.2 hH hS (fun H' locs' g1 g2 => K H' locs' lsA cells slots rfl rfl g1 g2 hL)
      · cases hs
    | bastore =>
      have hl : len = 1 := by simpa [okLen] using hol
      subst hl
      dsimp only [stpI] at hs
      split at hs
      · next y x a r =>
        obtain ⟨ho, hs⟩ := ifP_some hs
        cases hs
        exact snd_bast C hd ho.1 ho.2 hH hS (fun H' locs' g1 g2 => K H' locs' lsA cells slots rfl rfl g1 g2 hL)
      · cases hs
    | lastore =>
      have hl : len = 1 := by simpa [okLen] using hol
      subst hl
      dsimp only [stpI] at hs
      split at hs
      · next y x a r =>
        obtain ⟨ho, hs⟩ := ifP_some hs
        cases hs
        exact snd_last C hd ho.1 ho.2 hH hS (fun H' locs' g1 g2 => K H' locs' lsA cells slots rfl rfl g1 g2 hL)
      · cases hs
    | aastore =>
      have hl : len = 1 := by simpa [okLen] using hol
      subst hl
      dsimp only [stpI] at hs
      split at hs
      · next y x a r =>
        obtain ⟨ho, hs⟩ := ifP_some hs
        cases hs
        exact snd_aast C hd ho.1 ho.2.1 ho.2.2.1 ho.2.2.2 hH hS (fun H' locs' g1 g2 => K H' locs' lsA cells slots rfl rfl g1 g2 hL)
      · cases hs
    | arraylength =>
      have hl : len = 1 := by simpa [okLen] using hol
      subst hl
      dsimp only [stpI] at hs
      split at hs
      · next a r =>
        split at hs
        · next n hn => cases hs; exact snd_alen C hd hn hH hS (K H locs lsA cells slots rfl rfl hH hS hL)
        · cases hs
      · cases hs
    | new k =>
      have hl : len = 3 := by simpa [okLen] using hol
      subst hl
      dsimp only [stpI] at hs
      split at hs
      · next ci hc =>
        split at hs
        · cases hs
        · next h13 =>
        cases hs
        exact snd_new C hd hc (by omega) hH hS hz (by dsimp only [mk1] at hc1; omega) (by dsimp only [mk1] at hs1; omega) (fun H' g1 g2 => K H' locs lsA _ _ (by dsimp only [mk1]; omega) (by dsimp only [mk1]; omega) g1 g2 hL)
      · cases hs
    | newarray t =>
      have hl : len = 2 := by simpa [okLen] using hol
      subst hl
      dsimp only [stpI] at hs
      split at hs
      · next x r =>
        split at hs
        · next h0 =>
          split at hs
          · cases hs; exact snd_newI C hd h0.1 h0.2 hH hS hz (by dsimp only [mk1] at hc1; omega) (by dsimp only [mk1] at hs1; omega) (fun H' g1 g2 => K H' locs lsA _ _ (by dsimp only [mk1]; omega) (by dsimp only [mk1]; omega) g1 g2 hL)
          · cases hs; exact snd_newB C hd h0.1 h0.2 hH hS hz (by dsimp only [mk1] at hc1; omega) (by dsimp only [mk1] at hs1; omega) (fun H' g1 g2 => K H' locs lsA _ _ (by dsimp only [mk1]; omega) (by dsimp only [mk1]; omega) g1 g2 hL)
          · cases hs; exact snd_newZ C hd h0.1 h0.2 hH hS hz (by dsimp only [mk1] at hc1; omega) (by dsimp only [mk1] at hs1; omega) (fun H' g1 g2 => K H' locs lsA _ _ (by dsimp only [mk1]; omega) (by dsimp only [mk1]; omega) g1 g2 hL)
          · cases hs; exact snd_newJ C hd h0.1 h0.2 hH hS hz (by dsimp only [mk1] at hc1; omega) (by dsimp only [mk1] at hs1; omega) (fun H' g1 g2 => K H' locs lsA _ _ (by dsimp only [mk1]; omega) (by dsimp only [mk1]; omega) g1 g2 hL)
          · cases hs
        · cases hs
      · cases hs
    | anewarray k =>
      have hl : len = 3 := by simpa [okLen] using hol
      subst hl
      dsimp only [stpI] at hs
      split at hs
      · next x r =>
        split at hs
        · next h0 => cases hs; exact snd_anew C hd h0.2.2.2 h0.1 h0.2.1 hH hS hz (by dsimp only [mk1] at hc1; omega) (by dsimp only [mk1] at hs1; omega) (fun H' g1 g2 => K H' locs lsA _ _ (by dsimp only [mk1]; omega) (by dsimp only [mk1]; omega) g1 g2 hL)
        · cases hs
      · cases hs
    | multianewarray k dm =>
      have hl : len = 4 := by simpa [okLen] using hol
      subst hl
      dsimp only [stpI] at hs
      split at hs
      · next y x r =>
        split at hs
        · next h0 =>
          cases hs
          obtain ⟨g1, g2, g3, g4, -, rfl, g5⟩ := h0
          refine W_size (fun hsz => ?_)
          exact snd_mna C hd g5 g1 g2 g3 g4 hH hS hz hsz (HR_size hH C.2.2.2.2.2.2.2.2.2.2 hS) (by dsimp only [mkN] at hc1; omega) (by dsimp only [mkN] at hs1; omega) (fun H' q1 q2 => K H' locs lsA _ _ (by dsimp only [mkN]; omega) (by dsimp only [mkN]; omega) q1 q2 hL)
        · cases hs
      · cases hs
    | checkcast k =>
      have hl : len = 3 := by simpa [okLen] using hol
      subst hl
      dsimp only [stpI] at hs
      split at hs
      · next a r =>
        split at hs
        · next hc =>
          obtain ⟨⟨g1, n, f, g2⟩, hs⟩ := ifP_some hs
          cases hs
          exact snd_cast C hd hc g2 g1 hH (K H locs lsA cells slots rfl rfl hH hS hL)
        · cases hs
      · cases hs
    | invokevirtual k =>
      have hl : len = 3 := by simpa [okLen] using hol
      subst hl
      dsimp only [stpI] at hs
      split at hs
      · split at hs
        · cases (ifP_some hs).2
        · cases hs
      · next j n hk =>
        split at hs
        · next a r =>
          split at hs
          · next n1 f hc =>
            obtain ⟨⟨g1, g2, g3⟩, hs⟩ := ifP_some hs
            cases hs
            exact snd_clone C hd (mth_z4 hk) hc g1 g2 hlA hr1 hr2 hH hS hz (by dsimp only [mk1] at hc1; omega) (by dsimp only [mk1] at hs1; omega) (fun H' g1 g2 => K H' locs lsA _ _ (by dsimp only [mk1]; omega) (by dsimp only [mk1]; omega) g1 g2 hL)
          · cases hs
        · cases hs
      · cases hs
    | invokespecial k =>
      have hl : len = 3 := by simpa [okLen] using hol
      subst hl
      dsimp only [stpI] at hs
      split at hs
      · split at hs
        · cases (ifP_some hs).2
        · cases hs
      · next j n hk =>
        split at hs
        · next a r =>
          obtain ⟨⟨g1, g2⟩, hs⟩ := ifP_some hs
          cases hs
          exact snd_obj C hd (mth_z3 hk) g1 g2 hlA hr1 hr2 (K H locs lsA cells slots rfl rfl hH hS hL)
        · cases hs
      · cases hs
    | invokestatic k =>
      have hl : len = 3 := by simpa [okLen] using hol
      subst hl
      dsimp only [stpI] at hs
      split at hs
      · cases (ifP_some hs).2
      · next j n hk =>
        split at hs
        · next ln dp b sp a r =>
          split at hs
          · next n1 f n2 g hq1 hq2 =>
            obtain ⟨⟨g1, g2, g3, g4, g5, g6, g7, g8⟩, hs⟩ := ifP_some hs
            cases hs
            exact snd_copy C hd (mth_z5 hk) hq1 hq2 g1 g2 g3 hlA hr1 hr2 g4 g5 g6 g7 g8 hH hS (fun H' locs' g1 g2 => K H' locs' lsA cells slots rfl rfl g1 g2 hL)
          · cases hs
        · cases hs
      · cases hs
    | _ => simp [heapI] at hhp
end MAIN
