theorem setL2_len {pl : PL} {i : Nat} {v : PV} : (setL2 pl i v).length = pl.length := by unfold setL2; rw [List.length_set, setL1_len]
theorem stpI_len {M : MI} {pc nx pc' n : Nat} {ls ls' : PL} {st st' : List PV} {h h' : PH} {ins : Instr} (hs : stpI M pc ls st h nx ins = some (.inl (pc', ls', st', h'))) (hn : ls.length = n) : ls'.length = n := by
  have N1 : ∀ {pc1 : Nat} {ls1 : PL} {st1 : List PV} {h1 : PH}, nxt pc1 ls1 st1 h1 = some (.inl (pc', ls', st', h')) → ls1.length = n → ls'.length = n := by
    intro pc1 ls1 st1 h1 e1 e2
    unfold nxt at e1
    cases e1
    exact e2
  have J1 : ∀ {off : Int} {st1 : List PV}, jmp pc off ls st1 h = some (.inl (pc', ls', st', h')) → ls'.length = n := by
    intro off st1 e1
    unfold jmp at e1
    split at e1
    · cases e1; exact hn
    · cases e1
  cases ins with
  | iconst n =>
    dsimp only [stpI] at hs
    exact N1 hs hn
  | lconst n =>
    dsimp only [stpI] at hs
    exact N1 hs hn
  | goto off =>
    dsimp only [stpI] at hs
    exact J1 hs
  | bipush n =>
    dsimp only [stpI] at hs
    split at hs
    · exact N1 hs hn
    · cases hs
  | sipush n =>
    dsimp only [stpI] at hs
    split at hs
    · exact N1 hs hn
    · cases hs
  | iload k =>
    dsimp only [stpI] at hs
    split at hs
    · exact N1 hs hn
    · cases hs
  | iload_n k =>
    dsimp only [stpI] at hs
    split at hs
    · exact N1 hs hn
    · cases hs
  | lload k =>
    dsimp only [stpI] at hs
    split at hs
    · exact N1 hs hn
    · cases hs
  | lload_n k =>
    dsimp only [stpI] at hs
    split at hs
    · exact N1 hs hn
    · cases hs
  | aload k =>
    dsimp only [stpI] at hs
    split at hs
    · exact N1 hs hn
    · cases hs
  | aload_n k =>
    dsimp only [stpI] at hs
    split at hs
    · exact N1 hs hn
    · cases hs
  | iinc k n =>
    dsimp only [stpI] at hs
    split at hs
    · exact N1 hs (by rw [setL1_len]; exact hn)
    · cases hs
  | iadd =>
    dsimp only [stpI] at hs
    split at hs
    · exact N1 hs hn
    · cases hs
  | isub =>
    dsimp only [stpI] at hs
    split at hs
    · exact N1 hs hn
    · cases hs
  | imul =>
    dsimp only [stpI] at hs
    split at hs
    · exact N1 hs hn
    · cases hs
  | iand =>
    dsimp only [stpI] at hs
    split at hs
    · exact N1 hs hn
    · cases hs
  | ior =>
    dsimp only [stpI] at hs
    split at hs
    · exact N1 hs hn
    · cases hs
  | ixor =>
    dsimp only [stpI] at hs
    split at hs
    · exact N1 hs hn
    · cases hs
  | ishl =>
    dsimp only [stpI] at hs
    split at hs
    · exact N1 hs hn
    · cases hs
  | ishr =>
    dsimp only [stpI] at hs
    split at hs
    · exact N1 hs hn
    · cases hs
  | iushr =>
    dsimp only [stpI] at hs
    split at hs
    · exact N1 hs hn
    · cases hs
  | ladd =>
    dsimp only [stpI] at hs
    split at hs
    · exact N1 hs hn
    · cases hs
  | lsub =>
    dsimp only [stpI] at hs
    split at hs
    · exact N1 hs hn
    · cases hs
  | lmul =>
    dsimp only [stpI] at hs
    split at hs
    · exact N1 hs hn
    · cases hs
  | land =>
    dsimp only [stpI] at hs
    split at hs
    · exact N1 hs hn
    · cases hs
  | lor =>
    dsimp only [stpI] at hs
    split at hs
    · exact N1 hs hn
    · cases hs
  | lshl =>
    dsimp only [stpI] at hs
    split at hs
    · exact N1 hs hn
    · cases hs
  | lshr =>
    dsimp only [stpI] at hs
    split at hs
    · exact N1 hs hn
    · cases hs
  | lcmp =>
    dsimp only [stpI] at hs
    split at hs
    · exact N1 hs hn
    · cases hs
  | i2l =>
    dsimp only [stpI] at hs
    split at hs
    · exact N1 hs hn
    · cases hs
  | l2i =>
    dsimp only [stpI] at hs
    split at hs
    · exact N1 hs hn
    · cases hs
  | i2b =>
    dsimp only [stpI] at hs
    split at hs
    · exact N1 hs hn
    · cases hs
  | i2s =>
    dsimp only [stpI] at hs
    split at hs
    · exact N1 hs hn
    · cases hs
  | i2c =>
    dsimp only [stpI] at hs
    split at hs
    · exact N1 hs hn
    · cases hs
  | dup2 =>
    dsimp only [stpI] at hs
    split at hs
    · exact N1 hs hn
    · cases hs
  | pop2 =>
    dsimp only [stpI] at hs
    split at hs
    · exact N1 hs hn
    · cases hs
  | ldc k =>
    dsimp only [stpI] at hs
    split at hs
    · exact N1 hs hn
    · cases hs
  | ldc_w k =>
    dsimp only [stpI] at hs
    split at hs
    · exact N1 hs hn
    · cases hs
  | ldc2_w k =>
    dsimp only [stpI] at hs
    split at hs
    · exact N1 hs hn
    · cases hs
  | getstatic k =>
    dsimp only [stpI] at hs
    split at hs
    · exact N1 hs hn
    · cases hs
  | dup =>
    dsimp only [stpI] at hs
    split at hs
    · exact N1 hs hn
    · exact N1 hs hn
    · cases hs
  | pop =>
    dsimp only [stpI] at hs
    split at hs
    · exact N1 hs hn
    · exact N1 hs hn
    · cases hs
  | istore k =>
    dsimp only [stpI] at hs
    split at hs
    · split at hs
      · exact N1 hs (by rw [setL1_len]; exact hn)
      · cases hs
    · cases hs
  | istore_n k =>
    dsimp only [stpI] at hs
    split at hs
    · split at hs
      · exact N1 hs (by rw [setL1_len]; exact hn)
      · cases hs
    · cases hs
  | astore k =>
    dsimp only [stpI] at hs
    split at hs
    · split at hs
      · exact N1 hs (by rw [setL1_len]; exact hn)
      · cases hs
    · cases hs
  | astore_n k =>
    dsimp only [stpI] at hs
    split at hs
    · split at hs
      · exact N1 hs (by rw [setL1_len]; exact hn)
      · cases hs
    · split at hs
      · exact N1 hs (by rw [setL1_len]; exact hn)
      · cases hs
    · cases hs
  | lstore k =>
    dsimp only [stpI] at hs
    split at hs
    · split at hs
      · exact N1 hs (by rw [setL2_len]; exact hn)
      · cases hs
    · cases hs
  | lstore_n k =>
    dsimp only [stpI] at hs
    split at hs
    · split at hs
      · exact N1 hs (by rw [setL2_len]; exact hn)
      · cases hs
    · cases hs
  | idiv =>
    dsimp only [stpI] at hs
    split at hs
    · split at hs
      · cases hs
      · exact N1 hs hn
    · cases hs
  | irem =>
    dsimp only [stpI] at hs
    split at hs
    · split at hs
      · cases hs
      · exact N1 hs hn
    · cases hs
  | ldiv =>
    dsimp only [stpI] at hs
    split at hs
    · split at hs
      · cases hs
      · exact N1 hs hn
    · cases hs
  | lrem =>
    dsimp only [stpI] at hs
    split at hs
    · split at hs
      · cases hs
      · exact N1 hs hn
    · cases hs
  | ifCond cd off =>
    dsimp only [stpI] at hs
    split at hs
    · split at hs
      · split at hs
        · exact J1 hs
        · exact N1 hs hn
      · cases hs
    · cases hs
  | if_icmp cd off =>
    dsimp only [stpI] at hs
    split at hs
    · split at hs
      · split at hs
        · exact J1 hs
        · exact N1 hs hn
      · cases hs
    · cases hs
  | if_acmp cd off =>
    dsimp only [stpI] at hs
    split at hs
    · replace hs := (ifP_some hs).2
      cases cd with
      | eq =>
        dsimp only at hs
        split at hs
        · exact J1 hs
        · exact N1 hs hn
      | ne =>
        dsimp only at hs
        split at hs
        · exact N1 hs hn
        · exact J1 hs
    · cases hs
  | ifnonnull off =>
    dsimp only [stpI] at hs
    split at hs
    · split at hs
      · cases hs
      · exact J1 hs
    · exact N1 hs hn
    · cases hs
  | tableswitch a b cc dd =>
    dsimp only [stpI] at hs
    split at hs
    · split at hs
      · split at hs
        · exact J1 hs
        · cases hs
      · exact J1 hs
    · cases hs
  | lookupswitch a b =>
    dsimp only [stpI] at hs
    split at hs
    · split at hs
      · exact J1 hs
      · cases hs
    · cases hs
  | getfield k =>
    dsimp only [stpI] at hs
    split at hs
    · split at hs
      · exact N1 (ifP_some hs).2 hn
      · cases hs
    · cases hs
  | putfield k =>
    dsimp only [stpI] at hs
    split at hs
    · split at hs
      · exact N1 (ifP_some hs).2 hn
      · cases hs
    · cases hs
  | iaload =>
    dsimp only [stpI] at hs
    split at hs
    · exact N1 (ifP_some hs).2 hn
    · cases hs
  | baload =>
    dsimp only [stpI] at hs
    split at hs
    · exact N1 (ifP_some hs).2 hn
    · cases hs
  | laload =>
    dsimp only [stpI] at hs
    split at hs
    · exact N1 (ifP_some hs).2 hn
    · cases hs
  | aaload =>
    dsimp only [stpI] at hs
    split at hs
    · exact N1 (ifP_some hs).2 hn
    · cases hs
  | iastore =>
    dsimp only [stpI] at hs
    split at hs
    · exact N1 (ifP_some hs).2 hn
    · cases hs
  | bastore =>
    dsimp only [stpI] at hs
    split at hs
    · exact N1 (ifP_some hs).2 hn
    · cases hs
  | lastore =>
    dsimp only [stpI] at hs
    split at hs
    · exact N1 (ifP_some hs).2 hn
    · cases hs
  | aastore =>
    dsimp only [stpI] at hs
    split at hs
    · exact N1 (ifP_some hs).2 hn
    · cases hs
  | arraylength =>
    dsimp only [stpI] at hs
    split at hs
    · split at hs
      · exact N1 hs hn
      · cases hs
    · cases hs
  | new k =>
    dsimp only [stpI] at hs
    split at hs
    · split at hs
      · cases hs
      · exact N1 hs hn
    · cases hs
  | newarray t =>
    dsimp only [stpI] at hs
    split at hs
    · split at hs
      · split at hs
        · exact N1 hs hn
        · exact N1 hs hn
        · exact N1 hs hn
        · exact N1 hs hn
        · cases hs
      · cases hs
    · cases hs
  | anewarray k =>
    dsimp only [stpI] at hs
    split at hs
    · split at hs
      · exact N1 hs hn
      · cases hs
    · cases hs
  | multianewarray k dm =>
    dsimp only [stpI] at hs
    split at hs
    · split at hs
      · exact N1 hs hn
      · cases hs
    · cases hs
  | checkcast k =>
    dsimp only [stpI] at hs
    split at hs
    · split at hs
      · exact N1 (ifP_some hs).2 hn
      · cases hs
    · cases hs
  | invokevirtual k =>
    dsimp only [stpI] at hs
    split at hs
    · split at hs
      · cases (ifP_some hs).2
      · cases hs
    · split at hs
      · split at hs
        · exact N1 (ifP_some hs).2 hn
        · cases hs
      · cases hs
    · cases hs
  | invokespecial k =>
    dsimp only [stpI] at hs
    split at hs
    · split at hs
      · cases (ifP_some hs).2
      · cases hs
    · split at hs
      · exact N1 (ifP_some hs).2 hn
      · cases hs
    · cases hs
  | invokestatic k =>
    dsimp only [stpI] at hs
    split at hs
    · cases (ifP_some hs).2
    · split at hs
      · split at hs
        · exact N1 (ifP_some hs).2 hn
        · cases hs
      · cases hs
    · cases hs
  | ireturn =>
    dsimp only [stpI] at hs
    split at hs
    · cases (ifP_some hs).2
    · cases hs
  | lreturn =>
    dsimp only [stpI] at hs
    split at hs
    · cases (ifP_some hs).2
    · cases hs
  | areturn =>
    dsimp only [stpI] at hs
    split at hs
    · cases (ifP_some hs).2
    · cases hs
  | return_ =>
    dsimp only [stpI] at hs
    split at hs
    · cases (ifP_some hs).2
    · cases hs
  | _ => simp [stpI] at hs

theorem stpI_ret {M : MI} {pc len : Nat} {ls : PL} {st : List PV} {h : PH} {v : Option PV} {ins : Instr} (hs : stpI M pc ls st h (pc + len) ins = some (.inr (.inr v))) (hd : decode M.2.1 pc = .ok (ins, len)) (hol : okLen ins len = true) : st = v.toList ∧ retAt M pc v := by
  have J0 : ∀ {off : Int} {ls1 : PL} {st1 : List PV}, jmp pc off ls1 st1 h = some (.inr (.inr v)) → False := by
    intro off ls1 st1 e1
    unfold jmp at e1
    split at e1 <;> cases e1
  cases ins with
  | iconst n =>
    dsimp only [stpI] at hs
    unfold nxt at hs; cases hs
  | lconst n =>
    dsimp only [stpI] at hs
    unfold nxt at hs; cases hs
  | goto off =>
    dsimp only [stpI] at hs
    exact (J0 hs).elim
  | bipush n =>
    dsimp only [stpI] at hs
    split at hs
    · unfold nxt at hs; cases hs
    · cases hs
  | sipush n =>
    dsimp only [stpI] at hs
    split at hs
    · unfold nxt at hs; cases hs
    · cases hs
  | iload k =>
    dsimp only [stpI] at hs
    split at hs
    · unfold nxt at hs; cases hs
    · cases hs
  | iload_n k =>
    dsimp only [stpI] at hs
    split at hs
    · unfold nxt at hs; cases hs
    · cases hs
  | lload k =>
    dsimp only [stpI] at hs
    split at hs
    · unfold nxt at hs; cases hs
    · cases hs
  | lload_n k =>
    dsimp only [stpI] at hs
    split at hs
    · unfold nxt at hs; cases hs
    · cases hs
  | aload k =>
    dsimp only [stpI] at hs
    split at hs
    · unfold nxt at hs; cases hs
    · cases hs
  | aload_n k =>
    dsimp only [stpI] at hs
    split at hs
    · unfold nxt at hs; cases hs
    · cases hs
  | iinc k n =>
    dsimp only [stpI] at hs
    split at hs
    · unfold nxt at hs; cases hs
    · cases hs
  | iadd =>
    dsimp only [stpI] at hs
    split at hs
    · unfold nxt at hs; cases hs
    · cases hs
  | isub =>
    dsimp only [stpI] at hs
    split at hs
    · unfold nxt at hs; cases hs
    · cases hs
  | imul =>
    dsimp only [stpI] at hs
    split at hs
    · unfold nxt at hs; cases hs
    · cases hs
  | iand =>
    dsimp only [stpI] at hs
    split at hs
    · unfold nxt at hs; cases hs
    · cases hs
  | ior =>
    dsimp only [stpI] at hs
    split at hs
    · unfold nxt at hs; cases hs
    · cases hs
  | ixor =>
    dsimp only [stpI] at hs
    split at hs
    · unfold nxt at hs; cases hs
    · cases hs
  | ishl =>
    dsimp only [stpI] at hs
    split at hs
    · unfold nxt at hs; cases hs
    · cases hs
  | ishr =>
    dsimp only [stpI] at hs
    split at hs
    · unfold nxt at hs; cases hs
    · cases hs
  | iushr =>
    dsimp only [stpI] at hs
    split at hs
    · unfold nxt at hs; cases hs
    · cases hs
  | ladd =>
    dsimp only [stpI] at hs
    split at hs
    · unfold nxt at hs; cases hs
    · cases hs
  | lsub =>
    dsimp only [stpI] at hs
    split at hs
    · unfold nxt at hs; cases hs
    · cases hs
  | lmul =>
    dsimp only [stpI] at hs
    split at hs
    · unfold nxt at hs; cases hs
    · cases hs
  | land =>
    dsimp only [stpI] at hs
    split at hs
    · unfold nxt at hs; cases hs
    · cases hs
  | lor =>
    dsimp only [stpI] at hs
    split at hs
    · unfold nxt at hs; cases hs
    · cases hs
  | lshl =>
    dsimp only [stpI] at hs
    split at hs
    · unfold nxt at hs; cases hs
    · cases hs
  | lshr =>
    dsimp only [stpI] at hs
    split at hs
    · unfold nxt at hs; cases hs
    · cases hs
  | lcmp =>
    dsimp only [stpI] at hs
    split at hs
    · unfold nxt at hs; cases hs
    · cases hs
  | i2l =>
    dsimp only [stpI] at hs
    split at hs
    · unfold nxt at hs; cases hs
    · cases hs
  | l2i =>
    dsimp only [stpI] at hs
    split at hs
    · unfold nxt at hs; cases hs
    · cases hs
  | i2b =>
    dsimp only [stpI] at hs
    split at hs
    · unfold nxt at hs; cases hs
    · cases hs
  | i2s =>
    dsimp only [stpI] at hs
    split at hs
    · unfold nxt at hs; cases hs
    · cases hs
  | i2c =>
    dsimp only [stpI] at hs
    split at hs
    · unfold nxt at hs; cases hs
    · cases hs
  | dup2 =>
    dsimp only [stpI] at hs
    split at hs
    · unfold nxt at hs; cases hs
    · cases hs
  | pop2 =>
    dsimp only [stpI] at hs
    split at hs
    · unfold nxt at hs; cases hs
    · cases hs
  | ldc k =>
    dsimp only [stpI] at hs
    split at hs
    · unfold nxt at hs; cases hs
    · cases hs
  | ldc_w k =>
    dsimp only [stpI] at hs
    split at hs
    · unfold nxt at hs; cases hs
    · cases hs
  | ldc2_w k =>
    dsimp only [stpI] at hs
    split at hs
    · unfold nxt at hs; cases hs
    · cases hs
  | getstatic k =>
    dsimp only [stpI] at hs
    split at hs
    · unfold nxt at hs; cases hs
    · cases hs
  | dup =>
    dsimp only [stpI] at hs
    split at hs
    · unfold nxt at hs; cases hs
    · unfold nxt at hs; cases hs
    · cases hs
  | pop =>
    dsimp only [stpI] at hs
    split at hs
    · unfold nxt at hs; cases hs
    · unfold nxt at hs; cases hs
    · cases hs
  | istore k =>
    dsimp only [stpI] at hs
    split at hs
    · split at hs
      · unfold nxt at hs; cases hs
      · cases hs
    · cases hs
  | istore_n k =>
    dsimp only [stpI] at hs
    split at hs
    · split at hs
      · unfold nxt at hs; cases hs
      · cases hs
    · cases hs
  | astore k =>
    dsimp only [stpI] at hs
    split at hs
    · split at hs
      · unfold nxt at hs; cases hs
      · cases hs
    · cases hs
  | astore_n k =>
    dsimp only [stpI] at hs
    split at hs
    · split at hs
      · unfold nxt at hs; cases hs
      · cases hs
    · split at hs
      · unfold nxt at hs; cases hs
      · cases hs
    · cases hs
  | lstore k =>
    dsimp only [stpI] at hs
    split at hs
    · split at hs
      · unfold nxt at hs; cases hs
      · cases hs
    · cases hs
  | lstore_n k =>
    dsimp only [stpI] at hs
    split at hs
    · split at hs
      · unfold nxt at hs; cases hs
      · cases hs
    · cases hs
  | idiv =>
    dsimp only [stpI] at hs
    split at hs
    · split at hs
      · cases hs
      · unfold nxt at hs; cases hs
    · cases hs
  | irem =>
    dsimp only [stpI] at hs
    split at hs
    · split at hs
      · cases hs
      · unfold nxt at hs; cases hs
    · cases hs
  | ldiv =>
    dsimp only [stpI] at hs
    split at hs
    · split at hs
      · cases hs
      · unfold nxt at hs; cases hs
    · cases hs
  | lrem =>
    dsimp only [stpI] at hs
    split at hs
    · split at hs
      · cases hs
      · unfold nxt at hs; cases hs
    · cases hs
  | ifCond cd off =>
    dsimp only [stpI] at hs
    split at hs
    · split at hs
      · split at hs
        · exact (J0 hs).elim
        · unfold nxt at hs; cases hs
      · cases hs
    · cases hs
  | if_icmp cd off =>
    dsimp only [stpI] at hs
    split at hs
    · split at hs
      · split at hs
        · exact (J0 hs).elim
        · unfold nxt at hs; cases hs
      · cases hs
    · cases hs
  | if_acmp cd off =>
    dsimp only [stpI] at hs
    split at hs
    · replace hs := (ifP_some hs).2
      cases cd with
      | eq =>
        dsimp only at hs
        split at hs
        · exact (J0 hs).elim
        · unfold nxt at hs; cases hs
      | ne =>
        dsimp only at hs
        split at hs
        · unfold nxt at hs; cases hs
        · exact (J0 hs).elim
    · cases hs
  | ifnonnull off =>
    dsimp only [stpI] at hs
    split at hs
    · split at hs
      · cases hs
      · exact (J0 hs).elim
    · unfold nxt at hs; cases hs
    · cases hs
  | tableswitch a b cc dd =>
    dsimp only [stpI] at hs
    split at hs
    · split at hs
      · split at hs
        · exact (J0 hs).elim
        · cases hs
      · exact (J0 hs).elim
    · cases hs
  | lookupswitch a b =>
    dsimp only [stpI] at hs
    split at hs
    · split at hs
      · exact (J0 hs).elim
      · cases hs
    · cases hs
  | getfield k =>
    dsimp only [stpI] at hs
    split at hs
    · split at hs
      · cases (ifP_some hs).2
      · cases hs
    · cases hs
  | putfield k =>
    dsimp only [stpI] at hs
    split at hs
    · split at hs
      · cases (ifP_some hs).2
      · cases hs
    · cases hs
  | iaload =>
    dsimp only [stpI] at hs
    split at hs
    · cases (ifP_some hs).2
    · cases hs
  | baload =>
    dsimp only [stpI] at hs
    split at hs
    · cases (ifP_some hs).2
    · cases hs
  | laload =>
    dsimp only [stpI] at hs
    split at hs
    · cases (ifP_some hs).2
    · cases hs
  | aaload =>
    dsimp only [stpI] at hs
    split at hs
    · cases (ifP_some hs).2
    · cases hs
  | iastore =>
    dsimp only [stpI] at hs
    split at hs
    · cases (ifP_some hs).2
    · cases hs
  | bastore =>
    dsimp only [stpI] at hs
    split at hs
    · cases (ifP_some hs).2
    · cases hs
  | lastore =>
    dsimp only [stpI] at hs
    split at hs
    · cases (ifP_some hs).2
    · cases hs
  | aastore =>
    dsimp only [stpI] at hs
    split at hs
    · cases (ifP_some hs).2
    · cases hs
  | arraylength =>
    dsimp only [stpI] at hs
    split at hs
    · split at hs
      · unfold nxt at hs; cases hs
      · cases hs
    · cases hs
  | new k =>
    dsimp only [stpI] at hs
    split at hs
    · split at hs
      · cases hs
      · unfold nxt at hs; cases hs
    · cases hs
  | newarray t =>
    dsimp only [stpI] at hs
    split at hs
    · split at hs
      · split at hs
        · unfold nxt at hs; cases hs
        · unfold nxt at hs; cases hs
        · unfold nxt at hs; cases hs
        · unfold nxt at hs; cases hs
        · cases hs
      · cases hs
    · cases hs
  | anewarray k =>
    dsimp only [stpI] at hs
    split at hs
    · split at hs
      · unfold nxt at hs; cases hs
      · cases hs
    · cases hs
  | multianewarray k dm =>
    dsimp only [stpI] at hs
    split at hs
    · split at hs
      · unfold nxt at hs; cases hs
      · cases hs
    · cases hs
  | checkcast k =>
    dsimp only [stpI] at hs
    split at hs
    · split at hs
      · cases (ifP_some hs).2
      · cases hs
    · cases hs
  | invokevirtual k =>
    dsimp only [stpI] at hs
    split at hs
    · split at hs
      · cases (ifP_some hs).2
      · cases hs
    · split at hs
      · split at hs
        · cases (ifP_some hs).2
        · cases hs
      · cases hs
    · cases hs
  | invokespecial k =>
    dsimp only [stpI] at hs
    split at hs
    · split at hs
      · cases (ifP_some hs).2
      · cases hs
    · split at hs
      · cases (ifP_some hs).2
      · cases hs
    · cases hs
  | invokestatic k =>
    dsimp only [stpI] at hs
    split at hs
    · cases (ifP_some hs).2
    · split at hs
      · split at hs
        · cases (ifP_some hs).2
        · cases hs
      · cases hs
    · cases hs
  | ireturn =>
    have hl : len = 1 := by simpa [okLen] using hol
    subst hl
    dsimp only [stpI] at hs
    split at hs
    · obtain ⟨g1, hs⟩ := ifP_some hs
      cases hs
      exact ⟨rfl, ⟨g1, hd⟩⟩
    · cases hs
  | lreturn =>
    have hl : len = 1 := by simpa [okLen] using hol
    subst hl
    dsimp only [stpI] at hs
    split at hs
    · obtain ⟨g1, hs⟩ := ifP_some hs
      cases hs
      exact ⟨rfl, ⟨g1, hd⟩⟩
    · cases hs
  | areturn =>
    have hl : len = 1 := by simpa [okLen] using hol
    subst hl
    dsimp only [stpI] at hs
    split at hs
    · obtain ⟨g1, hs⟩ := ifP_some hs
      cases hs
      exact ⟨rfl, ⟨g1.2, hd, _, rfl, g1.1⟩⟩
    · cases hs
  | return_ =>
    have hl : len = 1 := by simpa [okLen] using hol
    subst hl
    dsimp only [stpI] at hs
    split at hs
    · obtain ⟨g1, hs⟩ := ifP_some hs
      cases hs
      exact ⟨rfl, ⟨g1, hd⟩⟩
    · cases hs
  | _ => simp [stpI] at hs

/-! THE INDUCTION: every run of the pure machine is one of the machine -/
theorem sound : ∀ (n d i pc : Nat) (ls : PL) (st : List PV) (h : PH) (v : Option PV) (h' : PH), run n d i pc ls st h = some (v, h') → SEM d i pc ls st h v h' := by
  intro n
  induction n with
  | zero => intro d i pc ls st h v h' hr; simp [run] at hr
  | succ n ih =>
    intro d i pc ls st h v h' hr
    rw [run] at hr
    cases hs : stp i pc ls st h with
    | none => rw [hs] at hr; cases hr
    | some x =>
      have hst := hs
      unfold stp at hst
      cases hM : meths[i]? with
      | none => rw [hM] at hst; cases hst
      | some M =>
        rw [hM] at hst
        dsimp only at hst
        cases hcd : code_ M pc with
        | none => rw [hcd] at hst; cases hst
        | some y =>
          obtain ⟨ins, len⟩ := y
          rw [hcd] at hst
          dsimp only at hst
          have hd : decode M.2.1 pc = .ok (ins, len) := by
            unfold code_ at hcd
            split at hcd
            · next r hr1 => cases hcd; exact hr1
            · cases hcd
          split at hst
          · next hol =>
            rw [hs] at hr
            rcases x with ⟨pc', ls', st', h2⟩ | ⟨j, as, r⟩ | v'
            · dsimp only at hr
              obtain ⟨⟨m1, m2⟩, ihs⟩ := ih d i pc' ls' st' h2 v h' hr
              obtain ⟨k1, k2⟩ := stpI_mono hst
              refine ⟨⟨by omega, by omega⟩, ?_⟩
              intro M' hM' hlen p l e R s m args below meth c Q X D aC L xs H locs cells slots lsA C hr1 hr2 hH hS hL hz hc hsl fin
              have : M = M' := Option.some.inj (hM.symm.trans hM')
              subst this
              refine snd_step C hd hol (by omega) (by omega) hlen hH hS hL hz hst (by omega) (by omega) ?_
              intro H' locs' lsA' c' s' e1 e2 hH' hS' hL'
              refine ihs M hM (stpI_len hst hlen) p l e R s m args below meth c Q X D aC L xs H' locs' c' s' lsA' C hr1 hr2 hH' hS' hL' (by omega) (by omega) (by omega) ?_
              intro pcR H2 locs2 lsA2 c2 s2 f1 f2 f3 f4 f5
              exact fin pcR H2 locs2 lsA2 c2 s2 (by omega) (by omega) f3 f4 f5
            · cases d with
              | zero => cases hr
              | succ d =>
                dsimp only at hr
                cases hc1 : run n d j 0 (entM j as) [] h with
                | none => rw [hc1] at hr; cases hr
                | some y =>
                  obtain ⟨v1, h1⟩ := y
                  rw [hc1] at hr
                  dsimp only at hr
                  have ih1 := ih d j 0 (entM j as) [] h v1 h1 hc1
                  obtain ⟨⟨m1, m2⟩, ihs⟩ := ih (d + 1) i (pc + 3) ls (v1.toList ++ r) h1 v h' hr
                  have hmm := ih1.1
                  refine ⟨⟨by omega, by omega⟩, ?_⟩
                  intro M' hM' hlen p l e R s m args below meth c Q X D aC L xs H locs cells slots lsA C hr1 hr2 hH hS hL hz hc hsl fin
                  have : M = M' := Option.some.inj (hM.symm.trans hM')
                  subst this
                  refine snd_call (d := d) (v := v1) (h1 := h1) C hd hol hr1 hr2 hlen hH hS hL hz hst (fun J hJ _ => ?_) hmm (by omega) (by omega) ?_
                  · have he : entM j as = ent as J.2.2.1 := by unfold entM; rw [hJ]
                    rw [he] at ih1
                    exact ih1
                  · intro H' locs' lsA' c' s' e1 e2 hH' hS' hL'
                    refine ihs M hM hlen p l e R s m args below meth c Q X D aC L xs H' locs' c' s' lsA' C hr1 hr2 hH' hS' hL' (by omega) (by omega) (by omega) ?_
                    intro pcR H2 locs2 lsA2 c2 s2 f1 f2 f3 f4 f5
                    exact fin pcR H2 locs2 lsA2 c2 s2 (by omega) (by omega) f3 f4 f5
            · dsimp only at hr
              cases hr
              refine ⟨⟨Nat.le_refl _, Nat.le_refl _⟩, ?_⟩
              intro M' hM' hlen p l e R s m args below meth c Q X D aC L xs H locs cells slots lsA C hr1 hr2 hH hS hL hz hc hsl fin
              have : M = M' := Option.some.inj (hM.symm.trans hM')
              subst this
              obtain ⟨e1, e2⟩ := stpI_ret hst hd hol
              rw [e1]
              exact fin pc H locs lsA cells slots rfl rfl hH hS e2
          · cases hst
