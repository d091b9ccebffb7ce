/-! EQUATIONS: what WP is at an instruction, by what it is behind it -/
theorem stp_of {i pc len : Nat} {M : MI} {ins : Instr} {ls : PL} {st : List PV} {h : PH} (hm : meths[i]? = some M) (hd : decode M.2.1 pc = .ok (ins, len)) (hl : okLen ins len = true) : stp i pc ls st h = stpI M pc ls st h (pc + len) ins := by
  unfold stp code_
  rw [hm]
  dsimp only
  rw [hd]
  exact if_pos hl
theorem WP_and {d i pc : Nat} {ls : PL} {st : List PV} {h : PH} {Q : PQ} {P : Prop} {R : Prop} {x : SR} (hs : stp i pc ls st h = ifP P x) (hx : P → stp i pc ls st h = x → WP d i pc ls st h Q = R) : WP d i pc ls st h Q = (P ∧ R) := by
  by_cases hP : P
  · rw [ifP_pos hP] at hs
    rw [hx hP hs]
    exact propext ⟨fun h => ⟨hP, h⟩, fun h => h.2⟩
  · rw [ifP_neg hP] at hs
    rw [WP_none hs]
    exact propext ⟨fun h => h.elim, fun h => hP h.1⟩
theorem WP_jmp {d i pc tgt : Nat} {off : Int} {ls ls' : PL} {st st' : List PV} {h h' : PH} {Q : PQ} (ht : (pc : Int) + off = (tgt : Int)) (hs : stp i pc ls st h = jmp pc off ls' st' h') : WP d i pc ls st h Q = WP d i tgt ls' st' h' Q := by
  unfold jmp at hs
  rw [ht] at hs
  rw [if_pos (Int.natCast_nonneg tgt)] at hs
  exact WP_next hs
section E
variable {d i pc tgt : Nat} {M : MI} {ls : PL} {st : List PV} {h : PH} {Q : PQ} {x y n off : Int} {a k : Nat}
theorem E_iconst (hm : meths[i]? = some M) (hd : decode M.2.1 pc = .ok (.iconst n, 1)) : WP d i pc ls st h Q = WP d i (pc + 1) ls (vi n :: st) h Q := WP_next (by rw [stp_of hm hd rfl]; rfl)
theorem E_bipush (hm : meths[i]? = some M) (hd : decode M.2.1 pc = .ok (.bipush n, 2)) (hn : -128 ≤ n ∧ n < 128) : WP d i pc ls st h Q = WP d i (pc + 2) ls (vi n :: st) h Q := WP_next (by rw [stp_of hm hd rfl]; exact if_pos hn)
theorem E_sipush (hm : meths[i]? = some M) (hd : decode M.2.1 pc = .ok (.sipush n, 3)) (hn : -32768 ≤ n ∧ n < 32768) : WP d i pc ls st h Q = WP d i (pc + 3) ls (vi n :: st) h Q := WP_next (by rw [stp_of hm hd rfl]; exact if_pos hn)
theorem E_lconst {q : Fin 2} {z : Int} (hm : meths[i]? = some M) (hd : decode M.2.1 pc = .ok (.lconst q, 1)) (hz : ((q : Nat) : Int) = z) : WP d i pc ls st h Q = WP d i (pc + 1) ls (vl z :: st) h Q := WP_next (by rw [stp_of hm hd rfl, ← hz]; rfl)
theorem E_ldc {v : PV} (hm : meths[i]? = some M) (hd : decode M.2.1 pc = .ok (.ldc k, 2)) (hv : kst M.2.2.2.2 k = some v) : WP d i pc ls st h Q = WP d i (pc + 2) ls (v :: st) h Q := WP_next (by rw [stp_of hm hd rfl]; simp only [stpI, hv]; rfl)
theorem E_ldc_w {v : Int} (hm : meths[i]? = some M) (hd : decode M.2.1 pc = .ok (.ldc_w k, 3)) (hv : kst M.2.2.2.2 k = some (vi v)) : WP d i pc ls st h Q = WP d i (pc + 3) ls (vi v :: st) h Q := WP_next (by rw [stp_of hm hd rfl]; simp only [stpI, hv]; rfl)
theorem E_ldc2 {v : Int} (hm : meths[i]? = some M) (hd : decode M.2.1 pc = .ok (.ldc2_w k, 3)) (hv : kst2 M.2.2.2.2 k = some v) : WP d i pc ls st h Q = WP d i (pc + 3) ls (vl v :: st) h Q := WP_next (by rw [stp_of hm hd rfl]; simp only [stpI, hv]; rfl)
theorem E_gets {v : PV} (hm : meths[i]? = some M) (hd : decode M.2.1 pc = .ok (.getstatic k, 3)) (hv : sta M.2.2.2.2 k = some v) : WP d i pc ls st h Q = WP d i (pc + 3) ls (v :: st) h Q := WP_next (by rw [stp_of hm hd rfl]; simp only [stpI, hv]; rfl)
theorem E_iload (hm : meths[i]? = some M) (hd : decode M.2.1 pc = .ok (.iload k, 2)) (hl : ls[k]? = some (some (vi x))) : WP d i pc ls st h Q = WP d i (pc + 2) ls (vi x :: st) h Q := WP_next (by rw [stp_of hm hd rfl]; simp only [stpI, hl]; rfl)
theorem E_iload_n {k : Fin 4} (hm : meths[i]? = some M) (hd : decode M.2.1 pc = .ok (.iload_n k, 1)) (hl : ls[(k : Nat)]? = some (some (vi x))) : WP d i pc ls st h Q = WP d i (pc + 1) ls (vi x :: st) h Q := WP_next (by rw [stp_of hm hd rfl]; simp only [stpI, hl]; rfl)
theorem E_lload (hm : meths[i]? = some M) (hd : decode M.2.1 pc = .ok (.lload k, 2)) (hl : ls[k]? = some (some (vl x))) : WP d i pc ls st h Q = WP d i (pc + 2) ls (vl x :: st) h Q := WP_next (by rw [stp_of hm hd rfl]; simp only [stpI, hl]; rfl)
theorem E_lload_n {k : Fin 4} (hm : meths[i]? = some M) (hd : decode M.2.1 pc = .ok (.lload_n k, 1)) (hl : ls[(k : Nat)]? = some (some (vl x))) : WP d i pc ls st h Q = WP d i (pc + 1) ls (vl x :: st) h Q := WP_next (by rw [stp_of hm hd rfl]; simp only [stpI, hl]; rfl)
theorem E_aload {r : Option Nat} (hm : meths[i]? = some M) (hd : decode M.2.1 pc = .ok (.aload k, 2)) (hl : ls[k]? = some (some (vo r))) : WP d i pc ls st h Q = WP d i (pc + 2) ls (vo r :: st) h Q := WP_next (by rw [stp_of hm hd rfl]; simp only [stpI, hl]; rfl)
theorem E_aload_n {r : Option Nat} {k : Fin 4} (hm : meths[i]? = some M) (hd : decode M.2.1 pc = .ok (.aload_n k, 1)) (hl : ls[(k : Nat)]? = some (some (vo r))) : WP d i pc ls st h Q = WP d i (pc + 1) ls (vo r :: st) h Q := WP_next (by rw [stp_of hm hd rfl]; simp only [stpI, hl]; rfl)
theorem E_istore {ls' : PL} (hm : meths[i]? = some M) (hd : decode M.2.1 pc = .ok (.istore k, 2)) (hk : k < ls.length) (hl : setL1 ls k (vi x) = ls') : WP d i pc ls (vi x :: st) h Q = WP d i (pc + 2) ls' st h Q := WP_next (by rw [stp_of hm hd rfl, ← hl]; exact if_pos hk)
theorem E_istore_n {ls' : PL} {k : Fin 4} (hm : meths[i]? = some M) (hd : decode M.2.1 pc = .ok (.istore_n k, 1)) (hk : (k : Nat) < ls.length) (hl : setL1 ls k (vi x) = ls') : WP d i pc ls (vi x :: st) h Q = WP d i (pc + 1) ls' st h Q := WP_next (by rw [stp_of hm hd rfl, ← hl]; exact if_pos hk)
theorem E_astore {ls' : PL} (hm : meths[i]? = some M) (hd : decode M.2.1 pc = .ok (.astore k, 2)) (hk : k < ls.length) (hl : setL1 ls k (vr a) = ls') : WP d i pc ls (vr a :: st) h Q = (a ≠ 9 ∧ WP d i (pc + 2) ls' st h Q) := by
  by_cases h9 : a = 9
  · rw [WP_none (by rw [stp_of hm hd rfl]; exact if_neg (fun z => z.2 h9))]; exact propext ⟨fun z => z.elim, fun z => z.1 h9⟩
  · rw [WP_next (by rw [stp_of hm hd rfl]; exact if_pos ⟨hk, h9⟩), hl]; exact propext ⟨fun z => ⟨h9, z⟩, fun z => z.2⟩
theorem E_astore_n {ls' : PL} {k : Fin 4} (hm : meths[i]? = some M) (hd : decode M.2.1 pc = .ok (.astore_n k, 1)) (hk : (k : Nat) < ls.length) (hl : setL1 ls k (vr a) = ls') : WP d i pc ls (vr a :: st) h Q = (a ≠ 9 ∧ WP d i (pc + 1) ls' st h Q) := by
  by_cases h9 : a = 9
  · rw [WP_none (by rw [stp_of hm hd rfl]; exact if_neg (fun z => z.2 h9))]; exact propext ⟨fun z => z.elim, fun z => z.1 h9⟩
  · rw [WP_next (by rw [stp_of hm hd rfl]; exact if_pos ⟨hk, h9⟩), hl]; exact propext ⟨fun z => ⟨h9, z⟩, fun z => z.2⟩
theorem E_astore_nN {ls' : PL} {k : Fin 4} (hm : meths[i]? = some M) (hd : decode M.2.1 pc = .ok (.astore_n k, 1)) (hk : (k : Nat) < ls.length) (hl : setL1 ls k vn = ls') : WP d i pc ls (vn :: st) h Q = WP d i (pc + 1) ls' st h Q := WP_next (by rw [stp_of hm hd rfl, ← hl]; exact if_pos hk)
theorem E_lstore {ls' : PL} (hm : meths[i]? = some M) (hd : decode M.2.1 pc = .ok (.lstore k, 2)) (hk : k + 1 < ls.length) (hl : setL2 ls k (vl x) = ls') : WP d i pc ls (vl x :: st) h Q = WP d i (pc + 2) ls' st h Q := WP_next (by rw [stp_of hm hd rfl, ← hl]; exact if_pos hk)
theorem E_lstore_n {ls' : PL} {k : Fin 4} (hm : meths[i]? = some M) (hd : decode M.2.1 pc = .ok (.lstore_n k, 1)) (hk : (k : Nat) + 1 < ls.length) (hl : setL2 ls k (vl x) = ls') : WP d i pc ls (vl x :: st) h Q = WP d i (pc + 1) ls' st h Q := WP_next (by rw [stp_of hm hd rfl, ← hl]; exact if_pos hk)
theorem E_iinc {ls' : PL} (hm : meths[i]? = some M) (hd : decode M.2.1 pc = .ok (.iinc k n, 3)) (hk : ls[k]? = some (some (vi x))) (hl : setL1 ls k (vi (x + n)) = ls') : WP d i pc ls st h Q = WP d i (pc + 3) ls' st h Q := WP_next (by rw [stp_of hm hd rfl, ← hl]; simp only [stpI, hk]; rfl)
theorem E_iadd (hm : meths[i]? = some M) (hd : decode M.2.1 pc = .ok (.iadd, 1)) : WP d i pc ls (vi y :: vi x :: st) h Q = WP d i (pc + 1) ls (vi (x + y) :: st) h Q := WP_next (by rw [stp_of hm hd rfl]; rfl)
theorem E_isub (hm : meths[i]? = some M) (hd : decode M.2.1 pc = .ok (.isub, 1)) : WP d i pc ls (vi y :: vi x :: st) h Q = WP d i (pc + 1) ls (vi (x - y) :: st) h Q := WP_next (by rw [stp_of hm hd rfl]; rfl)
theorem E_imul (hm : meths[i]? = some M) (hd : decode M.2.1 pc = .ok (.imul, 1)) : WP d i pc ls (vi y :: vi x :: st) h Q = WP d i (pc + 1) ls (vi (x * y) :: st) h Q := WP_next (by rw [stp_of hm hd rfl]; rfl)
theorem E_iand (hm : meths[i]? = some M) (hd : decode M.2.1 pc = .ok (.iand, 1)) : WP d i pc ls (vi y :: vi x :: st) h Q = WP d i (pc + 1) ls (vi (iand x y) :: st) h Q := WP_next (by rw [stp_of hm hd rfl]; rfl)
theorem E_ior (hm : meths[i]? = some M) (hd : decode M.2.1 pc = .ok (.ior, 1)) : WP d i pc ls (vi y :: vi x :: st) h Q = WP d i (pc + 1) ls (vi (ior x y) :: st) h Q := WP_next (by rw [stp_of hm hd rfl]; rfl)
theorem E_ixor (hm : meths[i]? = some M) (hd : decode M.2.1 pc = .ok (.ixor, 1)) : WP d i pc ls (vi y :: vi x :: st) h Q = WP d i (pc + 1) ls (vi (ixor x y) :: st) h Q := WP_next (by rw [stp_of hm hd rfl]; rfl)
theorem E_ishl (hm : meths[i]? = some M) (hd : decode M.2.1 pc = .ok (.ishl, 1)) : WP d i pc ls (vi y :: vi x :: st) h Q = WP d i (pc + 1) ls (vi (x * 2 ^ sh y) :: st) h Q := WP_next (by rw [stp_of hm hd rfl]; rfl)
theorem E_ishr (hm : meths[i]? = some M) (hd : decode M.2.1 pc = .ok (.ishr, 1)) : WP d i pc ls (vi y :: vi x :: st) h Q = WP d i (pc + 1) ls (vi (w x / 2 ^ sh y) :: st) h Q := WP_next (by rw [stp_of hm hd rfl]; rfl)
theorem E_iushr (hm : meths[i]? = some M) (hd : decode M.2.1 pc = .ok (.iushr, 1)) : WP d i pc ls (vi y :: vi x :: st) h Q = WP d i (pc + 1) ls (vi (x % 4294967296 / 2 ^ sh y) :: st) h Q := WP_next (by rw [stp_of hm hd rfl]; rfl)
theorem E_ladd (hm : meths[i]? = some M) (hd : decode M.2.1 pc = .ok (.ladd, 1)) : WP d i pc ls (vl y :: vl x :: st) h Q = WP d i (pc + 1) ls (vl (x + y) :: st) h Q := WP_next (by rw [stp_of hm hd rfl]; rfl)
theorem E_lsub (hm : meths[i]? = some M) (hd : decode M.2.1 pc = .ok (.lsub, 1)) : WP d i pc ls (vl y :: vl x :: st) h Q = WP d i (pc + 1) ls (vl (x - y) :: st) h Q := WP_next (by rw [stp_of hm hd rfl]; rfl)
theorem E_lmul (hm : meths[i]? = some M) (hd : decode M.2.1 pc = .ok (.lmul, 1)) : WP d i pc ls (vl y :: vl x :: st) h Q = WP d i (pc + 1) ls (vl (x * y) :: st) h Q := WP_next (by rw [stp_of hm hd rfl]; rfl)
theorem E_land (hm : meths[i]? = some M) (hd : decode M.2.1 pc = .ok (.land, 1)) : WP d i pc ls (vl y :: vl x :: st) h Q = WP d i (pc + 1) ls (vl (jand x y) :: st) h Q := WP_next (by rw [stp_of hm hd rfl]; rfl)
theorem E_lor (hm : meths[i]? = some M) (hd : decode M.2.1 pc = .ok (.lor, 1)) : WP d i pc ls (vl y :: vl x :: st) h Q = WP d i (pc + 1) ls (vl (jor x y) :: st) h Q := WP_next (by rw [stp_of hm hd rfl]; rfl)
theorem E_lshl (hm : meths[i]? = some M) (hd : decode M.2.1 pc = .ok (.lshl, 1)) : WP d i pc ls (vi y :: vl x :: st) h Q = WP d i (pc + 1) ls (vl (x * 2 ^ shj y) :: st) h Q := WP_next (by rw [stp_of hm hd rfl]; rfl)
theorem E_lshr (hm : meths[i]? = some M) (hd : decode M.2.1 pc = .ok (.lshr, 1)) : WP d i pc ls (vi y :: vl x :: st) h Q = WP d i (pc + 1) ls (vl (wl x / 2 ^ shj y) :: st) h Q := WP_next (by rw [stp_of hm hd rfl]; rfl)
theorem E_lcmp (hm : meths[i]? = some M) (hd : decode M.2.1 pc = .ok (.lcmp, 1)) : WP d i pc ls (vl y :: vl x :: st) h Q = WP d i (pc + 1) ls (vi (if wl x < wl y then -1 else if wl x = wl y then 0 else 1) :: st) h Q := WP_next (by rw [stp_of hm hd rfl]; rfl)
theorem E_i2l (hm : meths[i]? = some M) (hd : decode M.2.1 pc = .ok (.i2l, 1)) : WP d i pc ls (vi x :: st) h Q = WP d i (pc + 1) ls (vl (w x) :: st) h Q := WP_next (by rw [stp_of hm hd rfl]; rfl)
theorem E_l2i (hm : meths[i]? = some M) (hd : decode M.2.1 pc = .ok (.l2i, 1)) : WP d i pc ls (vl x :: st) h Q = WP d i (pc + 1) ls (vi x :: st) h Q := WP_next (by rw [stp_of hm hd rfl]; rfl)
theorem E_i2b (hm : meths[i]? = some M) (hd : decode M.2.1 pc = .ok (.i2b, 1)) : WP d i pc ls (vi x :: st) h Q = WP d i (pc + 1) ls (vi (Int.bmod x 256) :: st) h Q := WP_next (by rw [stp_of hm hd rfl]; rfl)
theorem E_i2s (hm : meths[i]? = some M) (hd : decode M.2.1 pc = .ok (.i2s, 1)) : WP d i pc ls (vi x :: st) h Q = WP d i (pc + 1) ls (vi (Int.bmod x 65536) :: st) h Q := WP_next (by rw [stp_of hm hd rfl]; rfl)
theorem E_i2c (hm : meths[i]? = some M) (hd : decode M.2.1 pc = .ok (.i2c, 1)) : WP d i pc ls (vi x :: st) h Q = WP d i (pc + 1) ls (vi (x % 65536) :: st) h Q := WP_next (by rw [stp_of hm hd rfl]; rfl)
theorem E_dup_i (hm : meths[i]? = some M) (hd : decode M.2.1 pc = .ok (.dup, 1)) : WP d i pc ls (vi x :: st) h Q = WP d i (pc + 1) ls (vi x :: vi x :: st) h Q := WP_next (by rw [stp_of hm hd rfl]; rfl)
theorem E_dup_a {r : Option Nat} (hm : meths[i]? = some M) (hd : decode M.2.1 pc = .ok (.dup, 1)) : WP d i pc ls (vo r :: st) h Q = WP d i (pc + 1) ls (vo r :: vo r :: st) h Q := WP_next (by rw [stp_of hm hd rfl]; rfl)
theorem E_dup2 {r : Option Nat} (hm : meths[i]? = some M) (hd : decode M.2.1 pc = .ok (.dup2, 1)) : WP d i pc ls (vi x :: vo r :: st) h Q = WP d i (pc + 1) ls (vi x :: vo r :: vi x :: vo r :: st) h Q := WP_next (by rw [stp_of hm hd rfl]; rfl)
theorem E_pop_i (hm : meths[i]? = some M) (hd : decode M.2.1 pc = .ok (.pop, 1)) : WP d i pc ls (vi x :: st) h Q = WP d i (pc + 1) ls (st) h Q := WP_next (by rw [stp_of hm hd rfl]; rfl)
theorem E_pop_a {r : Option Nat} (hm : meths[i]? = some M) (hd : decode M.2.1 pc = .ok (.pop, 1)) : WP d i pc ls (vo r :: st) h Q = WP d i (pc + 1) ls (st) h Q := WP_next (by rw [stp_of hm hd rfl]; rfl)
theorem E_pop2 (hm : meths[i]? = some M) (hd : decode M.2.1 pc = .ok (.pop2, 1)) : WP d i pc ls (vl x :: st) h Q = WP d i (pc + 1) ls (st) h Q := WP_next (by rw [stp_of hm hd rfl]; rfl)
theorem E_idiv (hm : meths[i]? = some M) (hd : decode M.2.1 pc = .ok (.idiv, 1)) : WP d i pc ls (vi y :: vi x :: st) h Q = (w y ≠ 0 ∧ WP d i (pc + 1) ls (vi ((w x).tdiv (w y)) :: st) h Q) := by
  by_cases h0 : w y = 0
  · rw [WP_none (by rw [stp_of hm hd rfl]; exact if_pos h0)]; exact propext ⟨fun z => z.elim, fun z => z.1 h0⟩
  · rw [WP_next (by rw [stp_of hm hd rfl]; exact if_neg h0)]; exact propext ⟨fun z => ⟨h0, z⟩, fun z => z.2⟩
theorem E_irem (hm : meths[i]? = some M) (hd : decode M.2.1 pc = .ok (.irem, 1)) : WP d i pc ls (vi y :: vi x :: st) h Q = (w y ≠ 0 ∧ WP d i (pc + 1) ls (vi ((w x).tmod (w y)) :: st) h Q) := by
  by_cases h0 : w y = 0
  · rw [WP_none (by rw [stp_of hm hd rfl]; exact if_pos h0)]; exact propext ⟨fun z => z.elim, fun z => z.1 h0⟩
  · rw [WP_next (by rw [stp_of hm hd rfl]; exact if_neg h0)]; exact propext ⟨fun z => ⟨h0, z⟩, fun z => z.2⟩
theorem E_ldiv (hm : meths[i]? = some M) (hd : decode M.2.1 pc = .ok (.ldiv, 1)) : WP d i pc ls (vl y :: vl x :: st) h Q = (wl y ≠ 0 ∧ WP d i (pc + 1) ls (vl ((wl x).tdiv (wl y)) :: st) h Q) := by
  by_cases h0 : wl y = 0
  · rw [WP_none (by rw [stp_of hm hd rfl]; exact if_pos h0)]; exact propext ⟨fun z => z.elim, fun z => z.1 h0⟩
  · rw [WP_next (by rw [stp_of hm hd rfl]; exact if_neg h0)]; exact propext ⟨fun z => ⟨h0, z⟩, fun z => z.2⟩
theorem E_lrem (hm : meths[i]? = some M) (hd : decode M.2.1 pc = .ok (.lrem, 1)) : WP d i pc ls (vl y :: vl x :: st) h Q = (wl y ≠ 0 ∧ WP d i (pc + 1) ls (vl ((wl x).tmod (wl y)) :: st) h Q) := by
  by_cases h0 : wl y = 0
  · rw [WP_none (by rw [stp_of hm hd rfl]; exact if_pos h0)]; exact propext ⟨fun z => z.elim, fun z => z.1 h0⟩
  · rw [WP_next (by rw [stp_of hm hd rfl]; exact if_neg h0)]; exact propext ⟨fun z => ⟨h0, z⟩, fun z => z.2⟩
theorem E_goto (hm : meths[i]? = some M) (hd : decode M.2.1 pc = .ok (.goto off, 3)) (ht : (pc : Int) + off = (tgt : Int)) : WP d i pc ls st h Q = WP d i tgt ls st h Q := WP_jmp ht (by rw [stp_of hm hd rfl]; rfl)
theorem E_if_eq (hm : meths[i]? = some M) (hd : decode M.2.1 pc = .ok (.ifCond .eq off, 3)) (ht : (pc : Int) + off = (tgt : Int)) : WP d i pc ls (vi x :: st) h Q = (if w x = 0 then WP d i tgt ls st h Q else WP d i (pc + 3) ls st h Q) := by
  by_cases h0 : w x = 0
  · rw [if_pos h0]
    exact WP_jmp ht (by rw [stp_of hm hd rfl]; exact (if_pos (by omega)).trans (if_pos (by simp [hold, h0])))
  · rw [if_neg h0]
    exact WP_next (by rw [stp_of hm hd rfl]; exact (if_pos (by omega)).trans (if_neg (by simp [hold, h0])))
theorem E_icmp_eq (hm : meths[i]? = some M) (hd : decode M.2.1 pc = .ok (.if_icmp .eq off, 3)) (ht : (pc : Int) + off = (tgt : Int)) : WP d i pc ls (vi y :: vi x :: st) h Q = (if w x = w y then WP d i tgt ls st h Q else WP d i (pc + 3) ls st h Q) := by
  by_cases h0 : w x = w y
  · rw [if_pos h0]
    exact WP_jmp ht (by rw [stp_of hm hd rfl]; exact (if_pos (by omega)).trans (if_pos (by simp [hold, h0])))
  · rw [if_neg h0]
    exact WP_next (by rw [stp_of hm hd rfl]; exact (if_pos (by omega)).trans (if_neg (by simp [hold, h0])))
theorem E_if_ne (hm : meths[i]? = some M) (hd : decode M.2.1 pc = .ok (.ifCond .ne off, 3)) (ht : (pc : Int) + off = (tgt : Int)) : WP d i pc ls (vi x :: st) h Q = (if w x = 0 then WP d i (pc + 3) ls st h Q else WP d i tgt ls st h Q) := by
  by_cases h0 : w x = 0
  · rw [if_pos h0]
    exact WP_next (by rw [stp_of hm hd rfl]; exact (if_pos (by omega)).trans (if_neg (by simp [hold, h0])))
  · rw [if_neg h0]
    exact WP_jmp ht (by rw [stp_of hm hd rfl]; exact (if_pos (by omega)).trans (if_pos (by simp [hold, h0])))
theorem E_icmp_ne (hm : meths[i]? = some M) (hd : decode M.2.1 pc = .ok (.if_icmp .ne off, 3)) (ht : (pc : Int) + off = (tgt : Int)) : WP d i pc ls (vi y :: vi x :: st) h Q = (if w x = w y then WP d i (pc + 3) ls st h Q else WP d i tgt ls st h Q) := by
  by_cases h0 : w x = w y
  · rw [if_pos h0]
    exact WP_next (by rw [stp_of hm hd rfl]; exact (if_pos (by omega)).trans (if_neg (by simp [hold, h0])))
  · rw [if_neg h0]
    exact WP_jmp ht (by rw [stp_of hm hd rfl]; exact (if_pos (by omega)).trans (if_pos (by simp [hold, h0])))
theorem E_if_lt (hm : meths[i]? = some M) (hd : decode M.2.1 pc = .ok (.ifCond .lt off, 3)) (ht : (pc : Int) + off = (tgt : Int)) : WP d i pc ls (vi x :: st) h Q = (if w x < 0 then WP d i tgt ls st h Q else WP d i (pc + 3) ls st h Q) := by
  by_cases h0 : w x < 0
  · rw [if_pos h0]
    exact WP_jmp ht (by rw [stp_of hm hd rfl]; exact (if_pos (by omega)).trans (if_pos (by simp [hold, h0])))
  · rw [if_neg h0]
    exact WP_next (by rw [stp_of hm hd rfl]; exact (if_pos (by omega)).trans (if_neg (by simp [hold, h0])))
theorem E_icmp_lt (hm : meths[i]? = some M) (hd : decode M.2.1 pc = .ok (.if_icmp .lt off, 3)) (ht : (pc : Int) + off = (tgt : Int)) : WP d i pc ls (vi y :: vi x :: st) h Q = (if w x < w y then WP d i tgt ls st h Q else WP d i (pc + 3) ls st h Q) := by
  by_cases h0 : w x < w y
  · rw [if_pos h0]
    exact WP_jmp ht (by rw [stp_of hm hd rfl]; exact (if_pos (by omega)).trans (if_pos (by simp [hold, h0])))
  · rw [if_neg h0]
    exact WP_next (by rw [stp_of hm hd rfl]; exact (if_pos (by omega)).trans (if_neg (by simp [hold, h0])))
theorem E_if_ge (hm : meths[i]? = some M) (hd : decode M.2.1 pc = .ok (.ifCond .ge off, 3)) (ht : (pc : Int) + off = (tgt : Int)) : WP d i pc ls (vi x :: st) h Q = (if w x < 0 then WP d i (pc + 3) ls st h Q else WP d i tgt ls st h Q) := by
  by_cases h0 : w x < 0
  · rw [if_pos h0]
    exact WP_next (by rw [stp_of hm hd rfl]; exact (if_pos (by omega)).trans (if_neg (by simp [hold, h0])))
  · rw [if_neg h0]
    exact WP_jmp ht (by rw [stp_of hm hd rfl]; exact (if_pos (by omega)).trans (if_pos (by simp [hold, h0])))
theorem E_icmp_ge (hm : meths[i]? = some M) (hd : decode M.2.1 pc = .ok (.if_icmp .ge off, 3)) (ht : (pc : Int) + off = (tgt : Int)) : WP d i pc ls (vi y :: vi x :: st) h Q = (if w x < w y then WP d i (pc + 3) ls st h Q else WP d i tgt ls st h Q) := by
  by_cases h0 : w x < w y
  · rw [if_pos h0]
    exact WP_next (by rw [stp_of hm hd rfl]; exact (if_pos (by omega)).trans (if_neg (by simp [hold, h0])))
  · rw [if_neg h0]
    exact WP_jmp ht (by rw [stp_of hm hd rfl]; exact (if_pos (by omega)).trans (if_pos (by simp [hold, h0])))
theorem E_if_gt (hm : meths[i]? = some M) (hd : decode M.2.1 pc = .ok (.ifCond .gt off, 3)) (ht : (pc : Int) + off = (tgt : Int)) : WP d i pc ls (vi x :: st) h Q = (if 0 < w x then WP d i tgt ls st h Q else WP d i (pc + 3) ls st h Q) := by
  by_cases h0 : 0 < w x
  · rw [if_pos h0]
    exact WP_jmp ht (by rw [stp_of hm hd rfl]; exact (if_pos (by omega)).trans (if_pos (by simp [hold, h0])))
  · rw [if_neg h0]
    exact WP_next (by rw [stp_of hm hd rfl]; exact (if_pos (by omega)).trans (if_neg (by simp [hold, h0])))
theorem E_icmp_gt (hm : meths[i]? = some M) (hd : decode M.2.1 pc = .ok (.if_icmp .gt off, 3)) (ht : (pc : Int) + off = (tgt : Int)) : WP d i pc ls (vi y :: vi x :: st) h Q = (if w y < w x then WP d i tgt ls st h Q else WP d i (pc + 3) ls st h Q) := by
  by_cases h0 : w y < w x
  · rw [if_pos h0]
    exact WP_jmp ht (by rw [stp_of hm hd rfl]; exact (if_pos (by omega)).trans (if_pos (by simp [hold, h0])))
  · rw [if_neg h0]
    exact WP_next (by rw [stp_of hm hd rfl]; exact (if_pos (by omega)).trans (if_neg (by simp [hold, h0])))
theorem E_if_le (hm : meths[i]? = some M) (hd : decode M.2.1 pc = .ok (.ifCond .le off, 3)) (ht : (pc : Int) + off = (tgt : Int)) : WP d i pc ls (vi x :: st) h Q = (if 0 < w x then WP d i (pc + 3) ls st h Q else WP d i tgt ls st h Q) := by
  by_cases h0 : 0 < w x
  · rw [if_pos h0]
    exact WP_next (by rw [stp_of hm hd rfl]; exact (if_pos (by omega)).trans (if_neg (by simp [hold, h0])))
  · rw [if_neg h0]
    exact WP_jmp ht (by rw [stp_of hm hd rfl]; exact (if_pos (by omega)).trans (if_pos (by simp [hold, h0])))
theorem E_icmp_le (hm : meths[i]? = some M) (hd : decode M.2.1 pc = .ok (.if_icmp .le off, 3)) (ht : (pc : Int) + off = (tgt : Int)) : WP d i pc ls (vi y :: vi x :: st) h Q = (if w y < w x then WP d i (pc + 3) ls st h Q else WP d i tgt ls st h Q) := by
  by_cases h0 : w y < w x
  · rw [if_pos h0]
    exact WP_next (by rw [stp_of hm hd rfl]; exact (if_pos (by omega)).trans (if_neg (by simp [hold, h0])))
  · rw [if_neg h0]
    exact WP_jmp ht (by rw [stp_of hm hd rfl]; exact (if_pos (by omega)).trans (if_pos (by simp [hold, h0])))
theorem E_acmp_eq {r s : Option Nat} (hm : meths[i]? = some M) (hd : decode M.2.1 pc = .ok (.if_acmp .eq off, 3)) (ht : (pc : Int) + off = (tgt : Int)) : WP d i pc ls (vo s :: vo r :: st) h Q = ((okR r ∧ okR s) ∧ (if r = s then WP d i tgt ls st h Q else WP d i (pc + 3) ls st h Q)) := by
  rw [WP_and (d := d) (Q := Q) (P := (okR r ∧ okR s) ∧ 0 ≤ (pc : Int) + off) (R := if r = s then WP d i tgt ls st h Q else WP d i (pc + 3) ls st h Q) (x := if r = s then jmp pc off ls st h else nxt (pc + 3) ls st h) (by rw [stp_of hm hd rfl]; rfl) (fun _ hs => by
    by_cases h0 : r = s
    · rw [if_pos h0] at hs ⊢; exact WP_jmp ht hs
    · rw [if_neg h0] at hs ⊢; exact WP_next hs)]
  exact propext ⟨fun z => ⟨z.1.1, z.2⟩, fun z => ⟨⟨z.1, by omega⟩, z.2⟩⟩
theorem E_acmp_ne {r s : Option Nat} (hm : meths[i]? = some M) (hd : decode M.2.1 pc = .ok (.if_acmp .ne off, 3)) (ht : (pc : Int) + off = (tgt : Int)) : WP d i pc ls (vo s :: vo r :: st) h Q = ((okR r ∧ okR s) ∧ (if r = s then WP d i (pc + 3) ls st h Q else WP d i tgt ls st h Q)) := by
  rw [WP_and (d := d) (Q := Q) (P := (okR r ∧ okR s) ∧ 0 ≤ (pc : Int) + off) (R := if r = s then WP d i (pc + 3) ls st h Q else WP d i tgt ls st h Q) (x := if r = s then nxt (pc + 3) ls st h else jmp pc off ls st h) (by rw [stp_of hm hd rfl]; rfl) (fun _ hs => by
    by_cases h0 : r = s
    · rw [if_pos h0] at hs ⊢; exact WP_next hs
    · rw [if_neg h0] at hs ⊢; exact WP_jmp ht hs)]
  exact propext ⟨fun z => ⟨z.1.1, z.2⟩, fun z => ⟨⟨z.1, by omega⟩, z.2⟩⟩
theorem E_nonnull {r : Option Nat} (hm : meths[i]? = some M) (hd : decode M.2.1 pc = .ok (.ifnonnull off, 3)) (ht : (pc : Int) + off = (tgt : Int)) : WP d i pc ls (vo r :: st) h Q = (r ≠ some 9 ∧ (if r = none then WP d i (pc + 3) ls st h Q else WP d i tgt ls st h Q)) := by
  cases r with
  | none => rw [WP_next (pc' := pc + 3) (ls' := ls) (st' := st) (h' := h) (by rw [stp_of hm hd rfl]; rfl)]; simp
  | some a =>
    by_cases h9 : a = 9
    · rw [WP_none (by rw [stp_of hm hd rfl]; exact if_pos h9), h9]; simp
    · rw [WP_jmp ht (by rw [stp_of hm hd rfl]; exact if_neg h9)]; simp [h9]
theorem E_table {dflt lo hi : Int} {offs : Array Int} {len tD : Nat} (hm : meths[i]? = some M) (hd : decode M.2.1 pc = .ok (.tableswitch dflt lo hi offs, len)) (ht : (pc : Int) + dflt = (tD : Int)) (tb : List Nat) (hl : hi - lo + 1 = tb.length) (ho : ∀ q, q < tb.length → (offs[q]?).map (fun o => (pc : Int) + o) = (tb[q]?).map (fun t => ((t : Nat) : Int))) : WP d i pc ls (vi x :: st) h Q = (if lo ≤ w x ∧ w x ≤ hi then WP d i (tb.getD (w x - lo).toNat 0) ls st h Q else WP d i tD ls st h Q) := by
  by_cases h0 : lo ≤ w x ∧ w x ≤ hi
  · rw [if_pos h0]
    have hq : (w x - lo).toNat < tb.length := by omega
    have h1 := ho _ hq
    rw [List.getElem?_eq_getElem hq] at h1
    cases h2 : offs[(w x - lo).toNat]? with
    | none => rw [h2] at h1; cases h1
    | some o =>
      rw [h2] at h1
      have h3 : (pc : Int) + o = ((tb[(w x - lo).toNat] : Nat) : Int) := Option.some.inj h1
      rw [List.getD_eq_getElem?_getD, List.getElem?_eq_getElem hq]
      refine WP_jmp h3 ?_
      rw [stp_of hm hd rfl]
      simp only [stpI, vi]
      rw [if_pos h0, h2]
  · rw [if_neg h0]
    refine WP_jmp ht ?_
    rw [stp_of hm hd rfl]
    simp only [stpI, vi]
    rw [if_neg h0]
theorem E_lookup {dflt : Int} {ps : Array (Int × Int)} {len : Nat} (hm : meths[i]? = some M) (hd : decode M.2.1 pc = .ok (.lookupswitch dflt ps, len)) (hp : (ps.toList.zip (ps.toList.drop 1)).all (fun (a, next) => decide (a.1 < next.1)) = true) (hn : 0 ≤ (pc : Int) + Op.lookupswitch.offset ps.toList dflt (w x)) : WP d i pc ls (vi x :: st) h Q = WP d i ((pc : Int) + Op.lookupswitch.offset ps.toList dflt (w x)).toNat ls st h Q := by
  refine WP_next ?_
  rw [stp_of hm hd rfl]
  simp only [stpI, vi]
  rw [if_pos hp]
  exact if_pos hn
theorem E_getf {ci q : Nat} (hm : meths[i]? = some M) (hd : decode M.2.1 pc = .ok (.getfield k, 3)) (hf : fld M.2.2.2.2 k = some (ci, q)) : WP d i pc ls (vr a :: st) h Q = (okF (hp h a) ci q ∧ WP d i (pc + 3) ls (gF (hp h a) q :: st) h Q) :=
  WP_and (x := nxt (pc + 3) ls (gF (hp h a) q :: st) h) (by rw [stp_of hm hd rfl]; simp only [stpI, vo, hf]) (fun _ hs => WP_next hs)
theorem E_putf {ci q : Nat} {v : PV} (hm : meths[i]? = some M) (hd : decode M.2.1 pc = .ok (.putfield k, 3)) (hf : fld M.2.2.2.2 k = some (ci, q)) (hn : ffin ci q = true → M.1.name = "<init>" ∧ M.2.2.2.2 = ci) : WP d i pc ls (v :: vr a :: st) h Q = ((10 ≤ a ∧ okF (hp h a) ci q ∧ fitK (fty ci q) v) ∧ WP d i (pc + 3) ls st (hup h a (sF (hp h a) q v)) Q) := by
  rw [WP_and (d := d) (i := i) (pc := pc) (ls := ls) (st := v :: vr a :: st) (h := h) (Q := Q) (P := 10 ≤ a ∧ okF (hp h a) ci q ∧ fitK (fty ci q) v ∧ (ffin ci q = true → M.1.name = "<init>" ∧ M.2.2.2.2 = ci)) (x := nxt (pc + 3) ls st (hup h a (sF (hp h a) q v))) (R := WP d i (pc + 3) ls st (hup h a (sF (hp h a) q v)) Q) (by rw [stp_of hm hd rfl]; simp only [stpI, vo, hf]) (fun _ hs => WP_next hs)]
  exact propext ⟨fun z => ⟨⟨z.1.1, z.1.2.1, z.1.2.2.1⟩, z.2⟩, fun z => ⟨⟨z.1.1, z.1.2.1, z.1.2.2, hn⟩, z.2⟩⟩
theorem E_iaload (hm : meths[i]? = some M) (hd : decode M.2.1 pc = .ok (.iaload, 1)) : WP d i pc ls (vi x :: vr a :: st) h Q = (inA (hp h a) 0 (w x) ∧ WP d i (pc + 1) ls (vi (ldA (hp h a) (w x)) :: st) h Q) := WP_and (x := nxt (pc + 1) ls (vi (ldA (hp h a) (w x)) :: st) h) (by rw [stp_of hm hd rfl]; rfl) (fun _ hs => WP_next hs)
theorem E_baload (hm : meths[i]? = some M) (hd : decode M.2.1 pc = .ok (.baload, 1)) : WP d i pc ls (vi x :: vr a :: st) h Q = ((inA (hp h a) 1 (w x) ∨ inA (hp h a) 2 (w x)) ∧ WP d i (pc + 1) ls (vi (ldA (hp h a) (w x)) :: st) h Q) := WP_and (x := nxt (pc + 1) ls (vi (ldA (hp h a) (w x)) :: st) h) (by rw [stp_of hm hd rfl]; rfl) (fun _ hs => WP_next hs)
theorem E_laload (hm : meths[i]? = some M) (hd : decode M.2.1 pc = .ok (.laload, 1)) : WP d i pc ls (vi x :: vr a :: st) h Q = (inJ (hp h a) (w x) ∧ WP d i (pc + 1) ls (vl (ldJ (hp h a) (w x)) :: st) h Q) := WP_and (x := nxt (pc + 1) ls (vl (ldJ (hp h a) (w x)) :: st) h) (by rw [stp_of hm hd rfl]; rfl) (fun _ hs => WP_next hs)
theorem E_aaload (hm : meths[i]? = some M) (hd : decode M.2.1 pc = .ok (.aaload, 1)) : WP d i pc ls (vi x :: vr a :: st) h Q = (inR (hp h a) (w x) ∧ WP d i (pc + 1) ls (vo (ldR (hp h a) (w x)) :: st) h Q) := WP_and (x := nxt (pc + 1) ls (vo (ldR (hp h a) (w x)) :: st) h) (by rw [stp_of hm hd rfl]; rfl) (fun _ hs => WP_next hs)
theorem E_iastore (hm : meths[i]? = some M) (hd : decode M.2.1 pc = .ok (.iastore, 1)) : WP d i pc ls (vi y :: vi x :: vr a :: st) h Q = ((10 ≤ a ∧ inA (hp h a) 0 (w x)) ∧ WP d i (pc + 1) ls st (hup h a (stA (hp h a) (w x) y)) Q) := WP_and (x := nxt (pc + 1) ls st (hup h a (stA (hp h a) (w x) y))) (by rw [stp_of hm hd rfl]; rfl) (fun _ hs => WP_next hs)
theorem E_bastore (hm : meths[i]? = some M) (hd : decode M.2.1 pc = .ok (.bastore, 1)) : WP d i pc ls (vi y :: vi x :: vr a :: st) h Q = ((10 ≤ a ∧ ((inA (hp h a) 1 (w x) ∧ -128 ≤ y ∧ y < 128) ∨ (inA (hp h a) 2 (w x) ∧ (y = 0 ∨ y = 1)))) ∧ WP d i (pc + 1) ls st (hup h a (stA (hp h a) (w x) y)) Q) := WP_and (x := nxt (pc + 1) ls st (hup h a (stA (hp h a) (w x) y))) (by rw [stp_of hm hd rfl]; rfl) (fun _ hs => WP_next hs)
theorem E_lastore (hm : meths[i]? = some M) (hd : decode M.2.1 pc = .ok (.lastore, 1)) : WP d i pc ls (vl y :: vi x :: vr a :: st) h Q = ((10 ≤ a ∧ inJ (hp h a) (w x)) ∧ WP d i (pc + 1) ls st (hup h a (stJ (hp h a) (w x) y)) Q) := WP_and (x := nxt (pc + 1) ls st (hup h a (stJ (hp h a) (w x) y))) (by rw [stp_of hm hd rfl]; rfl) (fun _ hs => WP_next hs)
theorem E_aastore {b : Nat} (hm : meths[i]? = some M) (hd : decode M.2.1 pc = .ok (.aastore, 1)) : WP d i pc ls (vr b :: vi x :: vr a :: st) h Q = ((10 ≤ a ∧ inR (hp h a) (w x) ∧ tgR (hp h a) = some 0 ∧ clsO (hp h b) = some 6) ∧ WP d i (pc + 1) ls st (hup h a (stR (hp h a) (w x) (some b))) Q) := WP_and (x := nxt (pc + 1) ls st (hup h a (stR (hp h a) (w x) (some b)))) (by rw [stp_of hm hd rfl]; rfl) (fun _ hs => WP_next hs)
theorem E_alen (hm : meths[i]? = some M) (hd : decode M.2.1 pc = .ok (.arraylength, 1)) : WP d i pc ls (vr a :: st) h Q = (∃ n, lenA (hp h a) = some n ∧ WP d i (pc + 1) ls (vi n :: st) h Q) := by
  cases hl : lenA (hp h a) with
  | none => rw [WP_none (by rw [stp_of hm hd rfl]; simp only [stpI, vo, hl])]; simp
  | some n => rw [WP_next (pc' := pc + 1) (ls' := ls) (st' := vi n :: st) (h' := h) (by rw [stp_of hm hd rfl]; simp only [stpI, vo, hl]; rfl)]; simp
theorem E_new {ci : Nat} {fs : List PV} {N : Nat} (hm : meths[i]? = some M) (hd : decode M.2.1 pc = .ok (.new k, 3)) (hc : cls M.2.2.2.2 k = some ci) (hf : dfl ci = fs) (hN : fs.length = N) (h13 : ¬ 13 ≤ ci) : WP d i pc ls st h Q = WP d i (pc + 3) ls (vr h.1 :: st) (mk1 h N (oC ci fs)) Q := WP_next (by rw [stp_of hm hd rfl, ← hN, ← hf]; simp only [stpI, hc]; exact if_neg h13)
theorem E_newI (hm : meths[i]? = some M) (hd : decode M.2.1 pc = .ok (.newarray .int, 2)) : WP d i pc ls (vi x :: st) h Q = ((0 ≤ w x ∧ w x ≤ 500000) ∧ WP d i (pc + 2) ls (vr h.1 :: st) (mk1 h (w x).toNat (aI 0 (w x).toNat (fun _ => 0))) Q) := by
  by_cases h0 : 0 ≤ w x ∧ w x ≤ 500000
  · rw [WP_next (by rw [stp_of hm hd rfl]; exact if_pos h0)]; exact propext ⟨fun z => ⟨h0, z⟩, fun z => z.2⟩
  · rw [WP_none (by rw [stp_of hm hd rfl]; exact if_neg h0)]; exact propext ⟨fun z => z.elim, fun z => h0 z.1⟩
theorem E_newB (hm : meths[i]? = some M) (hd : decode M.2.1 pc = .ok (.newarray .byte, 2)) : WP d i pc ls (vi x :: st) h Q = ((0 ≤ w x ∧ w x ≤ 500000) ∧ WP d i (pc + 2) ls (vr h.1 :: st) (mk1 h (w x).toNat (aI 1 (w x).toNat (fun _ => 0))) Q) := by
  by_cases h0 : 0 ≤ w x ∧ w x ≤ 500000
  · rw [WP_next (by rw [stp_of hm hd rfl]; exact if_pos h0)]; exact propext ⟨fun z => ⟨h0, z⟩, fun z => z.2⟩
  · rw [WP_none (by rw [stp_of hm hd rfl]; exact if_neg h0)]; exact propext ⟨fun z => z.elim, fun z => h0 z.1⟩
theorem E_newZ (hm : meths[i]? = some M) (hd : decode M.2.1 pc = .ok (.newarray .boolean, 2)) : WP d i pc ls (vi x :: st) h Q = ((0 ≤ w x ∧ w x ≤ 500000) ∧ WP d i (pc + 2) ls (vr h.1 :: st) (mk1 h (w x).toNat (aI 2 (w x).toNat (fun _ => 0))) Q) := by
  by_cases h0 : 0 ≤ w x ∧ w x ≤ 500000
  · rw [WP_next (by rw [stp_of hm hd rfl]; exact if_pos h0)]; exact propext ⟨fun z => ⟨h0, z⟩, fun z => z.2⟩
  · rw [WP_none (by rw [stp_of hm hd rfl]; exact if_neg h0)]; exact propext ⟨fun z => z.elim, fun z => h0 z.1⟩
theorem E_newJ (hm : meths[i]? = some M) (hd : decode M.2.1 pc = .ok (.newarray .long, 2)) : WP d i pc ls (vi x :: st) h Q = ((0 ≤ w x ∧ w x ≤ 500000) ∧ WP d i (pc + 2) ls (vr h.1 :: st) (mk1 h (w x).toNat (aL (w x).toNat (fun _ => 0))) Q) := by
  by_cases h0 : 0 ≤ w x ∧ w x ≤ 500000
  · rw [WP_next (by rw [stp_of hm hd rfl]; exact if_pos h0)]; exact propext ⟨fun z => ⟨h0, z⟩, fun z => z.2⟩
  · rw [WP_none (by rw [stp_of hm hd rfl]; exact if_neg h0)]; exact propext ⟨fun z => z.elim, fun z => h0 z.1⟩
theorem E_anew (hm : meths[i]? = some M) (hd : decode M.2.1 pc = .ok (.anewarray k, 3)) (ho : M.2.2.2.2 = 11) (hc : cls M.2.2.2.2 k = some 6) : WP d i pc ls (vi x :: st) h Q = ((0 ≤ w x ∧ w x ≤ 500000) ∧ WP d i (pc + 3) ls (vr h.1 :: st) (mk1 h (w x).toNat (aR 0 (w x).toNat (fun _ => none))) Q) := by
  by_cases h0 : 0 ≤ w x ∧ w x ≤ 500000
  · rw [WP_next (by rw [stp_of hm hd rfl]; exact if_pos ⟨h0.1, h0.2, ho, hc⟩)]; exact propext ⟨fun z => ⟨h0, z⟩, fun z => z.2⟩
  · rw [WP_none (by rw [stp_of hm hd rfl]; exact if_neg (fun z => h0 ⟨z.1, z.2.1⟩))]; exact propext ⟨fun z => z.elim, fun z => h0 z.1⟩
theorem E_mna (hm : meths[i]? = some M) (hd : decode M.2.1 pc = .ok (.multianewarray k 2, 4)) (ho : M.2.2.2.2 = 8) (hc : cls M.2.2.2.2 k = some 100) : WP d i pc ls (vi y :: vi x :: st) h Q = ((0 ≤ w x ∧ w x ≤ 500 ∧ 0 ≤ w y ∧ w y ≤ 500) ∧ WP d i (pc + 4) ls (vr h.1 :: st) (mkN h (w x).toNat (w y).toNat) Q) := by
  by_cases h0 : 0 ≤ w x ∧ w x ≤ 500 ∧ 0 ≤ w y ∧ w y ≤ 500
  · rw [WP_next (by rw [stp_of hm hd rfl]; exact if_pos ⟨h0.1, h0.2.1, h0.2.2.1, h0.2.2.2, ho, rfl, hc⟩)]; exact propext ⟨fun z => ⟨h0, z⟩, fun z => z.2⟩
  · rw [WP_none (by rw [stp_of hm hd rfl]; exact if_neg (fun z => h0 ⟨z.1, z.2.1, z.2.2.1, z.2.2.2.1⟩))]; exact propext ⟨fun z => z.elim, fun z => h0 z.1⟩
theorem E_cast (hm : meths[i]? = some M) (hd : decode M.2.1 pc = .ok (.checkcast k, 3)) (hc : cls M.2.2.2.2 k = some 101) : WP d i pc ls (vr a :: st) h Q = ((10 ≤ a ∧ ∃ n f, hp h a = aI 0 n f) ∧ WP d i (pc + 3) ls (vr a :: st) h Q) := WP_and (x := nxt (pc + 3) ls (vr a :: st) h) (by rw [stp_of hm hd rfl]; exact if_pos hc) (fun _ hs => WP_next hs)
theorem E_ireturn (hm : meths[i]? = some M) (hd : decode M.2.1 pc = .ok (.ireturn, 1)) : WP d i pc ls [vi x] h Q = (retOk M.2.2.2.1 (some (vi x)) ∧ Q (some (vi x)) h) := WP_and (x := some (.inr (.inr (some (vi x))))) (by rw [stp_of hm hd rfl]; rfl) (fun _ hs => WP_ret hs)
theorem E_iretI (hm : meths[i]? = some M) (hd : decode M.2.1 pc = .ok (.ireturn, 1)) (hr : M.2.2.2.1 = some .int) : WP d i pc ls [vi x] h Q = Q (some (vi x)) h := by
  rw [E_ireturn hm hd, hr]; exact propext ⟨fun z => z.2, fun z => ⟨trivial, z⟩⟩
theorem E_iretZ (hm : meths[i]? = some M) (hd : decode M.2.1 pc = .ok (.ireturn, 1)) (hr : M.2.2.2.1 = some .boolean) : WP d i pc ls [vi x] h Q = ((x = 0 ∨ x = 1) ∧ Q (some (vi x)) h) := by
  rw [E_ireturn hm hd, hr]; rfl
theorem E_iretC (hm : meths[i]? = some M) (hd : decode M.2.1 pc = .ok (.ireturn, 1)) (hr : M.2.2.2.1 = some .char) : WP d i pc ls [vi x] h Q = ((0 ≤ x ∧ x < 65536) ∧ Q (some (vi x)) h) := by
  rw [E_ireturn hm hd, hr]; rfl
theorem E_iretB (hm : meths[i]? = some M) (hd : decode M.2.1 pc = .ok (.ireturn, 1)) (hr : M.2.2.2.1 = some .byte) : WP d i pc ls [vi x] h Q = ((-128 ≤ x ∧ x < 128) ∧ Q (some (vi x)) h) := by
  rw [E_ireturn hm hd, hr]; rfl
theorem E_lret (hm : meths[i]? = some M) (hd : decode M.2.1 pc = .ok (.lreturn, 1)) (hr : M.2.2.2.1 = some .long) : WP d i pc ls [vl x] h Q = Q (some (vl x)) h := by
  rw [WP_ret (v := some (vl x)) (by rw [stp_of hm hd rfl]; exact ifP_pos (by rw [hr]; trivial))]
theorem E_aret (hm : meths[i]? = some M) (hd : decode M.2.1 pc = .ok (.areturn, 1)) (hr : M.2.2.2.1 = some (.array .int)) : WP d i pc ls [vr a] h Q = (a ≠ 9 ∧ Q (some (vr a)) h) := by
  rw [WP_and (d := d) (Q := Q) (P := a ≠ 9 ∧ retOk M.2.2.2.1 (some (vr a))) (R := Q (some (vr a)) h) (x := some (.inr (.inr (some (vr a))))) (by rw [stp_of hm hd rfl]; rfl) (fun _ hs => WP_ret hs), hr]
  exact propext ⟨fun z => ⟨z.1.1, z.2⟩, fun z => ⟨⟨z.1, trivial⟩, z.2⟩⟩
theorem E_vret (hm : meths[i]? = some M) (hd : decode M.2.1 pc = .ok (.return_, 1)) (hr : M.2.2.2.1 = none) : WP d i pc ls [] h Q = Q none h := by
  rw [WP_ret (v := none) (by rw [stp_of hm hd rfl]; exact ifP_pos (by rw [hr]; trivial))]
theorem E_virt {j n ci : Nat} {J : MI} {as : List PV} {ls' : PL} (hm : meths[i]? = some M) (hd : decode M.2.1 pc = .ok (.invokevirtual k, 3)) (hk : mth M.2.2.2.2 k = some (0, j, n)) (hj : meths[j]? = some J) (hci : J.2.2.2.2 = ci) (hn : as.length = n) (he : ent (vr a :: as) J.2.2.1 = ls') (hy : (lay (vr a :: as)).length ≤ J.2.2.1) : WP (d + 1) i pc ls (as.reverse ++ vr a :: st) h Q = ((clsO (hp h a) = some ci ∧ wd st ≤ 8) ∧ WP d j 0 ls' [] h (Kont (d + 1) i (pc + 3) ls st Q)) := by
  have h1 : (as.reverse ++ vr a :: st).drop n = vr a :: st := by rw [← hn, ← List.length_reverse]; exact List.drop_left
  have h2 : ((as.reverse ++ vr a :: st).take n).reverse = as := by rw [← hn, ← List.length_reverse, List.take_left, List.reverse_reverse]
  have h3 : mxl j = J.2.2.1 := by unfold mxl; rw [hj]
  simp only [vo] at h1 h2
  rw [WP_and (d := d + 1) (Q := Q) (P := (clsO (hp h a) = some ci ∧ wd st ≤ 8) ∧ (lay (vr a :: as)).length ≤ mxl j) (R := WP d j 0 ls' [] h (Kont (d + 1) i (pc + 3) ls st Q)) (x := some (.inr (.inl (j, vr a :: as, st)))) ?_ (fun _ hs => ?_)]
  · exact propext ⟨fun z => ⟨z.1.1, z.2⟩, fun z => ⟨⟨z.1, by rw [h3]; exact hy⟩, z.2⟩⟩
  · rw [stp_of hm hd rfl]
    simp only [stpI, hk, vo, h1, h2]
    rw [hj]
    simp only [Option.map, hci]
  · rw [WP_call hs]
    unfold entM
    rw [hj]
    dsimp only
    rw [he]
theorem E_spec {j n : Nat} {J : MI} {as : List PV} {ls' : PL} (hm : meths[i]? = some M) (hd : decode M.2.1 pc = .ok (.invokespecial k, 3)) (hk : mth M.2.2.2.2 k = some (1, j, n)) (hj : meths[j]? = some J) (hn : as.length = n) (he : ent (vr a :: as) J.2.2.1 = ls') (hy : (lay (vr a :: as)).length ≤ J.2.2.1) : WP (d + 1) i pc ls (as.reverse ++ vr a :: st) h Q = ((10 ≤ a ∧ wd st ≤ 8) ∧ WP d j 0 ls' [] h (Kont (d + 1) i (pc + 3) ls st Q)) := by
  have h1 : (as.reverse ++ vr a :: st).drop n = vr a :: st := by rw [← hn, ← List.length_reverse]; exact List.drop_left
  have h2 : ((as.reverse ++ vr a :: st).take n).reverse = as := by rw [← hn, ← List.length_reverse, List.take_left, List.reverse_reverse]
  have h3 : mxl j = J.2.2.1 := by unfold mxl; rw [hj]
  simp only [vo] at h1 h2
  rw [WP_and (d := d + 1) (Q := Q) (P := (10 ≤ a ∧ wd st ≤ 8) ∧ (lay (vr a :: as)).length ≤ mxl j) (R := WP d j 0 ls' [] h (Kont (d + 1) i (pc + 3) ls st Q)) (x := some (.inr (.inl (j, vr a :: as, st)))) ?_ (fun _ hs => ?_)]
  · exact propext ⟨fun z => ⟨z.1.1, z.2⟩, fun z => ⟨⟨z.1, by rw [h3]; exact hy⟩, z.2⟩⟩
  · rw [stp_of hm hd rfl]
    simp only [stpI, hk, vo, h1, h2]
  · rw [WP_call hs]
    unfold entM
    rw [hj]
    dsimp only
    rw [he]
theorem E_stat {j n : Nat} {J : MI} {as : List PV} {ls' : PL} (hm : meths[i]? = some M) (hd : decode M.2.1 pc = .ok (.invokestatic k, 3)) (hk : mth M.2.2.2.2 k = some (2, j, n)) (hj : meths[j]? = some J) (hn : as.length = n) (he : ent as J.2.2.1 = ls') (hy : (lay as).length ≤ J.2.2.1) : WP (d + 1) i pc ls (as.reverse ++ st) h Q = (wd st ≤ 8 ∧ WP d j 0 ls' [] h (Kont (d + 1) i (pc + 3) ls st Q)) := by
  have h1 : (as.reverse ++ st).drop n = st := by rw [← hn, ← List.length_reverse]; exact List.drop_left
  have h2 : ((as.reverse ++ st).take n).reverse = as := by rw [← hn, ← List.length_reverse, List.take_left, List.reverse_reverse]
  have h3 : n ≤ (as.reverse ++ st).length := by rw [List.length_append, List.length_reverse, hn]; omega
  have h4 : mxl j = J.2.2.1 := by unfold mxl; rw [hj]
  rw [WP_and (d := d + 1) (Q := Q) (P := (n ≤ (as.reverse ++ st).length ∧ wd st ≤ 8) ∧ (lay as).length ≤ mxl j) (R := WP d j 0 ls' [] h (Kont (d + 1) i (pc + 3) ls st Q)) (x := some (.inr (.inl (j, as, st)))) ?_ (fun _ hs => ?_)]
  · exact propext ⟨fun z => ⟨z.1.1.2, z.2⟩, fun z => ⟨⟨⟨h3, z.1⟩, by rw [h4]; exact hy⟩, z.2⟩⟩
  · rw [stp_of hm hd rfl]
    simp only [stpI, hk, h1, h2]
  · rw [WP_call hs]
    unfold entM
    rw [hj]
    dsimp only
    rw [he]
theorem E_obj (hm : meths[i]? = some M) (hd : decode M.2.1 pc = .ok (.invokespecial k, 3)) (hk : mth M.2.2.2.2 k = some (3, 0, 0)) : WP d i pc ls (vr a :: st) h Q = ((10 ≤ a ∧ wd st ≤ 8) ∧ WP d i (pc + 3) ls st h Q) := WP_and (x := nxt (pc + 3) ls st h) (by rw [stp_of hm hd rfl]; simp only [stpI, hk, vo]) (fun _ hs => WP_next hs)
theorem E_clone {nn : Nat} {f : Int → Int} (hm : meths[i]? = some M) (hd : decode M.2.1 pc = .ok (.invokevirtual k, 3)) (hk : mth M.2.2.2.2 k = some (4, 0, 0)) (hc : hp h a = aI 0 nn f) : WP d i pc ls (vr a :: st) h Q = ((10 ≤ a ∧ wd st ≤ 8 ∧ nn ≤ 500000) ∧ WP d i (pc + 3) ls (vr h.1 :: st) (mk1 h nn (aI 0 nn f)) Q) := WP_and (x := nxt (pc + 3) ls (vr h.1 :: st) (mk1 h nn (aI 0 nn f))) (by rw [stp_of hm hd rfl]; simp only [stpI, hk, vo, hc, aI]) (fun _ hs => WP_next hs)
theorem E_copy {nn kk : Nat} {f g : Int → Int} {b : Nat} {sp dp ln : Int} (hm : meths[i]? = some M) (hd : decode M.2.1 pc = .ok (.invokestatic k, 3)) (hk : mth M.2.2.2.2 k = some (5, 0, 0)) (ha : hp h a = aI 0 nn f) (hb : hp h b = aI 0 kk g) : WP d i pc ls (vi ln :: vi dp :: vr b :: vi sp :: vr a :: st) h Q = ((10 ≤ a ∧ 10 ≤ b ∧ wd st ≤ 8 ∧ 0 ≤ w sp ∧ 0 ≤ w dp ∧ 0 ≤ w ln ∧ w sp + w ln ≤ nn ∧ w dp + w ln ≤ kk) ∧ WP d i (pc + 3) ls st (hup h b (aI 0 kk (fun j => if w dp ≤ j ∧ j < w dp + w ln then f (j - w dp + w sp) else g j))) Q) := WP_and (x := nxt (pc + 3) ls st (hup h b (aI 0 kk (fun j => if w dp ≤ j ∧ j < w dp + w ln then f (j - w dp + w sp) else g j)))) (by rw [stp_of hm hd rfl]; simp only [stpI, hk, vo, vi, ha, hb, aI]) (fun _ hs => WP_next hs)
end E

/-! cells and lists, for simp -/
theorem okF_0 {ci : Nat} {f : PV} {fs : List PV} : okF (oC ci (f :: fs)) ci 0 = True := by simp [okF, oC]
theorem okF_s {ci c k : Nat} {f : PV} {fs : List PV} : okF (oC ci (f :: fs)) c (k + 1) = okF (oC ci fs) c k := by simp [okF, oC]
theorem gF_0 {ci : Nat} {f : PV} {fs : List PV} : gF (oC ci (f :: fs)) 0 = f := rfl
theorem gF_s {ci k : Nat} {f : PV} {fs : List PV} : gF (oC ci (f :: fs)) (k + 1) = gF (oC ci fs) k := rfl
def consC (f : PV) (c : PC) : PC := match c with
  | .inl (ci, fs) => .inl (ci, f :: fs)
  | c => c
theorem consC_o {ci : Nat} {f : PV} {fs : List PV} : consC f (oC ci fs) = oC ci (f :: fs) := rfl
theorem sF_0 {ci : Nat} {f v : PV} {fs : List PV} : sF (oC ci (f :: fs)) 0 v = oC ci (v :: fs) := rfl
theorem sF_s {ci k : Nat} {f v : PV} {fs : List PV} : sF (oC ci (f :: fs)) (k + 1) v = consC f (sF (oC ci fs) k v) := rfl
theorem clsO_o {ci : Nat} {fs : List PV} : clsO (oC ci fs) = some ci := rfl
theorem inA_i {t n : Nat} {f : Int → Int} {j : Int} : inA (aI t n f) t j = (0 ≤ j ∧ j < n) := by simp [inA, aI]
theorem inA_n {t t' n : Nat} {f : Int → Int} {j : Int} (h : t ≠ t') : inA (aI t n f) t' j = False := by simp [inA, aI, h]
theorem ldA_i {t n : Nat} {f : Int → Int} {j : Int} : ldA (aI t n f) j = f j := rfl
theorem stA_i {t n : Nat} {f : Int → Int} {j v : Int} : stA (aI t n f) j v = aI t n (fset f j v) := rfl
theorem inJ_l {n : Nat} {f : Int → Int} {j : Int} : inJ (aL n f) j = (0 ≤ j ∧ j < n) := rfl
theorem ldJ_l {n : Nat} {f : Int → Int} {j : Int} : ldJ (aL n f) j = f j := rfl
theorem stJ_l {n : Nat} {f : Int → Int} {j v : Int} : stJ (aL n f) j v = aL n (fset f j v) := rfl
theorem inR_r {t n : Nat} {f : Int → Option Nat} {j : Int} : inR (aR t n f) j = (0 ≤ j ∧ j < n) := rfl
theorem ldR_r {t n : Nat} {f : Int → Option Nat} {j : Int} : ldR (aR t n f) j = f j := rfl
theorem stR_r {t n : Nat} {f : Int → Option Nat} {j : Int} {v : Option Nat} : stR (aR t n f) j v = aR t n (fset f j v) := rfl
theorem tgR_r {t n : Nat} {f : Int → Option Nat} : tgR (aR t n f) = some t := rfl
theorem lenA_i {t n : Nat} {f : Int → Int} : lenA (aI t n f) = some n := rfl
theorem lenA_l {n : Nat} {f : Int → Int} : lenA (aL n f) = some n := rfl
theorem lenA_r {t n : Nat} {f : Int → Option Nat} : lenA (aR t n f) = some n := rfl
theorem lenA_ex {n : Nat} {P : Nat → Prop} : (∃ k, some n = some k ∧ P k) = P n := by simp
theorem okR_n : okR none = True := rfl
theorem okR_s {a : Nat} : okR (some a) = (10 ≤ a) := rfl
theorem nl_i {x : Int} : nl (some (vi x)) = some (vi x) := rfl
theorem nl_o {r : Option Nat} : nl (some (vo r)) = some (vo r) := rfl
theorem nl_l {x : Int} : nl (some (vl x)) = none := rfl
theorem nl_n : nl none = none := rfl
theorem wd_n : wd [] = 0 := rfl
theorem wd_i {x : Int} {r : List PV} : wd (vi x :: r) = 1 + wd r := rfl
theorem wd_l {x : Int} {r : List PV} : wd (vl x :: r) = 2 + wd r := rfl
theorem wd_o {x : Option Nat} {r : List PV} : wd (vo x :: r) = 1 + wd r := rfl
theorem fit_i {x : Int} : fitK 0 (vi x) = True := by simp [fitK, vi]
theorem fit_l {x : Int} : fitK 1 (vl x) = True := by simp [fitK, vl]
theorem fit_o {x : Option Nat} : fitK 2 (vo x) = True := by simp [fitK, vo]
theorem K_v {d i pc : Nat} {ls : PL} {st : List PV} {Q : PQ} {v : PV} {h : PH} : Kont d i pc ls st Q (some v) h = WP d i pc ls (v :: st) h Q := rfl
theorem K_n {d i pc : Nat} {ls : PL} {st : List PV} {Q : PQ} {h : PH} : Kont d i pc ls st Q none h = WP d i pc ls st h Q := rfl
theorem hp_up {h : PH} {a b : Nat} {c : PC} : hp (hup h a c) b = if b = a then c else hp h b := rfl
theorem hp_up1 {h : PH} {a : Nat} {c : PC} : hp (hup h a c) a = c := if_pos rfl
theorem hp_upn {h : PH} {a b : Nat} {c : PC} (hn : b ≠ a) : hp (hup h a c) b = hp h b := if_neg hn
theorem hp_mk1 {h : PH} {s : Nat} {c : PC} : hp (mk1 h s c) h.1 = c := if_pos rfl
theorem hp_mkn {h : PH} {s b : Nat} {c : PC} (hn : b ≠ h.1) : hp (mk1 h s c) b = hp h b := if_neg hn
theorem fs_same {α : Type} {f : Int → α} {i : Int} {v : α} : fset f i v i = v := if_pos rfl
theorem fs_ne {α : Type} {f : Int → α} {i j : Int} {v : α} (h : j ≠ i) : fset f i v j = f j := if_neg h
theorem w_of {x : Int} (h1 : -2147483648 ≤ x) (h2 : x < 2147483648) : w x = x := by unfold w; rw [Int.bmod_def]; split <;> omega
theorem wl_of {x : Int} (h1 : -9223372036854775808 ≤ x) (h2 : x < 9223372036854775808) : wl x = x := by unfold wl; rw [Int.bmod_def]; split <;> omega
theorem w_lo (x : Int) : -2147483648 ≤ w x := by unfold w; rw [Int.bmod_def]; split <;> omega
theorem w_hi (x : Int) : w x < 2147483648 := by unfold w; rw [Int.bmod_def]; split <;> omega
theorem w_w (x : Int) : w (w x) = w x := w_of (w_lo x) (w_hi x)
theorem ite_and {c : Prop} [Decidable c] {A B : Prop} : (if c then A else B) = ((c → A) ∧ (¬ c → B)) := by by_cases h : c <;> simp [h]
theorem ite_merge {c : Prop} [Decidable c] {d i pc : Nat} {ls : PL} {u v : PV} {st : List PV} {h : PH} {Q : PQ} : (if c then WP d i pc ls (u :: st) h Q else WP d i pc ls (v :: st) h Q) = WP d i pc ls ((if c then u else v) :: st) h Q := by by_cases z : c <;> simp [z]
theorem ite_vi {c : Prop} [Decidable c] {x y : Int} : (if c then vi x else vi y) = vi (if c then x else y) := by by_cases z : c <;> simp [z]
