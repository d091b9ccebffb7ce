/-! THE PURE MACHINE: values with ints as representatives, a heap of cells by number, one step, a run with fuel and depth; WP: it returns, with a result of a kind. -/
abbrev PV : Type := Int ⊕ (Int ⊕ Option Nat)
def vi (x : Int) : PV := .inl x
def vl (x : Int) : PV := .inr (.inl x)
def vo (r : Option Nat) : PV := .inr (.inr r)
abbrev vr (a : Nat) : PV := vo (some a)
abbrev vn : PV := vo none
abbrev PC : Type := (Nat × List PV) ⊕ ((Nat × Nat × (Int → Int)) ⊕ ((Nat × (Int → Int)) ⊕ (Nat × Nat × (Int → Option Nat))))
def oC (ci : Nat) (fs : List PV) : PC := .inl (ci, fs)
def aI (t n : Nat) (f : Int → Int) : PC := .inr (.inl (t, n, f))
def aL (n : Nat) (f : Int → Int) : PC := .inr (.inr (.inl (n, f)))
def aR (t n : Nat) (f : Int → Option Nat) : PC := .inr (.inr (.inr (t, n, f)))
/-- how many numbers are given out, how many slots they have, the cells -/
abbrev PH : Type := Nat × Nat × (Nat → PC)
def hp (h : PH) (a : Nat) : PC := h.2.2 a
def hup (h : PH) (a : Nat) (c : PC) : PH := (h.1, h.2.1, fun k => if k = a then c else h.2.2 k)
def mk1 (h : PH) (sl : Nat) (c : PC) : PH := (h.1 + 1, h.2.1 + sl, fun k => if k = h.1 then c else h.2.2 k)
def mkN (h : PH) (N K : Nat) : PH := (h.1 + 1 + N, h.2.1 + N + N * K, fun k => if k = h.1 then aR 1 N (fun j => if 0 ≤ j ∧ j < N then some (h.1 + 1 + j.toNat) else none) else if h.1 < k ∧ k < h.1 + 1 + N then aI 0 K (fun _ => 0) else h.2.2 k)
def w (x : Int) : Int := Int.bmod x 4294967296
def wl (x : Int) : Int := Int.bmod x 18446744073709551616
def iand (x y : Int) : Int := (Int32.ofInt x &&& Int32.ofInt y).toInt
def ior (x y : Int) : Int := (Int32.ofInt x ||| Int32.ofInt y).toInt
def ixor (x y : Int) : Int := (Int32.ofInt x ^^^ Int32.ofInt y).toInt
def jand (x y : Int) : Int := (Int64.ofInt x &&& Int64.ofInt y).toInt
def jor (x y : Int) : Int := (Int64.ofInt x ||| Int64.ofInt y).toInt
def sh (y : Int) : Nat := (y % 32).toNat
def shj (y : Int) : Nat := (y % 64).toNat
def hold (c : ClassFile.Cond) (a b : Int) : Bool := match c with
  | .eq => decide (a = b)
  | .ne => !decide (a = b)
  | .lt => decide (a < b)
  | .ge => !decide (a < b)
  | .gt => decide (b < a)
  | .le => !decide (b < a)
def nl (x : Option PV) : Option PV := match x with
  | some (.inr (.inl _)) => none
  | x => x
def setL1 (ls : List (Option PV)) (k : Nat) (v : PV) : List (Option PV) := (match k with
  | 0 => ls
  | k + 1 => ls.modify k nl).set k (some v)
def setL2 (ls : List (Option PV)) (k : Nat) (v : PV) : List (Option PV) := (setL1 ls k v).set (k + 1) none
def lay : List PV → List (Option PV)
  | [] => []
  | .inr (.inl x) :: r => some (.inr (.inl x)) :: none :: lay r
  | v :: r => some v :: lay r
def ent (as : List PV) (n : Nat) : List (Option PV) := lay as ++ List.replicate (n - (lay as).length) none
def wd : List PV → Nat
  | [] => 0
  | .inr (.inl _) :: r => 2 + wd r
  | _ :: r => 1 + wd r
def okR (r : Option Nat) : Prop := match r with
  | none => True
  | some a => 10 ≤ a
-- cells
def okF (c : PC) (ci k : Nat) : Prop := match c with
  | .inl (cj, fs) => cj = ci ∧ k < fs.length
  | _ => False
def gF (c : PC) (k : Nat) : PV := match c with
  | .inl (_, fs) => fs.getD k vn
  | _ => vn
def sF (c : PC) (k : Nat) (v : PV) : PC := match c with
  | .inl (ci, fs) => .inl (ci, fs.set k v)
  | c => c
def inA (c : PC) (t : Nat) (j : Int) : Prop := match c with
  | .inr (.inl (t', n, _)) => t' = t ∧ 0 ≤ j ∧ j < n
  | _ => False
def ldA (c : PC) (j : Int) : Int := match c with
  | .inr (.inl (_, _, f)) => f j
  | _ => 0
def fset {α : Type} (f : Int → α) (i : Int) (v : α) : Int → α := fun j => if j = i then v else f j
def stA (c : PC) (j v : Int) : PC := match c with
  | .inr (.inl (t, n, f)) => .inr (.inl (t, n, fset f j v))
  | c => c
def inJ (c : PC) (j : Int) : Prop := match c with
  | .inr (.inr (.inl (n, _))) => 0 ≤ j ∧ j < n
  | _ => False
def ldJ (c : PC) (j : Int) : Int := match c with
  | .inr (.inr (.inl (_, f))) => f j
  | _ => 0
def stJ (c : PC) (j v : Int) : PC := match c with
  | .inr (.inr (.inl (n, f))) => .inr (.inr (.inl (n, fset f j v)))
  | c => c
def inR (c : PC) (j : Int) : Prop := match c with
  | .inr (.inr (.inr (_, n, _))) => 0 ≤ j ∧ j < n
  | _ => False
def ldR (c : PC) (j : Int) : Option Nat := match c with
  | .inr (.inr (.inr (_, _, f))) => f j
  | _ => none
def stR (c : PC) (j : Int) (v : Option Nat) : PC := match c with
  | .inr (.inr (.inr (t, n, f))) => .inr (.inr (.inr (t, n, fset f j v)))
  | c => c
def tgR (c : PC) : Option Nat := match c with
  | .inr (.inr (.inr (t, _, _))) => some t
  | _ => none
def lenA (c : PC) : Option Nat := match c with
  | .inl _ => none
  | .inr (.inl (_, n, _)) => some n
  | .inr (.inr (.inl (n, _))) => some n
  | .inr (.inr (.inr (_, n, _))) => some n
def clsO (c : PC) : Option Nat := match c with
  | .inl (ci, _) => some ci
  | _ => none
def kst (o k : Nat) : Option PV := match kstr o k with
  | some (0, v) => some (vi v)
  | some (1, v) => some (vr v.toNat)
  | _ => none
def sta (o k : Nat) : Option PV := match star o k with
  | some (0, v) => some (vi v)
  | some (1, v) => some (vr v.toNat)
  | _ => none
def dfl (ci : Nat) : List PV := (ftys.getD ci []).map (fun k => if k = 0 then vi 0 else if k = 1 then vl 0 else vn)
abbrev PL : Type := List (Option PV)
abbrev SR : Type := Option ((Nat × PL × List PV × PH) ⊕ ((Nat × List PV × List PV) ⊕ Option PV))
noncomputable def ifP {α : Type} (P : Prop) (x : Option α) : Option α := @ite _ P (Classical.propDecidable P) x none
theorem ifP_pos {α : Type} {P : Prop} {x : Option α} (h : P) : ifP P x = x := by unfold ifP; exact if_pos h
theorem ifP_neg {α : Type} {P : Prop} {x : Option α} (h : ¬ P) : ifP P x = none := by unfold ifP; exact if_neg h
theorem ifP_some {α : Type} {P : Prop} {x : Option α} {y : α} (h : ifP P x = some y) : P ∧ x = some y := by
  by_cases hP : P
  · rw [ifP_pos hP] at h; exact ⟨hP, h⟩
  · rw [ifP_neg hP] at h; cases h
def nxt (pc : Nat) (ls : PL) (st : List PV) (h : PH) : SR := some (.inl (pc, ls, st, h))
def jmp (pc : Nat) (off : Int) (ls : PL) (st : List PV) (h : PH) : SR := if 0 ≤ (pc : Int) + off then some (.inl (((pc : Int) + off).toNat, ls, st, h)) else none
/-- a result that a method of such a type may have -/
def retOk (t : Option FieldType) (v : Option PV) : Prop := match t, v with
  | none, none => True
  | some .int, some (.inl _) => True
  | some .boolean, some (.inl x) => x = 0 ∨ x = 1
  | some .char, some (.inl x) => 0 ≤ x ∧ x < 65536
  | some .byte, some (.inl x) => -128 ≤ x ∧ x < 128
  | some .long, some (.inr (.inl _)) => True
  | some (.array .int), some (.inr (.inr _)) => True
  | _, _ => False
/-- what a field of a kind may hold: 0 int, 1 long, 2 a reference -/
def fitK (k : Nat) (v : PV) : Prop := match v with
  | .inl _ => k = 0
  | .inr (.inl _) => k = 1
  | .inr (.inr _) => k = 2
def mxl (j : Nat) : Nat := match meths[j]? with
  | some J => J.2.2.1
  | none => 0
noncomputable def stpI (M : MI) (pc : Nat) (ls : PL) (st : List PV) (h : PH) (nx : Nat) (ins : Instr) : SR := match ins with
  | .iconst n => nxt nx ls (vi n :: st) h
  | .bipush n => if -128 ≤ n ∧ n < 128 then nxt nx ls (vi n :: st) h else none
  | .sipush n => if -32768 ≤ n ∧ n < 32768 then nxt nx ls (vi n :: st) h else none
  | .lconst n => nxt nx ls (vl (n : Nat) :: st) h
  | .ldc k => match kst M.2.2.2.2 k with | some v => nxt nx ls (v :: st) h | none => none
  | .ldc_w k => match kst M.2.2.2.2 k with | some (.inl v) => nxt nx ls (vi v :: st) h | _ => none
  | .ldc2_w k => match kst2 M.2.2.2.2 k with | some v => nxt nx ls (vl v :: st) h | none => none
  | .getstatic k => match sta M.2.2.2.2 k with | some v => nxt nx ls (v :: st) h | none => none
  | .iload k => match ls[k]? with | some (some (.inl x)) => nxt nx ls (vi x :: st) h | _ => none
  | .iload_n k => match ls[(k : Nat)]? with | some (some (.inl x)) => nxt nx ls (vi x :: st) h | _ => none
  | .lload k => match ls[k]? with | some (some (.inr (.inl x))) => nxt nx ls (vl x :: st) h | _ => none
  | .lload_n k => match ls[(k : Nat)]? with | some (some (.inr (.inl x))) => nxt nx ls (vl x :: st) h | _ => none
  | .aload k => match ls[k]? with | some (some (.inr (.inr x))) => nxt nx ls (vo x :: st) h | _ => none
  | .aload_n k => match ls[(k : Nat)]? with | some (some (.inr (.inr x))) => nxt nx ls (vo x :: st) h | _ => none
  | .istore k => match st with | .inl x :: r => if k < ls.length then nxt nx (setL1 ls k (vi x)) r h else none | _ => none
  | .istore_n k => match st with | .inl x :: r => if (k : Nat) < ls.length then nxt nx (setL1 ls k (vi x)) r h else none | _ => none
  | .astore k => match st with | .inr (.inr (some x)) :: r => if k < ls.length ∧ x ≠ 9 then nxt nx (setL1 ls k (vr x)) r h else none | _ => none
  | .astore_n k => match st with | .inr (.inr (some x)) :: r => if (k : Nat) < ls.length ∧ x ≠ 9 then nxt nx (setL1 ls k (vr x)) r h else none | .inr (.inr none) :: r => if (k : Nat) < ls.length then nxt nx (setL1 ls k vn) r h else none | _ => none
  | .lstore k => match st with | .inr (.inl x) :: r => if k + 1 < ls.length then nxt nx (setL2 ls k (vl x)) r h else none | _ => none
  | .lstore_n k => match st with | .inr (.inl x) :: r => if (k : Nat) + 1 < ls.length then nxt nx (setL2 ls k (vl x)) r h else none | _ => none
  | .iinc k n => match ls[k]? with | some (some (.inl x)) => nxt nx (setL1 ls k (vi (x + n))) st h | _ => none
  | .iadd => match st with | .inl y :: .inl x :: r => nxt nx ls (vi (x + y) :: r) h | _ => none
  | .isub => match st with | .inl y :: .inl x :: r => nxt nx ls (vi (x - y) :: r) h | _ => none
  | .imul => match st with | .inl y :: .inl x :: r => nxt nx ls (vi (x * y) :: r) h | _ => none
  | .iand => match st with | .inl y :: .inl x :: r => nxt nx ls (vi (iand x y) :: r) h | _ => none
  | .ior => match st with | .inl y :: .inl x :: r => nxt nx ls (vi (ior x y) :: r) h | _ => none
  | .ixor => match st with | .inl y :: .inl x :: r => nxt nx ls (vi (ixor x y) :: r) h | _ => none
  | .ishl => match st with | .inl y :: .inl x :: r => nxt nx ls (vi (x * 2 ^ sh y) :: r) h | _ => none
  | .ishr => match st with | .inl y :: .inl x :: r => nxt nx ls (vi (w x / 2 ^ sh y) :: r) h | _ => none
  | .iushr => match st with | .inl y :: .inl x :: r => nxt nx ls (vi (x % 4294967296 / 2 ^ sh y) :: r) h | _ => none
  | .idiv => match st with | .inl y :: .inl x :: r => if w y = 0 then none else nxt nx ls (vi ((w x).tdiv (w y)) :: r) h | _ => none
  | .irem => match st with | .inl y :: .inl x :: r => if w y = 0 then none else nxt nx ls (vi ((w x).tmod (w y)) :: r) h | _ => none
  | .ladd => match st with | .inr (.inl y) :: .inr (.inl x) :: r => nxt nx ls (vl (x + y) :: r) h | _ => none
  | .lsub => match st with | .inr (.inl y) :: .inr (.inl x) :: r => nxt nx ls (vl (x - y) :: r) h | _ => none
  | .lmul => match st with | .inr (.inl y) :: .inr (.inl x) :: r => nxt nx ls (vl (x * y) :: r) h | _ => none
  | .land => match st with | .inr (.inl y) :: .inr (.inl x) :: r => nxt nx ls (vl (jand x y) :: r) h | _ => none
  | .lor => match st with | .inr (.inl y) :: .inr (.inl x) :: r => nxt nx ls (vl (jor x y) :: r) h | _ => none
  | .lshl => match st with | .inl y :: .inr (.inl x) :: r => nxt nx ls (vl (x * 2 ^ shj y) :: r) h | _ => none
  | .lshr => match st with | .inl y :: .inr (.inl x) :: r => nxt nx ls (vl (wl x / 2 ^ shj y) :: r) h | _ => none
  | .ldiv => match st with | .inr (.inl y) :: .inr (.inl x) :: r => if wl y = 0 then none else nxt nx ls (vl ((wl x).tdiv (wl y)) :: r) h | _ => none
  | .lrem => match st with | .inr (.inl y) :: .inr (.inl x) :: r => if wl y = 0 then none else nxt nx ls (vl ((wl x).tmod (wl y)) :: r) h | _ => none
  | .lcmp => match st with | .inr (.inl y) :: .inr (.inl x) :: r => nxt nx ls (vi (if wl x < wl y then -1 else if wl x = wl y then 0 else 1) :: r) h | _ => none
  | .i2l => match st with | .inl x :: r => nxt nx ls (vl (w x) :: r) h | _ => none
  | .l2i => match st with | .inr (.inl x) :: r => nxt nx ls (vi x :: r) h | _ => none
  | .i2b => match st with | .inl x :: r => nxt nx ls (vi (Int.bmod x 256) :: r) h | _ => none
  | .i2s => match st with | .inl x :: r => nxt nx ls (vi (Int.bmod x 65536) :: r) h | _ => none
  | .i2c => match st with | .inl x :: r => nxt nx ls (vi (x % 65536) :: r) h | _ => none
  | .dup => match st with | .inl x :: r => nxt nx ls (vi x :: vi x :: r) h | .inr (.inr x) :: r => nxt nx ls (vo x :: vo x :: r) h | _ => none
  | .dup2 => match st with | .inl x :: .inr (.inr y) :: r => nxt nx ls (vi x :: vo y :: vi x :: vo y :: r) h | _ => none
  | .pop => match st with | .inl _ :: r => nxt nx ls r h | .inr (.inr _) :: r => nxt nx ls r h | _ => none
  | .pop2 => match st with | .inr (.inl _) :: r => nxt nx ls r h | _ => none
  | .goto off => jmp pc off ls st h
  | .ifCond c off => match st with | .inl x :: r => if 0 ≤ (pc : Int) + off then (if hold c (w x) 0 then jmp pc off ls r h else nxt nx ls r h) else none | _ => none
  | .if_icmp c off => match st with | .inl y :: .inl x :: r => if 0 ≤ (pc : Int) + off then (if hold c (w x) (w y) then jmp pc off ls r h else nxt nx ls r h) else none | _ => none
  | .if_acmp c off => match st with | .inr (.inr y) :: .inr (.inr x) :: r => ifP ((okR x ∧ okR y) ∧ 0 ≤ (pc : Int) + off) (match c with | .eq => if x = y then jmp pc off ls r h else nxt nx ls r h | .ne => if x = y then nxt nx ls r h else jmp pc off ls r h) | _ => none
  | .ifnonnull off => match st with | .inr (.inr (some a)) :: r => if a = 9 then none else jmp pc off ls r h | .inr (.inr none) :: r => nxt nx ls r h | _ => none
  | .tableswitch dflt lo hi offs => match st with | .inl x :: r => if lo ≤ w x ∧ w x ≤ hi then (match offs[(w x - lo).toNat]? with | some off => jmp pc off ls r h | none => none) else jmp pc dflt ls r h | _ => none
  | .lookupswitch dflt ps => match st with | .inl x :: r => if (ps.toList.zip (ps.toList.drop 1)).all (fun (a, next) => decide (a.1 < next.1)) then jmp pc (Op.lookupswitch.offset ps.toList dflt (w x)) ls r h else none | _ => none
  | .getfield k => match st with | .inr (.inr (some a)) :: r => (match fld M.2.2.2.2 k with | some (ci, q) => ifP (okF (hp h a) ci q) (nxt nx ls (gF (hp h a) q :: r) h) | none => none) | _ => none
  | .putfield k => match st with | v :: .inr (.inr (some a)) :: r => (match fld M.2.2.2.2 k with | some (ci, q) => ifP (10 ≤ a ∧ okF (hp h a) ci q ∧ fitK (fty ci q) v ∧ (ffin ci q = true → M.1.name = "<init>" ∧ M.2.2.2.2 = ci)) (nxt nx ls r (hup h a (sF (hp h a) q v))) | none => none) | _ => none
  | .iaload => match st with | .inl x :: .inr (.inr (some a)) :: r => ifP (inA (hp h a) 0 (w x)) (nxt nx ls (vi (ldA (hp h a) (w x)) :: r) h) | _ => none
  | .baload => match st with | .inl x :: .inr (.inr (some a)) :: r => ifP (inA (hp h a) 1 (w x) ∨ inA (hp h a) 2 (w x)) (nxt nx ls (vi (ldA (hp h a) (w x)) :: r) h) | _ => none
  | .laload => match st with | .inl x :: .inr (.inr (some a)) :: r => ifP (inJ (hp h a) (w x)) (nxt nx ls (vl (ldJ (hp h a) (w x)) :: r) h) | _ => none
  | .aaload => match st with | .inl x :: .inr (.inr (some a)) :: r => ifP (inR (hp h a) (w x)) (nxt nx ls (vo (ldR (hp h a) (w x)) :: r) h) | _ => none
  | .iastore => match st with | .inl y :: .inl x :: .inr (.inr (some a)) :: r => ifP (10 ≤ a ∧ inA (hp h a) 0 (w x)) (nxt nx ls r (hup h a (stA (hp h a) (w x) y))) | _ => none
  | .bastore => match st with | .inl y :: .inl x :: .inr (.inr (some a)) :: r => ifP (10 ≤ a ∧ ((inA (hp h a) 1 (w x) ∧ -128 ≤ y ∧ y < 128) ∨ (inA (hp h a) 2 (w x) ∧ (y = 0 ∨ y = 1)))) (nxt nx ls r (hup h a (stA (hp h a) (w x) y))) | _ => none
  | .lastore => match st with | .inr (.inl y) :: .inl x :: .inr (.inr (some a)) :: r => ifP (10 ≤ a ∧ inJ (hp h a) (w x)) (nxt nx ls r (hup h a (stJ (hp h a) (w x) y))) | _ => none
  | .aastore => match st with | .inr (.inr (some y)) :: .inl x :: .inr (.inr (some a)) :: r => ifP (10 ≤ a ∧ inR (hp h a) (w x) ∧ tgR (hp h a) = some 0 ∧ clsO (hp h y) = some 6) (nxt nx ls r (hup h a (stR (hp h a) (w x) (some y)))) | _ => none
  | .arraylength => match st with | .inr (.inr (some a)) :: r => (match lenA (hp h a) with | some n => nxt nx ls (vi n :: r) h | none => none) | _ => none
  | .new k => match cls M.2.2.2.2 k with | some ci => if 13 ≤ ci then none else nxt nx ls (vr h.1 :: st) (mk1 h (dfl ci).length (oC ci (dfl ci))) | none => none
  | .newarray t => match st with
    | .inl x :: r => if 0 ≤ w x ∧ w x ≤ 500000 then (match t with
      | .int => nxt nx ls (vr h.1 :: r) (mk1 h (w x).toNat (aI 0 (w x).toNat (fun _ => 0)))
      | .byte => nxt nx ls (vr h.1 :: r) (mk1 h (w x).toNat (aI 1 (w x).toNat (fun _ => 0)))
      | .boolean => nxt nx ls (vr h.1 :: r) (mk1 h (w x).toNat (aI 2 (w x).toNat (fun _ => 0)))
      | .long => nxt nx ls (vr h.1 :: r) (mk1 h (w x).toNat (aL (w x).toNat (fun _ => 0)))
      | _ => none) else none
    | _ => none
  | .anewarray k => match st with
    | .inl x :: r => if 0 ≤ w x ∧ w x ≤ 500000 ∧ M.2.2.2.2 = 11 ∧ cls M.2.2.2.2 k = some 6 then nxt nx ls (vr h.1 :: r) (mk1 h (w x).toNat (aR 0 (w x).toNat (fun _ => none))) else none
    | _ => none
  | .multianewarray k dm => match st with
    | .inl y :: .inl x :: r => if 0 ≤ w x ∧ w x ≤ 500 ∧ 0 ≤ w y ∧ w y ≤ 500 ∧ M.2.2.2.2 = 8 ∧ dm = 2 ∧ cls M.2.2.2.2 k = some 100 then nxt nx ls (vr h.1 :: r) (mkN h (w x).toNat (w y).toNat) else none
    | _ => none
  | .checkcast k => match st with | .inr (.inr (some a)) :: r => if cls M.2.2.2.2 k = some 101 then ifP (10 ≤ a ∧ ∃ n f, hp h a = aI 0 n f) (nxt nx ls (vr a :: r) h) else none | _ => none
  | .invokevirtual k => match mth M.2.2.2.2 k with
    | some (0, j, n) => (match st.drop n with
      | .inr (.inr (some a)) :: r => ifP ((clsO (hp h a) = (meths[j]?).map (fun J => J.2.2.2.2) ∧ wd r ≤ 8) ∧ (lay (vr a :: (st.take n).reverse)).length ≤ mxl j) (some (.inr (.inl (j, vr a :: (st.take n).reverse, r))))
      | _ => none)
    | some (4, _, _) => (match st with
      | .inr (.inr (some a)) :: r => (match hp h a with
        | .inr (.inl (0, n, f)) => ifP (10 ≤ a ∧ wd r ≤ 8 ∧ n ≤ 500000) (nxt nx ls (vr h.1 :: r) (mk1 h n (aI 0 n f)))
        | _ => none)
      | _ => none)
    | _ => none
  | .invokespecial k => match mth M.2.2.2.2 k with
    | some (1, j, n) => (match st.drop n with
      | .inr (.inr (some a)) :: r => ifP ((10 ≤ a ∧ wd r ≤ 8) ∧ (lay (vr a :: (st.take n).reverse)).length ≤ mxl j) (some (.inr (.inl (j, vr a :: (st.take n).reverse, r))))
      | _ => none)
    | some (3, _, _) => (match st with
      | .inr (.inr (some a)) :: r => ifP (10 ≤ a ∧ wd r ≤ 8) (nxt nx ls r h)
      | _ => none)
    | _ => none
  | .invokestatic k => match mth M.2.2.2.2 k with
    | some (2, j, n) => ifP ((n ≤ st.length ∧ wd (st.drop n) ≤ 8) ∧ (lay (st.take n).reverse).length ≤ mxl j) (some (.inr (.inl (j, (st.take n).reverse, st.drop n))))
    | some (5, _, _) => (match st with
      | .inl ln :: .inl dp :: .inr (.inr (some b)) :: .inl sp :: .inr (.inr (some a)) :: r => (match hp h a, hp h b with
        | .inr (.inl (0, n, f)), .inr (.inl (0, k, g)) => ifP (10 ≤ a ∧ 10 ≤ b ∧ wd r ≤ 8 ∧ 0 ≤ w sp ∧ 0 ≤ w dp ∧ 0 ≤ w ln ∧ w sp + w ln ≤ n ∧ w dp + w ln ≤ k) (nxt nx ls r (hup h b (aI 0 k (fun j => if w dp ≤ j ∧ j < w dp + w ln then f (j - w dp + w sp) else g j))))
        | _, _ => none)
      | _ => none)
    | _ => none
  | .ireturn => match st with | [.inl x] => ifP (retOk M.2.2.2.1 (some (vi x))) (some (.inr (.inr (some (vi x))))) | _ => none
  | .lreturn => match st with | [.inr (.inl x)] => ifP (retOk M.2.2.2.1 (some (vl x))) (some (.inr (.inr (some (vl x))))) | _ => none
  | .areturn => match st with | [.inr (.inr (some x))] => ifP (x ≠ 9 ∧ retOk M.2.2.2.1 (some (vr x))) (some (.inr (.inr (some (vr x))))) | _ => none
  | .return_ => match st with | [] => ifP (retOk M.2.2.2.1 none) (some (.inr (.inr none))) | _ => none
  | _ => none
def code_ (M : MI) (pc : Nat) : Option (Instr × Nat) := match decode M.2.1 pc with
  | .ok r => some r
  | .error _ => none
/-- the length that an instruction has when it isn't wide -/
def okLen (ins : Instr) (len : Nat) : Bool := match ins with
  | .bipush _ | .ldc _ | .iload _ | .lload _ | .aload _ | .istore _ | .lstore _ | .astore _ | .newarray _ => len == 2
  | .sipush _ | .ldc_w _ | .ldc2_w _ | .getstatic _ | .iinc _ _ | .goto _ | .ifCond _ _ | .if_icmp _ _ | .if_acmp _ _ | .ifnonnull _ | .getfield _ | .putfield _ | .new _ | .anewarray _ | .checkcast _ | .invokevirtual _ | .invokespecial _ | .invokestatic _ => len == 3
  | .multianewarray _ _ => len == 4
  | .tableswitch .. | .lookupswitch .. => true
  | _ => len == 1
noncomputable def stp (i pc : Nat) (ls : PL) (st : List PV) (h : PH) : SR := match meths[i]? with
  | none => none
  | some M => match code_ M pc with
    | none => none
    | some (ins, len) => if okLen ins len then stpI M pc ls st h (pc + len) ins else none
def entM (j : Nat) (as : List PV) : PL := match meths[j]? with
  | none => []
  | some M => ent as M.2.2.1
noncomputable def run : Nat → Nat → Nat → Nat → PL → List PV → PH → Option (Option PV × PH)
  | 0, _, _, _, _, _, _ => none
  | n + 1, d, i, pc, ls, st, h => match stp i pc ls st h with
    | none => none
    | some (.inl (pc', ls', st', h')) => run n d i pc' ls' st' h'
    | some (.inr (.inl (j, as, r))) => match d with
      | 0 => none
      | d + 1 => match run n d j 0 (entM j as) [] h with
        | none => none
        | some (v, h1) => run n (d + 1) i (pc + 3) ls (v.toList ++ r) h1
    | some (.inr (.inr v)) => some (v, h)
abbrev PQ : Type := Option PV → PH → Prop
def WP (d i pc : Nat) (ls : PL) (st : List PV) (h : PH) (Q : PQ) : Prop := ∃ n v h', run n d i pc ls st h = some (v, h') ∧ Q v h'
def Kont (d i pc : Nat) (ls : PL) (st : List PV) (Q : PQ) : PQ := fun v h => WP d i pc ls (v.toList ++ st) h Q

theorem run_mono1 : ∀ (n d i pc : Nat) (ls : PL) (st : List PV) (h : PH) (r : Option PV × PH), run n d i pc ls st h = some r → run (n + 1) d i pc ls st h = some r := by
  intro n
  induction n with
  | zero => intro d i pc ls st h r hr; simp [run] at hr
  | succ n ih =>
    intro d i pc ls st h r hr
    rw [run] at hr ⊢
    revert hr
    cases hs : stp i pc ls st h with
    | none => exact fun h => h
    | some x =>
      rcases x with ⟨pc', ls', st', h'⟩ | ⟨j, as, r'⟩ | v
      · exact ih d i pc' ls' st' h' r
      · cases d with
        | zero => exact fun h => h
        | succ d =>
          dsimp only
          cases hc : run n d j 0 (entM j as) [] h with
          | none => intro h; cases h
          | some y =>
            rw [ih d j 0 (entM j as) [] h y hc]
            obtain ⟨v, h1⟩ := y
            exact ih (d + 1) i (pc + 3) ls (v.toList ++ r') h1 r
      · exact fun h => h
theorem run_mono {n n' d i pc : Nat} {ls : PL} {st : List PV} {h : PH} {r : Option PV × PH} (hn : n ≤ n') (hr : run n d i pc ls st h = some r) : run n' d i pc ls st h = some r := by
  induction hn with
  | refl => exact hr
  | step _ ih => exact run_mono1 _ _ _ _ _ _ _ _ ih
theorem WP_next {d i pc pc' : Nat} {ls ls' : PL} {st st' : List PV} {h h' : PH} {Q : PQ} (hs : stp i pc ls st h = some (.inl (pc', ls', st', h'))) : WP d i pc ls st h Q = WP d i pc' ls' st' h' Q := by
  refine propext ⟨?_, ?_⟩
  · rintro ⟨n, v, k, hr, hq⟩
    cases n with
    | zero => simp [run] at hr
    | succ n => rw [run, hs] at hr; exact ⟨n, v, k, hr, hq⟩
  · rintro ⟨n, v, k, hr, hq⟩
    exact ⟨n + 1, v, k, by rw [run, hs]; exact hr, hq⟩
theorem WP_ret {d i pc : Nat} {ls : PL} {st : List PV} {h : PH} {v : Option PV} {Q : PQ} (hs : stp i pc ls st h = some (.inr (.inr v))) : WP d i pc ls st h Q = Q v h := by
  refine propext ⟨?_, ?_⟩
  · rintro ⟨n, v', k, hr, hq⟩
    cases n with
    | zero => simp [run] at hr
    | succ n => rw [run, hs] at hr; cases hr; exact hq
  · intro hq
    exact ⟨1, v, h, by rw [run, hs], hq⟩
theorem WP_none {d i pc : Nat} {ls : PL} {st : List PV} {h : PH} {Q : PQ} (hs : stp i pc ls st h = none) : WP d i pc ls st h Q = False := by
  refine eq_false ?_
  rintro ⟨n, v', k, hr, hq⟩
  cases n with
  | zero => simp [run] at hr
  | succ n => rw [run, hs] at hr; cases hr
theorem WP_call {d i pc j : Nat} {ls : PL} {st as r : List PV} {h : PH} {Q : PQ} (hs : stp i pc ls st h = some (.inr (.inl (j, as, r)))) : WP (d + 1) i pc ls st h Q = WP d j 0 (entM j as) [] h (Kont (d + 1) i (pc + 3) ls r Q) := by
  refine propext ⟨?_, ?_⟩
  · rintro ⟨n, v, k, hr, hq⟩
    cases n with
    | zero => simp [run] at hr
    | succ n =>
      rw [run, hs] at hr
      dsimp only at hr
      cases hc : run n d j 0 (entM j as) [] h with
      | none => rw [hc] at hr; cases hr
      | some y =>
        obtain ⟨v1, h1⟩ := y
        rw [hc] at hr
        exact ⟨n, v1, h1, hc, n, v, k, hr, hq⟩
  · rintro ⟨n, v1, h1, hc, n2, v, k, hr, hq⟩
    refine ⟨max n n2 + 1, v, k, ?_, hq⟩
    rw [run, hs]
    dsimp only
    rw [run_mono (Nat.le_max_left n n2) hc]
    exact run_mono (Nat.le_max_right n n2) hr
theorem WP_mono {d i pc : Nat} {ls : PL} {st : List PV} {h : PH} {Q Q' : PQ} (hq : ∀ v k, Q v k → Q' v k) (hw : WP d i pc ls st h Q) : WP d i pc ls st h Q' := by
  obtain ⟨n, v, k, hr, h1⟩ := hw
  exact ⟨n, v, k, hr, hq v k h1⟩
theorem run_deep : ∀ (n d i pc : Nat) (ls : PL) (st : List PV) (h : PH) (r : Option PV × PH), run n d i pc ls st h = some r → run n (d + 1) i pc ls st h = some r := by
  intro n
  induction n with
  | zero => intro d i pc ls st h r hr; simp [run] at hr
  | succ n ih =>
    intro d i pc ls st h r hr
    rw [run] at hr ⊢
    revert hr
    cases hs : stp i pc ls st h with
    | none => exact fun h => h
    | some x =>
      rcases x with ⟨pc', ls', st', h'⟩ | ⟨j, as, r'⟩ | v
      · exact ih d i pc' ls' st' h' r
      · cases d with
        | zero => intro h; cases h
        | succ d =>
          dsimp only
          cases hc : run n d j 0 (entM j as) [] h with
          | none => intro h; cases h
          | some y =>
            rw [ih d j 0 (entM j as) [] h y hc]
            obtain ⟨v, h1⟩ := y
            exact ih (d + 1) i (pc + 3) ls (v.toList ++ r') h1 r
      · exact fun h => h
theorem WP_deep {d d' i pc : Nat} {ls : PL} {st : List PV} {h : PH} {Q : PQ} (hd : d ≤ d') (hw : WP d i pc ls st h Q) : WP d' i pc ls st h Q := by
  obtain ⟨n, v, k, hr, h1⟩ := hw
  refine ⟨n, v, k, ?_, h1⟩
  induction hd with
  | refl => exact hr
  | step _ ih => exact run_deep _ _ _ _ _ _ _ _ ih
