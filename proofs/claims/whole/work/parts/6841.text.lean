/-! THE TEXT: bytes, spans, words, tokens -/
def btA (b : List Int) (k : Nat) : Int := b.getD k 0
def spn (P : Int → Bool) (b : List Int) (n : Nat) : Nat → Nat → Nat
  | 0, q => q
  | f + 1, q => if q < n ∧ P (btA b q) = true then spn P b n f (q + 1) else q
def spE (P : Int → Bool) (b : List Int) (n q : Nat) : Nat := spn P b n (n - q) q
section sp
variable {P : Int → Bool} {b : List Int} {n q k : Nat}
theorem spE_in (h : q < n) (hP : P (btA b q) = true) : spE P b n q = spE P b n (q + 1) := by
  unfold spE
  obtain ⟨f, hf⟩ : ∃ f, n - q = f + 1 := ⟨n - q - 1, by omega⟩
  rw [hf, show n - (q + 1) = f by omega]
  show (if q < n ∧ P (btA b q) = true then spn P b n f (q + 1) else q) = _
  rw [if_pos ⟨h, hP⟩]
theorem spE_out (h : ¬ (q < n ∧ P (btA b q) = true)) : spE P b n q = q := by
  unfold spE
  cases hf : n - q with
  | zero => rfl
  | succ f =>
    show (if q < n ∧ P (btA b q) = true then spn P b n f (q + 1) else q) = _
    rw [if_neg h]
theorem spE_all : ∀ r q, n - q = r → q ≤ spE P b n q ∧ (q ≤ n → spE P b n q ≤ n) ∧ (∀ k, q ≤ k → k < spE P b n q → P (btA b k) = true) ∧ ¬ (spE P b n q < n ∧ P (btA b (spE P b n q)) = true) := by
  intro r
  induction r with
  | zero =>
    intro q hq
    rw [spE_out (fun z => by omega)]
    exact ⟨Nat.le_refl _, fun z => z, fun k k1 k2 => by omega, fun z => by omega⟩
  | succ r ih =>
    intro q hq
    by_cases hP : P (btA b q) = true
    · rw [spE_in (by omega) hP]
      obtain ⟨h1, h2, h3, h4⟩ := ih (q + 1) (by omega)
      refine ⟨by omega, fun _ => h2 (by omega), fun k k1 k2 => ?_, h4⟩
      by_cases e : k = q
      · rw [e]; exact hP
      · exact h3 k (by omega) k2
    · rw [spE_out (fun z => hP z.2)]
      exact ⟨Nat.le_refl _, fun z => z, fun k k1 k2 => by omega, fun z => hP z.2⟩
theorem spE_le (h : q ≤ n) : q ≤ spE P b n q ∧ spE P b n q ≤ n := ⟨(spE_all _ q rfl).1, (spE_all _ q rfl).2.1 h⟩
theorem spE_mid (h1 : q ≤ k) (h2 : k < spE P b n q) : P (btA b k) = true := (spE_all _ q rfl).2.2.1 k h1 h2
theorem spE_end : ¬ (spE P b n q < n ∧ P (btA b (spE P b n q)) = true) := (spE_all _ q rfl).2.2.2
theorem spE_lt (h : q < n) (hP : P (btA b q) = true) : q < spE P b n q := by
  rw [spE_in h hP]
  exact (spE_all _ (q + 1) rfl).1
end sp
def isBl (x : Int) : Bool := decide (x = 10) || decide (x = 32)
def isSm (x : Int) : Bool := decide (97 ≤ x) && decide (x ≤ 122)
def isDg (x : Int) : Bool := decide (48 ≤ x) && decide (x ≤ 57)
def signsB : List Int := [59, 58, 43, 45, 42, 40, 41, 91, 93, 61, 60, 62]
def isSg (x : Int) : Bool := signsB.contains x
theorem isBl_t {x : Int} : isBl x = true ↔ x = 10 ∨ x = 32 := by unfold isBl; simp
theorem isSm_t {x : Int} : isSm x = true ↔ 97 ≤ x ∧ x ≤ 122 := by unfold isSm; simp
theorem isDg_t {x : Int} : isDg x = true ↔ 48 ≤ x ∧ x ≤ 57 := by unfold isDg; simp
theorem isSg_t {x : Int} : isSg x = true ↔ x ∈ signsB := by unfold isSg; exact List.contains_iff_mem
def subT (b : List Int) (s e : Nat) : List Int := (List.range (e - s)).map (fun m => btA b (s + m))
theorem subT_len {b : List Int} {s e : Nat} : (subT b s e).length = e - s := by unfold subT; rw [List.length_map, List.length_range]
theorem subT_at {b : List Int} {s e m : Nat} (h : m < e - s) : (subT b s e)[m]? = some (btA b (s + m)) := by
  unfold subT
  rw [List.getElem?_map, List.getElem?_range h]
  rfl
theorem subT_getD {b : List Int} {s e m : Nat} (h : m < e - s) : (subT b s e).getD m 0 = btA b (s + m) := by
  rw [List.getD_eq_getElem?_getD, subT_at h]; rfl
def nmF (b : List Int) (s : Nat) : Nat → Int
  | 0 => 0
  | m + 1 => if m < 3 then nmF b s m * 10 + btA b (s + m) - 48 else nmF b s m
theorem nmF_b {b : List Int} {s : Nat} : ∀ {m : Nat}, m ≤ 3 → (∀ k, k < m → isDg (btA b (s + k)) = true) → 0 ≤ nmF b s m ∧ nmF b s m < 10 ^ m
  | 0, _, _ => ⟨Int.le_refl _, by show (0 : Int) < 1; omega⟩
  | m + 1, h, hd => by
    obtain ⟨h1, h2⟩ := nmF_b (b := b) (s := s) (m := m) (by omega) (fun k hk => hd k (by omega))
    have h3 := isDg_t.mp (hd m (by omega))
    show 0 ≤ (if m < 3 then nmF b s m * 10 + btA b (s + m) - 48 else nmF b s m) ∧ (if m < 3 then nmF b s m * 10 + btA b (s + m) - 48 else nmF b s m) < 10 ^ (m + 1)
    rw [if_pos (by omega), Int.pow_succ]
    omega
def wordsL : List (List Int) := [[99, 111, 117, 110, 116, 121], [112, 108, 97, 99, 101, 115], [104, 101, 105, 103, 104, 116], [119, 97, 121], [107, 105, 110], [97, 116], [97, 103, 101], [115, 116, 114, 101, 110, 103, 116, 104], [98, 101, 97, 114, 115], [119, 101, 97, 116, 104, 101, 114], [116, 105, 114, 101, 115], [109, 97, 121], [105, 102], [116, 104, 101, 110], [101, 108, 115, 101], [101, 110, 100], [103, 111, 101, 115], [102, 114, 111, 109], [111, 114], [97, 110, 100], [110, 111, 116]]
def keysL : List (List Int) := [[99, 111, 117, 110, 116, 121], [112, 108, 97, 99, 101, 115], [104, 101, 105, 103, 104, 116], [119, 97, 121], [107, 105, 110], [97, 116], [97, 103, 101], [115, 116, 114, 101, 110, 103, 116, 104], [98, 101, 97, 114, 115], [119, 101, 97, 116, 104, 101, 114], [116, 105, 114, 101, 115], [109, 97, 121], [105, 102], [116, 104, 101, 110], [101, 108, 115, 101], [101, 110, 100], [103, 111, 101, 115], [102, 114, 111, 109], [97, 110, 100], [111, 114], [110, 111, 116]]
def wdI (t : List Int) (z : Int) : List (List Int) → Nat → Int
  | [], _ => z
  | w :: r, k => if t = w then (k : Int) else wdI t z r (k + 1)
theorem wdI_b {t : List Int} {z : Int} : ∀ {l : List (List Int)} {k : Nat}, wdI t z l k = z ∨ ((k : Int) ≤ wdI t z l k ∧ wdI t z l k < ((k + l.length : Nat) : Int))
  | [], k => Or.inl rfl
  | w :: r, k => by
    show (if t = w then (k : Int) else wdI t z r (k + 1)) = z ∨ ((k : Int) ≤ (if t = w then (k : Int) else wdI t z r (k + 1)) ∧ (if t = w then (k : Int) else wdI t z r (k + 1)) < ((k + (r.length + 1) : Nat) : Int))
    by_cases e : t = w
    · rw [if_pos e]; right; omega
    · rw [if_neg e]
      rcases wdI_b (t := t) (z := z) (l := r) (k := k + 1) with h | ⟨h1, h2⟩
      · exact Or.inl h
      · right; omega
def wdK (t : List Int) : Int := wdI t 31 wordsL 0
def wdR (t : List Int) : Int := wdI t 22 keysL 0
theorem wdK_b {t : List Int} : wdK t = 31 ∨ (0 ≤ wdK t ∧ wdK t ≤ 20) := by
  rcases wdI_b (t := t) (z := 31) (l := wordsL) (k := 0) with h | ⟨h1, h2⟩
  · exact Or.inl h
  · right
    have e : ((0 + wordsL.length : Nat) : Int) = 21 := rfl
    rw [e] at h2
    unfold wdK
    omega
/-- the class's kind of token as the reference has it -/
def rkK (k : Int) : Int := if k = 18 then 19 else if k = 19 then 18 else if k ≤ 20 then k else if k = 30 then 23 else if k = 31 then 22 else if k = 32 then 24 else if k = 33 then 25 else if k = 59 then 30 else if k = 58 then 31 else if k = 43 then 32 else if k = 45 then 33 else if k = 42 then 34 else if k = 40 then 35 else if k = 41 then 36 else if k = 91 then 37 else if k = 93 then 38 else if k = 61 then 39 else if k = 60 then 40 else 41
theorem wdI_no {t : List Int} {z : Int} : ∀ {l : List (List Int)} {k : Nat}, ¬ t ∈ l → wdI t z l k = z
  | [], _, _ => rfl
  | w :: r, k, h => by
    show (if t = w then (k : Int) else wdI t z r (k + 1)) = z
    rw [if_neg (fun e => h (by rw [e]; exact List.mem_cons_self)), wdI_no (fun e => h (List.mem_cons_of_mem _ e))]
theorem wd_rk {t : List Int} : wdR t = rkK (wdK t) := by
  by_cases h : t ∈ wordsL
  · have all : ∀ w, w ∈ wordsL → wdR w = rkK (wdK w) := by decide +kernel
    exact all t h
  · have h2 : ¬ t ∈ keysL := fun z => h (by
      have all : ∀ w, w ∈ keysL → w ∈ wordsL := by decide +kernel
      exact all t z)
    unfold wdR wdK
    rw [wdI_no h, wdI_no h2]
    rfl
/-- the token that is told from the byte q on: where it begins, its kind (33: none begins so), its number, where it ends -/
def tkS (b : List Int) (n q : Nat) : Nat := spE isBl b n q
def tkK (b : List Int) (n q : Nat) : Int := if n ≤ tkS b n q then 32 else if isSm (btA b (tkS b n q)) then wdK (subT b (tkS b n q) (spE isSm b n (tkS b n q))) else if isDg (btA b (tkS b n q)) then (if spE isDg b n (tkS b n q) - tkS b n q ≤ 3 then 30 else 33) else if isSg (btA b (tkS b n q)) then btA b (tkS b n q) else 33
def tkE (b : List Int) (n q : Nat) : Nat := if n ≤ tkS b n q then tkS b n q else if isSm (btA b (tkS b n q)) then spE isSm b n (tkS b n q) else if isDg (btA b (tkS b n q)) then spE isDg b n (tkS b n q) else tkS b n q + 1
def tkV (b : List Int) (n q : Nat) : Int := nmF b (tkS b n q) (spE isDg b n (tkS b n q) - tkS b n q)
section tk
variable {b : List Int} {n q : Nat}
theorem tkS_le (h : q ≤ n) : q ≤ tkS b n q ∧ tkS b n q ≤ n := spE_le h
theorem sg_b {x : Int} (h : isSg x = true) : 40 ≤ x ∧ x ≤ 93 ∧ ¬ (48 ≤ x ∧ x ≤ 57) := by
  have := isSg_t.mp h
  unfold signsB at this
  simp only [List.mem_cons, List.not_mem_nil, or_false] at this
  omega
theorem tkK_b : 0 ≤ tkK b n q ∧ tkK b n q ≤ 93 := by
  unfold tkK
  split
  · omega
  · split
    · rcases wdK_b (t := subT b (tkS b n q) (spE isSm b n (tkS b n q))) with h | h <;> omega
    · split
      · split <;> omega
      · split
        · next h => have := sg_b h; omega
        · omega
theorem tk_end (h : tkK b n q ≠ 32) : tkS b n q < n := by
  rcases Nat.lt_or_ge (tkS b n q) n with z | z
  · exact z
  · exfalso; apply h; unfold tkK; rw [if_pos z]
theorem tk_32 (h : tkK b n q = 32) : n ≤ tkS b n q := by
  rcases Nat.lt_or_ge (tkS b n q) n with z | z
  · exfalso
    unfold tkK at h
    rw [if_neg (by omega)] at h
    split at h
    · rcases wdK_b (t := subT b (tkS b n q) (spE isSm b n (tkS b n q))) with h' | h' <;> omega
    · split at h
      · split at h <;> omega
      · split at h
        · next h' => have := sg_b h'; omega
        · omega
  · exact z
theorem tkE_le (h : q ≤ n) : q ≤ tkE b n q ∧ tkE b n q ≤ n := by
  obtain ⟨h1, h2⟩ := tkS_le (b := b) h
  unfold tkE
  split
  · omega
  · have := spE_le (P := isSm) (b := b) h2
    have := spE_le (P := isDg) (b := b) h2
    split
    · omega
    · split <;> omega
theorem tkE_lt (h : q ≤ n) (hk : tkK b n q ≠ 32) : q < tkE b n q := by
  obtain ⟨h1, h2⟩ := tkS_le (b := b) h
  have h3 := tk_end hk
  unfold tkE
  rw [if_neg (by omega)]
  split
  · next hs => have := spE_lt (P := isSm) h3 hs; omega
  · split
    · next hs => have := spE_lt (P := isDg) h3 hs; omega
    · omega
theorem tkV_b (h : q ≤ n) (hk : tkK b n q = 30) : 0 ≤ tkV b n q ∧ tkV b n q < 1000 := by
  have h3 := tk_end (b := b) (n := n) (q := q) (by omega)
  unfold tkK at hk
  rw [if_neg (by omega)] at hk
  split at hk
  · rcases wdK_b (t := subT b (tkS b n q) (spE isSm b n (tkS b n q))) with h' | h' <;> omega
  · split at hk
    · split at hk
      · next h4 =>
        obtain ⟨h5, h6⟩ := nmF_b (b := b) (s := tkS b n q) h4 (fun k hk => spE_mid (n := n) (q := tkS b n q) (by omega) (by omega))
        unfold tkV
        have h7 : (10 : Int) ^ (spE isDg b n (tkS b n q) - tkS b n q) ≤ 1000 := by
          generalize spE isDg b n (tkS b n q) - tkS b n q = m at h4
          rcases (by omega : m = 0 ∨ m = 1 ∨ m = 2 ∨ m = 3) with e | e | e | e <;> subst e <;> decide
        omega
      · omega
    · split at hk
      · next h' => have := sg_b h'; omega
      · omega
end tk
/-- the state of a reading: ahead of the token from the byte q on, or a fault and its place -/
abbrev TS : Type := Nat ⊕ (Int × Int)
def nrm (b : List Int) (n : Nat) (s : TS) : TS := match s with
  | .inl q => if tkK b n q = 33 then .inr (1, (tkS b n q : Int)) else .inl q
  | .inr x => .inr x
theorem nrm_bad {b : List Int} {n q : Nat} (h : tkK b n q = 33) : nrm b n (.inl q) = .inr (1, (tkS b n q : Int)) := if_pos h
theorem nrm_ok {b : List Int} {n q : Nat} (h : tkK b n q ≠ 33) : nrm b n (.inl q) = .inl q := if_neg h
/-- the class's tokens in a state (with no bad token ahead) -/
def clT (b : List Int) (n : Nat) (i : Nat → Int) (s : TS) : Prop := i 2 = (n : Int) ∧ match s with
  | .inl q => q ≤ n ∧ tkK b n q ≠ 33 ∧ i 7 = 0 ∧ i 8 = -1 ∧ i 5 = tkK b n q ∧ i 3 = (tkS b n q : Int) ∧ i 4 = (tkE b n q : Int) ∧ (tkK b n q = 30 → i 6 = tkV b n q)
  | .inr (f, a) => i 7 = f ∧ i 8 = a ∧ i 5 = 32 ∧ 1 ≤ f ∧ f ≤ 4
/-- the reference's reading in a state -/
def rfT (b : List Int) (n : Nat) (i : Nat → Int) (s : TS) : Prop := i 8 = (n : Int) ∧ match s with
  | .inl q => q ≤ n ∧ i 11 = 0 ∧ i 9 = rkK (tkK b n q) ∧ i 6 = (tkS b n q : Int) ∧ i 7 = (tkE b n q : Int) ∧ (tkK b n q = 30 → i 10 = tkV b n q)
  | .inr (f, a) => i 11 = f ∧ i 12 = a ∧ 1 ≤ f ∧ f ≤ 4
def tapC (b : List Int) (A : Nat → Int → Int) : Prop := b.length ≤ 900 ∧ ∀ (k : Nat) x, b[k]? = some x → A 12 k = Int.bmod x 256 ∧ 0 ≤ x ∧ x < 256
def tapM (b : List Int) (A : Nat → Int → Int) : Prop := b.length ≤ 900 ∧ ∀ (k : Nat) x, b[k]? = some x → A 74 k = x ∧ 0 ≤ x ∧ x < 256
theorem bm_val {x : Int} (h1 : 0 ≤ x) (h2 : x < 256) : Int.bmod x 256 = if x < 128 then x else x - 256 := by
  rw [Int.bmod_def]
  split <;> split <;> omega
theorem tapC_at {b : List Int} {A : Nat → Int → Int} {k : Nat} (h : tapC b A) (hk : k < b.length) : A 12 k = (if btA b k < 128 then btA b k else btA b k - 256) ∧ 0 ≤ btA b k ∧ btA b k < 256 := by
  have hx : b[k]? = some b[k] := List.getElem?_eq_getElem hk
  obtain ⟨h1, h2, h3⟩ := h.2 k _ hx
  have e : btA b k = b[k] := by unfold btA; rw [List.getD_eq_getElem?_getD, hx]; rfl
  rw [e, h1, bm_val h2 h3]
  exact ⟨rfl, h2, h3⟩
theorem tapM_at {b : List Int} {A : Nat → Int → Int} {k : Nat} (h : tapM b A) (hk : k < b.length) : A 74 k = btA b k ∧ 0 ≤ btA b k ∧ btA b k < 256 := by
  have hx : b[k]? = some b[k] := List.getElem?_eq_getElem hk
  obtain ⟨h1, h2, h3⟩ := h.2 k _ hx
  have e : btA b k = b[k] := by unfold btA; rw [List.getD_eq_getElem?_getD, hx]; rfl
  rw [e, h1]
  exact ⟨rfl, h2, h3⟩
