/-! THE MODEL: stands, counties, numbers by digits -/
def encP (B : Nat) : Nat → (Nat → Nat) → Nat
  | 0, _ => 0
  | n + 1, f => encP B n f + f n * B ^ n
theorem encP_lt {B : Nat} {f : Nat → Nat} : ∀ {n : Nat}, (∀ i, i < n → f i < B) → encP B n f < B ^ n
  | 0, _ => by simp [encP]
  | n + 1, h => by
    have h1 := encP_lt (n := n) (fun i hi => h i (by omega))
    have h2 := h n (by omega)
    unfold encP
    rw [Nat.pow_succ]
    calc encP B n f + f n * B ^ n < B ^ n + f n * B ^ n := by omega
      _ = (f n + 1) * B ^ n := by rw [Nat.add_mul, Nat.one_mul, Nat.add_comm]
      _ ≤ B * B ^ n := Nat.mul_le_mul_right _ h2
      _ = B ^ n * B := Nat.mul_comm _ _
theorem encP_digit {B : Nat} {f : Nat → Nat} : ∀ {n i : Nat}, (∀ j, j < n → f j < B) → i < n → encP B n f / B ^ i % B = f i
  | 0, i, _, h => absurd h (by omega)
  | n + 1, i, hf, hi => by
    have hn := encP_lt (n := n) (f := f) (fun j hj => hf j (by omega))
    have hB : 0 < B := Nat.lt_of_le_of_lt (Nat.zero_le _) (hf i hi)
    by_cases e : i = n
    · subst e
      unfold encP
      rw [Nat.add_mul_div_right _ _ (Nat.pow_pos hB), Nat.div_eq_of_lt hn, Nat.zero_add, Nat.mod_eq_of_lt (hf i hi)]
    · have hin : i < n := by omega
      have := encP_digit (n := n) (i := i) (fun j hj => hf j (by omega)) hin
      unfold encP
      have e1 : f n * B ^ n = (f n * B ^ (n - i - 1) * B) * B ^ i := by
        have hpw : B ^ n = B ^ (n - i - 1) * B * B ^ i := by
          rw [← Nat.pow_succ, ← Nat.pow_add]
          congr 1
          omega
        rw [hpw, ← Nat.mul_assoc, ← Nat.mul_assoc]
      rw [e1, Nat.add_mul_div_right _ _ (Nat.pow_pos hB), Nat.add_mul_mod_self_right]
      exact this
theorem encP_congr {B : Nat} {f g : Nat → Nat} : ∀ {n : Nat}, (∀ i, i < n → f i = g i) → encP B n f = encP B n g
  | 0, _ => rfl
  | n + 1, h => by unfold encP; rw [encP_congr (n := n) (fun i hi => h i (by omega)), h n (by omega)]
theorem encP_inj {B : Nat} {f g : Nat → Nat} {n : Nat} (hf : ∀ i, i < n → f i < B) (hg : ∀ i, i < n → g i < B) (h : encP B n f = encP B n g) : ∀ i, i < n → f i = g i := by
  intro i hi
  rw [← encP_digit hf hi, h, encP_digit hg hi]
/-- one digit changed -/
def fup (f : Nat → Nat) (i v : Nat) : Nat → Nat := fun j => if j = i then v else f j
theorem fup_self {f : Nat → Nat} {i v : Nat} : fup f i v i = v := if_pos rfl
theorem fup_ne {f : Nat → Nat} {i j v : Nat} (h : j ≠ i) : fup f i v j = f j := if_neg h
theorem encP_up {B : Nat} {f : Nat → Nat} {i v : Nat} : ∀ {n : Nat}, i < n → encP B n (fup f i v) + f i * B ^ i = encP B n f + v * B ^ i
  | 0, h => absurd h (by omega)
  | n + 1, h => by
    by_cases e : i = n
    · subst e
      unfold encP
      rw [fup_self, encP_congr (n := i) (g := f) (fun j hj => fup_ne (by omega))]
      omega
    · have := encP_up (B := B) (f := f) (i := i) (v := v) (n := n) (by omega)
      unfold encP
      rw [fup_ne (by omega)]
      omega
/-- a stand: who bears, where each is, how strong -/
abbrev ST : Type := Nat × (Nat → Nat) × (Nat → Nat)
/-- a county: places, kin, lines, weather; heights, ways as bits, ages; the laws' orders -/
abbrev KC : Type := Nat × Nat × Nat × Nat × (Nat → Nat) × (Nat → Nat) × (Nat → Nat) × Option (List Int) × Option (List Int) × ST
def kP (c : KC) : Nat := c.1
def kN (c : KC) : Nat := c.2.1
def kLines (c : KC) : Nat := c.2.2.1
def kSky (c : KC) : Nat := c.2.2.2.1
def kHgt (c : KC) : Nat → Nat := c.2.2.2.2.1
def kWay (c : KC) : Nat → Nat := c.2.2.2.2.2.1
def kAge (c : KC) : Nat → Nat := c.2.2.2.2.2.2.1
def kTir (c : KC) : Option (List Int) := c.2.2.2.2.2.2.2.1
def kMay (c : KC) : Option (List Int) := c.2.2.2.2.2.2.2.2.1
def kFst (c : KC) : ST := c.2.2.2.2.2.2.2.2.2
def okS (c : KC) (s : ST) : Prop := (∀ i, i < kN c → s.2.1 i < kP c ∧ s.2.2 i < 4) ∧ (∀ i, kN c ≤ i → s.2.1 i = 0 ∧ s.2.2 i = 0) ∧ (kN c = 0 → s.1 = 0) ∧ (0 < kN c → s.1 < kN c)
def encC (c : KC) (s : ST) : Nat := (s.1 * kP c ^ kN c + encP (kP c) (kN c) s.2.1) * 4 ^ kN c + encP 4 (kN c) s.2.2
def encR (s : ST) : Nat := s.1 * 32768 + encP 32 3 (fun i => s.2.1 i + 8 * s.2.2 i)
def downS (c : KC) (s : ST) : Prop := kN c = 0 ∨ s.2.2 s.1 = 0
theorem okS_bounds {c : KC} {s : ST} (h : okS c s) (hN : kN c ≤ 3) (hP : kP c ≤ 5) (hP1 : 1 ≤ kP c) : encP (kP c) (kN c) s.2.1 < kP c ^ kN c ∧ encP 4 (kN c) s.2.2 < 4 ^ kN c ∧ kP c ^ kN c ≤ 125 ∧ 4 ^ kN c ≤ 64 ∧ s.1 ≤ 2 ∧ encC c s < 24000 := by
  have h1 := encP_lt (B := kP c) (n := kN c) (f := s.2.1) (fun i hi => (h.1 i hi).1)
  have h2 := encP_lt (B := 4) (n := kN c) (f := s.2.2) (fun i hi => (h.1 i hi).2)
  have h3 : kP c ^ kN c ≤ 5 ^ 3 := Nat.le_trans (Nat.pow_le_pow_left hP _) (Nat.pow_le_pow_right (by decide) hN)
  have h4 : 4 ^ kN c ≤ 4 ^ 3 := Nat.pow_le_pow_right (by decide) hN
  have h5 : s.1 ≤ 2 := by
    rcases Nat.eq_zero_or_pos (kN c) with q | q
    · rw [h.2.2.1 q]; omega
    · have := h.2.2.2 q; omega
  refine ⟨h1, h2, h3, h4, h5, ?_⟩
  unfold encC
  have h6 : s.1 * kP c ^ kN c ≤ 2 * 125 := Nat.mul_le_mul h5 h3
  have h7 : s.1 * kP c ^ kN c + encP (kP c) (kN c) s.2.1 + 1 ≤ 375 := by omega
  have h8 : (s.1 * kP c ^ kN c + encP (kP c) (kN c) s.2.1 + 1) * 4 ^ kN c ≤ 375 * 64 := Nat.mul_le_mul h7 h4
  rw [Nat.add_mul, Nat.one_mul] at h8
  omega
