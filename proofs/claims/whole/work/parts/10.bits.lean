/-! BITS of the representatives -/
theorem sh_of {n : Int} (h1 : 0 ≤ n) (h2 : n < 32) : sh n = n.toNat := by unfold sh; rw [Int.emod_eq_of_lt h1 h2]
theorem sh_nat {n : Nat} (h : n < 32) : sh (n : Int) = n := by rw [sh_of (by omega) (by omega)]; omega
theorem w_nat {n : Nat} (h : n < 2147483648) : w (n : Int) = n := w_of (by omega) (by omega)
theorem i32_nat {n : Nat} (h : n < 2147483648) : (Int32.ofInt (n : Int)).toBitVec = BitVec.ofNat 32 n := by
  show BitVec.ofInt 32 (n : Int) = _
  rw [BitVec.ofInt_natCast]
theorem bv_int {b : BitVec 32} (h : b.toNat < 2147483648) : b.toInt = (b.toNat : Int) := by
  rw [BitVec.toInt_eq_toNat_cond]
  rw [if_pos (by omega)]
theorem iand_nat {a b : Nat} (ha : a < 2147483648) (hb : b < 2147483648) : iand (a : Int) (b : Int) = ((a &&& b : Nat) : Int) := by
  have e : (Int32.ofInt (a : Int) &&& Int32.ofInt (b : Int)).toBitVec = BitVec.ofNat 32 (a &&& b) := by
    show (Int32.ofInt (a : Int)).toBitVec &&& (Int32.ofInt (b : Int)).toBitVec = _
    rw [i32_nat ha, i32_nat hb]
    apply BitVec.eq_of_toNat_eq
    rw [BitVec.toNat_and, BitVec.toNat_ofNat, BitVec.toNat_ofNat, BitVec.toNat_ofNat]
    have : a &&& b ≤ a := Nat.and_le_left
    rw [Nat.mod_eq_of_lt (by omega), Nat.mod_eq_of_lt (by omega), Nat.mod_eq_of_lt (by omega)]
  unfold iand
  show (Int32.ofInt (a : Int) &&& Int32.ofInt (b : Int)).toBitVec.toInt = _
  have h1 : a &&& b ≤ a := Nat.and_le_left
  have h2 : (BitVec.ofNat 32 (a &&& b)).toNat = a &&& b := by rw [BitVec.toNat_ofNat]; exact Nat.mod_eq_of_lt (by omega)
  rw [e, bv_int (by rw [h2]; omega), h2]
theorem ior_nat {a b : Nat} (ha : a < 2147483648) (hb : b < 2147483648) : ior (a : Int) (b : Int) = ((a ||| b : Nat) : Int) := by
  have hl : a ||| b < 2147483648 := Nat.or_lt_two_pow (n := 31) ha hb
  have e : (Int32.ofInt (a : Int) ||| Int32.ofInt (b : Int)).toBitVec = BitVec.ofNat 32 (a ||| b) := by
    show (Int32.ofInt (a : Int)).toBitVec ||| (Int32.ofInt (b : Int)).toBitVec = _
    rw [i32_nat ha, i32_nat hb]
    apply BitVec.eq_of_toNat_eq
    rw [BitVec.toNat_or, BitVec.toNat_ofNat, BitVec.toNat_ofNat, BitVec.toNat_ofNat]
    rw [Nat.mod_eq_of_lt (by omega), Nat.mod_eq_of_lt (by omega), Nat.mod_eq_of_lt (by omega)]
  unfold ior
  show (Int32.ofInt (a : Int) ||| Int32.ofInt (b : Int)).toBitVec.toInt = _
  have h2 : (BitVec.ofNat 32 (a ||| b)).toNat = a ||| b := by rw [BitVec.toNat_ofNat]; exact Nat.mod_eq_of_lt (by omega)
  rw [e, bv_int (by rw [h2]; omega), h2]
/-- a mask of the lowest k bits, of any int -/
theorem iand_mask {k : Nat} (hk : k < 31) (x : Int) : iand x ((2 ^ k - 1 : Nat) : Int) = x % ((2 ^ k : Nat) : Int) := by
  have hp : 2 ^ k < 2147483648 := Nat.pow_lt_pow_of_lt (a := 2) (by decide) hk
  have hp0 : 0 < 2 ^ k := Nat.pow_pos (by decide)
  unfold iand
  show ((Int32.ofInt x).toBitVec &&& (Int32.ofInt ((2 ^ k - 1 : Nat) : Int)).toBitVec).toInt = _
  rw [i32_nat (by omega)]
  have h2 : ((Int32.ofInt x).toBitVec &&& BitVec.ofNat 32 (2 ^ k - 1)).toNat = (x % 4294967296).toNat % 2 ^ k := by
    rw [BitVec.toNat_and, BitVec.toNat_ofNat, Nat.mod_eq_of_lt (a := 2 ^ k - 1) (by omega), Nat.and_two_pow_sub_one_eq_mod]
    show (BitVec.ofInt 32 x).toNat % 2 ^ k = _
    rw [BitVec.toNat_ofInt]
    rfl
  have hlt : (x % 4294967296).toNat % 2 ^ k < 2 ^ k := Nat.mod_lt _ hp0
  rw [bv_int (by rw [h2]; omega), h2]
  have hd : ((2 ^ k : Nat) : Int) ∣ 4294967296 := by
    have : (2 ^ k : Nat) ∣ 2 ^ 32 := Nat.pow_dvd_pow 2 (by omega)
    have t2 : ((2 ^ k : Nat) : Int) ∣ ((2 ^ 32 : Nat) : Int) := Int.natCast_dvd_natCast.mpr this
    exact t2
  have h3 : x % 4294967296 % ((2 ^ k : Nat) : Int) = x % ((2 ^ k : Nat) : Int) := Int.emod_emod_of_dvd x hd
  rw [← h3]
  have h4 : (x % 4294967296) = (((x % 4294967296).toNat : Nat) : Int) := by omega
  conv => rhs; rw [h4]
  rw [← Int.natCast_emod]
theorem iand_1 (x : Int) : iand x 1 = x % 2 := iand_mask (k := 1) (by decide) x
theorem iand_3 (x : Int) : iand x 3 = x % 4 := iand_mask (k := 2) (by decide) x
theorem iand_7 (x : Int) : iand x 7 = x % 8 := iand_mask (k := 3) (by decide) x
theorem iand_255 (x : Int) : iand x 255 = x % 256 := iand_mask (k := 8) (by decide) x
theorem iand_32767 (x : Int) : iand x 32767 = x % 32768 := iand_mask (k := 15) (by decide) x
theorem iand_31 (x : Int) : iand x 31 = x % 32 := iand_mask (k := 5) (by decide) x
theorem iand_63 (x : Int) : iand x 63 = x % 64 := iand_mask (k := 6) (by decide) x
/-- low bits beside high ones -/
theorem ior_add {k : Nat} {a b : Nat} (ha : a < 2 ^ k) (hs : b * 2 ^ k + a < 2147483648) : ior ((b * 2 ^ k : Nat) : Int) (a : Int) = ((b * 2 ^ k + a : Nat) : Int) := by
  rw [ior_nat (by omega) (by omega)]
  congr 1
  rw [Nat.mul_comm, Nat.two_pow_add_eq_or_of_lt ha]
theorem cmp_lt {a b : Int} : (w (if a < b then -1 else if a = b then 0 else 1) < 0) = (a < b) := by
  by_cases h1 : a < b
  · simp only [h1, if_true]; exact propext ⟨fun _ => trivial, fun _ => by decide⟩
  · by_cases h2 : a = b
    · rw [if_neg h1, if_pos h2]; exact propext ⟨fun z => absurd z (by decide), fun z => absurd z h1⟩
    · rw [if_neg h1, if_neg h2]; exact propext ⟨fun z => absurd z (by decide), fun z => absurd z h1⟩
theorem cmp_gt {a b : Int} : (0 < w (if a < b then -1 else if a = b then 0 else 1)) = (b < a) := by
  by_cases h1 : a < b
  · rw [if_pos h1]; exact propext ⟨fun z => absurd z (by decide), fun z => by omega⟩
  · by_cases h2 : a = b
    · rw [if_neg h1, if_pos h2]; exact propext ⟨fun z => absurd z (by decide), fun z => by omega⟩
    · rw [if_neg h1, if_neg h2]; exact propext ⟨fun _ => by omega, fun _ => by decide⟩
theorem cmp_eq {a b : Int} : (w (if a < b then -1 else if a = b then 0 else 1) = 0) = (a = b) := by
  by_cases h1 : a < b
  · rw [if_pos h1]; exact propext ⟨fun z => absurd z (by decide), fun z => by omega⟩
  · by_cases h2 : a = b
    · rw [if_neg h1, if_pos h2]; exact propext ⟨fun _ => h2, fun _ => by decide⟩
    · rw [if_neg h1, if_neg h2]; exact propext ⟨fun z => absurd z (by decide), fun z => absurd z h2⟩
/-- a truth as a number: 1 or 0 -/
theorem wb_0 {P : Prop} [Decidable P] : (w (if P then 1 else 0) = 0) = ¬ P := by
  by_cases h : P
  · simp only [h, if_true]; exact propext ⟨fun z => absurd z (by decide), fun z => absurd trivial z⟩
  · simp only [h, if_false]; exact propext ⟨fun _ => fun z => z, fun _ => by decide⟩
theorem b_01 {P : Prop} [Decidable P] : ((if P then (1 : Int) else 0) = 0 ∨ (if P then (1 : Int) else 0) = 1) = True := by
  by_cases h : P <;> simp [h]
theorem cmp_lt' {a b : Int} : ((if a < b then (-1 : Int) else if a = b then 0 else 1) < 0) = (a < b) := by
  by_cases h1 : a < b
  · simp [h1]
  · by_cases h2 : a = b
    · subst h2; simp
    · simp [h1, h2]
theorem cmp_gt' {a b : Int} : ((0 : Int) < (if a < b then (-1 : Int) else if a = b then 0 else 1)) = (b < a) := by
  by_cases h1 : a < b
  · simp [h1]; omega
  · by_cases h2 : a = b
    · subst h2; simp
    · simp [h1, h2]; omega
theorem cmp_eq' {a b : Int} : ((if a < b then (-1 : Int) else if a = b then 0 else 1) = 0) = (a = b) := by
  by_cases h1 : a < b
  · simp [h1]; omega
  · by_cases h2 : a = b
    · subst h2; simp
    · simp [h1, h2]
theorem b_0 {P : Prop} [Decidable P] : ((if P then (1 : Int) else 0) = 0) = ¬ P := by
  by_cases h : P <;> simp [h]
theorem b_1 {P : Prop} [Decidable P] : ((if P then (1 : Int) else 0) = 1) = P := by
  by_cases h : P <;> simp [h]
theorem wb_1 {P : Prop} [Decidable P] : (w (if P then 1 else 0) = 1) = P := by
  by_cases h : P
  · simp only [h, if_true]; exact propext ⟨fun _ => trivial, fun _ => by decide⟩
  · simp only [h, if_false]; exact propext ⟨fun z => absurd z (by decide), fun z => z.elim⟩
theorem ltT {a b : Int} (h : a < b) : (a < b) = True := eq_true h
theorem ltF {a b : Int} (h : ¬ a < b) : (a < b) = False := eq_false h
theorem leT {a b : Int} (h : a ≤ b) : (a ≤ b) = True := eq_true h
theorem leF {a b : Int} (h : ¬ a ≤ b) : (a ≤ b) = False := eq_false h
theorem eqT {a b : Int} (h : a = b) : (a = b) = True := eq_true h
theorem eqF {a b : Int} (h : ¬ a = b) : (a = b) = False := eq_false h
theorem sh_0 : sh 0 = 0 := rfl
theorem sh_1 : sh 1 = 1 := rfl
theorem sh_2 : sh 2 = 2 := rfl
theorem sh_3 : sh 3 = 3 := rfl
theorem sh_4 : sh 4 = 4 := rfl
theorem sh_5 : sh 5 = 5 := rfl
theorem sh_8 : sh 8 = 8 := rfl
theorem sh_15 : sh 15 = 15 := rfl
theorem sh_16 : sh 16 = 16 := rfl
theorem sh_24 : sh 24 = 24 := rfl
theorem sh_32 : sh 32 = 0 := rfl
theorem shj_32 : shj 32 = 32 := rfl
