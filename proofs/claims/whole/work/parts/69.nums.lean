/-! NUMBERS: what the machine's int and long do to the representatives -/
theorem n_ti (x : Int) : (Int32.ofInt x).toInt = w x := Int32.toInt_ofInt
theorem n_tl (x : Int) : (Int64.ofInt x).toInt = wl x := Int64.toInt_ofInt
theorem n_w (x : Int) : Int32.ofInt (w x) = Int32.ofInt x := by rw [← n_ti, Int32.ofInt_toInt]
theorem n_wl (x : Int) : Int64.ofInt (wl x) = Int64.ofInt x := by rw [← n_tl, Int64.ofInt_toInt]
theorem n_ei {x y : Int} (h : w x = w y) : Int32.ofInt x = Int32.ofInt y := by rw [← n_w x, h, n_w]
theorem n_el {x y : Int} (h : wl x = wl y) : Int64.ofInt x = Int64.ofInt y := by rw [← n_wl x, h, n_wl]
theorem n_add (x y : Int) : Int32.ofInt x + Int32.ofInt y = Int32.ofInt (x + y) := (Int32.ofInt_add x y).symm
theorem n_sub (x y : Int) : Int32.ofInt x - Int32.ofInt y = Int32.ofInt (x - y) := (Int32.ofInt_sub x y).symm
theorem n_mul (x y : Int) : Int32.ofInt x * Int32.ofInt y = Int32.ofInt (x * y) := (Int32.ofInt_mul x y).symm
theorem n_ladd (x y : Int) : Int64.ofInt x + Int64.ofInt y = Int64.ofInt (x + y) := (Int64.ofInt_add x y).symm
theorem n_lsub (x y : Int) : Int64.ofInt x - Int64.ofInt y = Int64.ofInt (x - y) := (Int64.ofInt_sub x y).symm
theorem n_lmul (x y : Int) : Int64.ofInt x * Int64.ofInt y = Int64.ofInt (x * y) := (Int64.ofInt_mul x y).symm
theorem n_and (x y : Int) : Int32.ofInt x &&& Int32.ofInt y = Int32.ofInt (iand x y) := (Int32.ofInt_toInt _).symm
theorem n_or (x y : Int) : Int32.ofInt x ||| Int32.ofInt y = Int32.ofInt (ior x y) := (Int32.ofInt_toInt _).symm
theorem n_xor (x y : Int) : Int32.ofInt x ^^^ Int32.ofInt y = Int32.ofInt (ixor x y) := (Int32.ofInt_toInt _).symm
theorem n_land (x y : Int) : Int64.ofInt x &&& Int64.ofInt y = Int64.ofInt (jand x y) := (Int64.ofInt_toInt _).symm
theorem n_lor (x y : Int) : Int64.ofInt x ||| Int64.ofInt y = Int64.ofInt (jor x y) := (Int64.ofInt_toInt _).symm
theorem n_lt {x y : Int} : Int32.ofInt x < Int32.ofInt y ↔ w x < w y := by rw [Int32.lt_iff_toInt_lt, n_ti, n_ti]
theorem n_le {x y : Int} : Int32.ofInt x ≤ Int32.ofInt y ↔ w x ≤ w y := by rw [Int32.le_iff_toInt_le, n_ti, n_ti]
theorem n_eq {x y : Int} : Int32.ofInt x = Int32.ofInt y ↔ w x = w y := by rw [← Int32.toInt_inj, n_ti, n_ti]
theorem n_llt {x y : Int} : Int64.ofInt x < Int64.ofInt y ↔ wl x < wl y := by rw [Int64.lt_iff_toInt_lt, n_tl, n_tl]
theorem n_leq {x y : Int} : Int64.ofInt x = Int64.ofInt y ↔ wl x = wl y := by rw [← Int64.toInt_inj, n_tl, n_tl]
theorem n_0 : (0 : Int32) = Int32.ofInt 0 := rfl
theorem n_clamp (x : Int) : (Int32.ofInt x).toNatClampNeg = (w x).toNat := by
  show (Int32.ofInt x).toInt.toNat = _
  rw [n_ti]
theorem n_in {x : Int} {n : Nat} (h1 : 0 ≤ w x) (h2 : w x < n) : vp_in (Int32.ofInt x) n := by
  unfold vp_in
  rw [n_0, n_lt, n_clamp]
  have : w 0 = 0 := w_of (by decide) (by decide)
  omega
theorem n_div {x y : Int} : Int32.ofInt x / Int32.ofInt y = Int32.ofInt ((w x).tdiv (w y)) := by
  rw [← Int32.toInt_inj, Int32.toInt_div, n_ti, n_ti, n_ti]; rfl
theorem n_ldiv {x y : Int} : Int64.ofInt x / Int64.ofInt y = Int64.ofInt ((wl x).tdiv (wl y)) := by
  rw [← Int64.toInt_inj, Int64.toInt_div, n_tl, n_tl, n_tl]; rfl
theorem n_rem {x y : Int} : Int32.ofInt x - Int32.ofInt x / Int32.ofInt y * Int32.ofInt y = Int32.ofInt ((w x).tmod (w y)) := by
  rw [n_div, n_mul, n_sub]
  have h : (w x).tmod (w y) = w x - (w x).tdiv (w y) * w y := by have := Int.tmod_add_tdiv_mul (w x) (w y); omega
  rw [h, Int32.ofInt_sub, Int32.ofInt_sub, Int32.ofInt_mul, Int32.ofInt_mul, n_w, n_w]
theorem n_lrem {x y : Int} : Int64.ofInt x - Int64.ofInt x / Int64.ofInt y * Int64.ofInt y = Int64.ofInt ((wl x).tmod (wl y)) := by
  rw [n_ldiv, n_lmul, n_lsub]
  have h : (wl x).tmod (wl y) = wl x - (wl x).tdiv (wl y) * wl y := by have := Int.tmod_add_tdiv_mul (wl x) (wl y); omega
  rw [h, Int64.ofInt_sub, Int64.ofInt_sub, Int64.ofInt_mul, Int64.ofInt_mul, n_wl, n_wl]
theorem n_i2l (x : Int) : (Int32.ofInt x).toInt64 = Int64.ofInt (w x) := by
  rw [← Int64.toInt_inj, Int32.toInt_toInt64, n_ti, n_tl, wl_of]
  · have := w_lo x; omega
  · have := w_hi x; omega
theorem n_l2i (x : Int) : (Int64.ofInt x).toInt32 = Int32.ofInt x := by
  rw [← Int32.toInt_inj, Int64.toInt_toInt32, n_ti, n_tl]
  unfold w wl
  exact Int.bmod_bmod_of_dvd (by decide)
theorem n_i2b (x : Int) : (Int32.ofInt x).toInt8.toInt32 = Int32.ofInt (Int.bmod x 256) := by
  rw [← Int32.toInt_inj, Int8.toInt_toInt32, Int32.toInt_toInt8, n_ti, n_ti]
  unfold w
  rw [Int.bmod_bmod_of_dvd (by decide)]
  show Int.bmod x 256 = _
  have h1 := @Int.le_bmod x 256 (by decide)
  have h2 := @Int.bmod_lt x 256 (by decide)
  exact (w_of (by omega) (by omega)).symm
theorem n_i2s (x : Int) : (Int32.ofInt x).toInt16.toInt32 = Int32.ofInt (Int.bmod x 65536) := by
  rw [← Int32.toInt_inj, Int16.toInt_toInt32, Int32.toInt_toInt16, n_ti, n_ti]
  unfold w
  rw [Int.bmod_bmod_of_dvd (by decide)]
  show Int.bmod x 65536 = _
  have h1 := @Int.le_bmod x 65536 (by decide)
  have h2 := @Int.bmod_lt x 65536 (by decide)
  exact (w_of (by omega) (by omega)).symm
theorem n_bip {n : Int} (h1 : -128 ≤ n) (h2 : n < 128) : (Int8.ofInt n).toInt32 = Int32.ofInt n := by
  rw [← Int32.toInt_inj, Int8.toInt_toInt32, n_ti, w_of (by omega) (by omega), Int8.toInt_ofInt]
  show Int.bmod n 256 = n
  rw [Int.bmod_def]; split <;> omega
theorem n_sip {n : Int} (h1 : -32768 ≤ n) (h2 : n < 32768) : (Int16.ofInt n).toInt32 = Int32.ofInt n := by
  rw [← Int32.toInt_inj, Int16.toInt_toInt32, n_ti, w_of (by omega) (by omega), Int16.toInt_ofInt]
  show Int.bmod n 65536 = n
  rw [Int.bmod_def]; split <;> omega
theorem n_nat (n : Nat) : Int32.ofNat n = Int32.ofInt n := Int32.ofInt_eq_ofNat.symm
theorem n_lnat (n : Nat) : Int64.ofNat n = Int64.ofInt n := Int64.ofInt_eq_ofNat.symm
theorem n_cmp (x y : Int) : lg_cmp (Int64.ofInt x) (Int64.ofInt y) = Int32.ofInt (if wl x < wl y then -1 else if wl x = wl y then 0 else 1) := by
  unfold lg_cmp
  simp only [gt_iff_lt, n_llt, n_leq]
  by_cases h1 : wl x < wl y
  · rw [if_pos h1, if_neg (by omega), if_neg (by omega)]; rfl
  · rw [if_neg h1]
    by_cases h2 : wl x = wl y
    · rw [if_pos h2, if_neg (by omega), if_pos h2]; rfl
    · rw [if_pos (by omega : wl y < wl x), if_neg h2]; rfl
theorem n_sh (y : Int) : sh y < 32 := by unfold sh; omega
theorem n_shj (y : Int) : shj y < 64 := by unfold shj; omega
theorem n_m31 (y : Int) : (Int32.ofInt y &&& 31).toBitVec = BitVec.ofNat 32 (sh y) := by
  apply BitVec.eq_of_toNat_eq
  have h0 : (Int32.ofInt y &&& 31).toBitVec = BitVec.ofInt 32 y &&& 31#32 := rfl
  rw [h0, BitVec.toNat_and, BitVec.toNat_ofNat, BitVec.toNat_ofInt, BitVec.toNat_ofNat]
  rw [show (31 % 2 ^ 32 : Nat) = 2 ^ 5 - 1 from rfl, Nat.and_two_pow_sub_one_eq_mod]
  unfold sh
  omega
theorem n_smod : ∀ k : Fin 32, (BitVec.ofNat 32 k).smod 32#32 = BitVec.ofNat 32 k := by decide +kernel
theorem n_shl (x y : Int) : Int32.ofInt x <<< (Int32.ofInt y &&& 31) = Int32.ofInt (x * 2 ^ sh y) := by
  rw [← Int32.toBitVec_inj, Int32.toBitVec_shiftLeft, n_m31]
  have h := n_smod ⟨sh y, n_sh y⟩
  rw [show ((32 : BitVec 32)) = 32#32 from rfl, h]
  rw [BitVec.shiftLeft_eq', BitVec.toNat_ofNat, Nat.mod_eq_of_lt (Nat.lt_of_lt_of_le (n_sh y) (by decide)), BitVec.shiftLeft_eq_mul_twoPow]
  show BitVec.ofInt 32 x * _ = BitVec.ofInt 32 (x * 2 ^ sh y)
  rw [BitVec.ofInt_mul]
  congr 1
  apply BitVec.eq_of_toNat_eq
  rw [BitVec.toNat_twoPow, BitVec.toNat_ofInt]
  have : ((2 : Int) ^ sh y) = ((2 ^ sh y : Nat) : Int) := by norm_cast
  rw [this]
  omega
theorem n_shr (x y : Int) : Int32.ofInt x >>> (Int32.ofInt y &&& 31) = Int32.ofInt (w x / 2 ^ sh y) := by
  rw [← Int32.toInt_inj]
  have h := n_smod ⟨sh y, n_sh y⟩
  have e : (Int32.ofInt x >>> (Int32.ofInt y &&& 31)).toInt = ((Int32.ofInt x).toBitVec.sshiftRight' ((Int32.ofInt y &&& 31).toBitVec.smod 32#32)).toInt := rfl
  rw [e, n_m31, h, BitVec.sshiftRight_eq', BitVec.toNat_ofNat, Nat.mod_eq_of_lt (Nat.lt_of_lt_of_le (n_sh y) (by decide)), BitVec.toInt_sshiftRight]
  show (Int32.ofInt x).toInt >>> sh y = _
  rw [n_ti, n_ti, Int.shiftRight_eq_div_pow]
  have h1 := w_lo x
  have h2 := w_hi x
  have hp : (0 : Int) < 2 ^ sh y := Int.pow_pos (by decide)
  have : ((2 ^ sh y : Nat) : Int) = (2 : Int) ^ sh y := by norm_cast
  rw [this]
  generalize (2 : Int) ^ sh y = q at *
  have a1 : w x / q ≤ w x ∨ w x / q ≤ 0 := by
    rcases Int.le_total 0 (w x) with z | z
    · exact Or.inl (Int.ediv_le_self _ z)
    · exact Or.inr (by have := (Int.ediv_lt_iff_lt_mul (a := w x) (b := 1) hp).mpr (by omega); omega)
  have a2 : -2147483648 ≤ w x / q := by
    rw [Int.le_ediv_iff_mul_le hp]
    have : -2147483648 * q ≤ -2147483648 * 1 := Int.mul_le_mul_of_nonpos_left (by decide) (by omega)
    omega
  exact (w_of a2 (by omega)).symm
theorem n_i2c (x : Int) : ((Int32.ofInt x).toUInt32 % 65536).toInt32 = Int32.ofInt (x % 65536) := by
  rw [← Int32.toBitVec_inj]
  apply BitVec.eq_of_toNat_eq
  show (BitVec.ofInt 32 x % 65536#32).toNat = (BitVec.ofInt 32 (x % 65536)).toNat
  rw [BitVec.toNat_umod]
  rw [BitVec.toNat_ofInt, BitVec.toNat_ofInt, BitVec.toNat_ofNat, show (65536 % 2 ^ 32 : Nat) = 65536 from rfl]
  omega
theorem n_ushr (x y : Int) : ((Int32.ofInt x).toUInt32 >>> ((Int32.ofInt y).toUInt32 &&& Int32.toUInt32 31)).toInt32 = Int32.ofInt (x % 4294967296 / 2 ^ sh y) := by
  rw [← Int32.toBitVec_inj]
  apply BitVec.eq_of_toNat_eq
  have hm : ((Int32.ofInt y).toUInt32 &&& Int32.toUInt32 31) = UInt32.ofNat (sh y) := by
    rw [← UInt32.toBitVec_inj]
    exact n_m31 y
  rw [hm]
  show ((BitVec.ofInt 32 x) >>> ((BitVec.ofNat 32 (sh y)) % 32#32)).toNat = (BitVec.ofInt 32 _).toNat
  have hk := n_sh y
  rw [BitVec.ushiftRight_eq', BitVec.toNat_ushiftRight, BitVec.toNat_umod, BitVec.toNat_ofNat, BitVec.toNat_ofNat, BitVec.toNat_ofInt, BitVec.toNat_ofInt, Nat.shiftRight_eq_div_pow]
  rw [show (32 % 2 ^ 32 : Nat) = 32 from rfl, Nat.mod_eq_of_lt (Nat.lt_of_lt_of_le hk (by decide)), Nat.mod_eq_of_lt hk]
  have : ((2 : Int) ^ sh y) = ((2 ^ sh y : Nat) : Int) := by norm_cast
  rw [this]
  have hp : 0 < 2 ^ sh y := Nat.pow_pos (by decide)
  generalize 2 ^ sh y = q at *
  have hz : x % ((2 ^ 32 : Nat) : Int) = ((x % 4294967296).toNat : Int) := by omega
  rw [hz]
  generalize hz2 : (x % 4294967296).toNat = z
  have hz3 : x % 4294967296 = (z : Int) := by omega
  rw [hz3]
  have hzl : z < 4294967296 := by omega
  rw [Int.toNat_natCast, ← Int.natCast_ediv]
  have : z / q < 4294967296 := Nat.lt_of_le_of_lt (Nat.div_le_self z q) hzl
  rw [← Int.natCast_emod, Int.toNat_natCast, Nat.mod_eq_of_lt (by omega)]
theorem n_m63 (y : Int) : ((Int32.ofInt y).toInt64 &&& 63).toBitVec = BitVec.ofNat 64 (shj y) := by
  apply BitVec.eq_of_toNat_eq
  rw [n_i2l]
  have h0 : (Int64.ofInt (w y) &&& 63).toBitVec = BitVec.ofInt 64 (w y) &&& 63#64 := rfl
  rw [h0, BitVec.toNat_and, BitVec.toNat_ofNat, BitVec.toNat_ofInt, BitVec.toNat_ofNat]
  rw [show (63 % 2 ^ 64 : Nat) = 2 ^ 6 - 1 from rfl, Nat.and_two_pow_sub_one_eq_mod]
  have h1 : w y % 64 = y % 64 := by unfold w; rw [Int.bmod_def]; split <;> omega
  unfold shj
  omega
theorem n_smodj : ∀ k : Fin 64, (BitVec.ofNat 64 k).smod 64#64 = BitVec.ofNat 64 k := by decide +kernel
theorem n_lshl (x y : Int) : Int64.ofInt x <<< ((Int32.ofInt y).toInt64 &&& 63) = Int64.ofInt (x * 2 ^ shj y) := by
  rw [← Int64.toBitVec_inj, Int64.toBitVec_shiftLeft, n_m63]
  have h := n_smodj ⟨shj y, n_shj y⟩
  rw [show ((64 : BitVec 64)) = 64#64 from rfl, h]
  rw [BitVec.shiftLeft_eq', BitVec.toNat_ofNat, Nat.mod_eq_of_lt (Nat.lt_of_lt_of_le (n_shj y) (by decide)), BitVec.shiftLeft_eq_mul_twoPow]
  show BitVec.ofInt 64 x * _ = BitVec.ofInt 64 (x * 2 ^ shj y)
  rw [BitVec.ofInt_mul]
  congr 1
  apply BitVec.eq_of_toNat_eq
  rw [BitVec.toNat_twoPow, BitVec.toNat_ofInt]
  have : ((2 : Int) ^ shj y) = ((2 ^ shj y : Nat) : Int) := by norm_cast
  rw [this]
  omega
theorem n_lshr (x y : Int) : Int64.ofInt x >>> ((Int32.ofInt y).toInt64 &&& 63) = Int64.ofInt (wl x / 2 ^ shj y) := by
  rw [← Int64.toInt_inj]
  have h := n_smodj ⟨shj y, n_shj y⟩
  have e : (Int64.ofInt x >>> ((Int32.ofInt y).toInt64 &&& 63)).toInt = ((Int64.ofInt x).toBitVec.sshiftRight' (((Int32.ofInt y).toInt64 &&& 63).toBitVec.smod 64#64)).toInt := rfl
  rw [e, n_m63, h, BitVec.sshiftRight_eq', BitVec.toNat_ofNat, Nat.mod_eq_of_lt (Nat.lt_of_lt_of_le (n_shj y) (by decide)), BitVec.toInt_sshiftRight]
  show (Int64.ofInt x).toInt >>> shj y = _
  rw [n_tl, n_tl, Int.shiftRight_eq_div_pow]
  have h1 : -9223372036854775808 ≤ wl x := by unfold wl; rw [Int.bmod_def]; split <;> omega
  have h2 : wl x < 9223372036854775808 := by unfold wl; rw [Int.bmod_def]; split <;> omega
  have hp : (0 : Int) < 2 ^ shj y := Int.pow_pos (by decide)
  have : ((2 ^ shj y : Nat) : Int) = (2 : Int) ^ shj y := by norm_cast
  rw [this]
  generalize (2 : Int) ^ shj y = q at *
  have a1 : wl x / q ≤ wl x ∨ wl x / q ≤ 0 := by
    rcases Int.le_total 0 (wl x) with z | z
    · exact Or.inl (Int.ediv_le_self _ z)
    · exact Or.inr (by have := (Int.ediv_lt_iff_lt_mul (a := wl x) (b := 1) hp).mpr (by omega); omega)
  have a2 : -9223372036854775808 ≤ wl x / q := by
    rw [Int.le_ediv_iff_mul_le hp]
    have : -9223372036854775808 * q ≤ -9223372036854775808 * 1 := Int.mul_le_mul_of_nonpos_left (by decide) (by omega)
    omega
  exact (wl_of a2 (by omega)).symm
