/-! ints and longs by integers -/
def iI (z : Int) : Int32 := Int32.ofInt z
def lI (z : Int) : Int64 := Int64.ofInt z
theorem iI_add (a b : Int) : iI a + iI b = iI (a + b) := (Int32.ofInt_add a b).symm
theorem iI_sub (a b : Int) : iI a - iI b = iI (a - b) := (Int32.ofInt_sub a b).symm
theorem iI_mul (a b : Int) : iI a * iI b = iI (a * b) := (Int32.ofInt_mul a b).symm
theorem iI_neg (a : Int) : -iI a = iI (-a) := (Int32.ofInt_neg a).symm
theorem lI_add (a b : Int) : lI a + lI b = lI (a + b) := (Int64.ofInt_add a b).symm
theorem lI_sub (a b : Int) : lI a - lI b = lI (a - b) := (Int64.ofInt_sub a b).symm
theorem lI_mul (a b : Int) : lI a * lI b = lI (a * b) := (Int64.ofInt_mul a b).symm
theorem lI_neg (a : Int) : -lI a = lI (-a) := (Int64.ofInt_neg a).symm
theorem iI_of (x : Int32) : iI x.toInt = x := Int32.ofInt_toInt x
theorem lI_of (x : Int64) : lI x.toInt = x := Int64.ofInt_toInt x
/-- in the range of an int, of a long -/
abbrev inI (a : Int) : Prop := -2147483648 ≤ a ∧ a ≤ 2147483647
abbrev inL (a : Int) : Prop := -9223372036854775808 ≤ a ∧ a ≤ 9223372036854775807
theorem iI_toInt {a : Int} (h : inI a) : (iI a).toInt = a := Int32.toInt_ofInt_of_le (by omega) (by omega)
theorem lI_toInt {a : Int} (h : inL a) : (lI a).toInt = a := Int64.toInt_ofInt_of_le (by omega) (by omega)
theorem iI_rng (x : Int32) : inI x.toInt := ⟨Int32.le_toInt x, by have := Int32.toInt_lt x; omega⟩
theorem lI_rng (x : Int64) : inL x.toInt := ⟨Int64.le_toInt x, by have := Int64.toInt_lt x; omega⟩
theorem iI_ex (x : Int32) : ∃ z : Int, x = iI z ∧ inI z := ⟨x.toInt, (iI_of x).symm, iI_rng x⟩
theorem lI_ex (x : Int64) : ∃ z : Int, x = lI z ∧ inL z := ⟨x.toInt, (lI_of x).symm, lI_rng x⟩
theorem iI_eq {a b : Int} (ha : inI a) (hb : inI b) : iI a = iI b ↔ a = b := by rw [← Int32.toInt_inj, iI_toInt ha, iI_toInt hb]
theorem lI_eq {a b : Int} (ha : inL a) (hb : inL b) : lI a = lI b ↔ a = b := by rw [← Int64.toInt_inj, lI_toInt ha, lI_toInt hb]
theorem iI_lt {a b : Int} (ha : inI a) (hb : inI b) : iI a < iI b ↔ a < b := by rw [Int32.lt_iff_toInt_lt, iI_toInt ha, iI_toInt hb]
theorem iI_le {a b : Int} (ha : inI a) (hb : inI b) : iI a ≤ iI b ↔ a ≤ b := by rw [Int32.le_iff_toInt_le, iI_toInt ha, iI_toInt hb]
theorem lI_lt {a b : Int} (ha : inL a) (hb : inL b) : lI a < lI b ↔ a < b := by rw [Int64.lt_iff_toInt_lt, lI_toInt ha, lI_toInt hb]
theorem lI_le {a b : Int} (ha : inL a) (hb : inL b) : lI a ≤ lI b ↔ a ≤ b := by rw [Int64.le_iff_toInt_le, lI_toInt ha, lI_toInt hb]
theorem iI_0 : iI 0 = 0 := rfl
theorem lI_0 : lI 0 = 0 := rfl
theorem iI_i2l {a : Int} (h : inI a) : (iI a).toInt64 = lI a := by
  rw [← Int64.toInt_inj, Int32.toInt_toInt64, iI_toInt h, lI_toInt (by omega)]
theorem iI_l2i (a : Int) : (lI a).toInt32 = iI a := Int64.toInt32_ofInt
theorem iI_clamp {a : Int} (h : inI a) (h0 : 0 ≤ a) : (iI a).toNatClampNeg = a.toNat := by
  have := Int32.toNat_toInt (iI a)
  rw [iI_toInt h] at this
  exact this.symm
theorem iI_in {a : Int} {n : Nat} (h : inI a) : vp_in (iI a) n ↔ 0 ≤ a ∧ a < n := by
  rw [vp_in_iff, iI_toInt h]
theorem iI_wrap {a b : Int} (h : a % 4294967296 = b % 4294967296) : iI a = iI b := by
  apply Int32.toInt_inj.mp
  rw [iI, iI, Int32.toInt_ofInt, Int32.toInt_ofInt]
  simp only [Int.bmod_def]
  rw [show ((Int32.size : Nat) : Int) = 4294967296 from rfl, h]
theorem lI_wrap {a b : Int} (h : a % 18446744073709551616 = b % 18446744073709551616) : lI a = lI b := by
  apply Int64.toInt_inj.mp
  rw [lI, lI, Int64.toInt_ofInt, Int64.toInt_ofInt]
  simp only [Int.bmod_def]
  rw [show ((Int64.size : Nat) : Int) = 18446744073709551616 from rfl, h]
theorem i2p_le {k n : Nat} (h : k ≤ n) : (2 ^ k : Int) ≤ 2 ^ n := by
  exact_mod_cast Nat.pow_le_pow_right (by decide : 0 < 2) h
theorem i2p_pos (k : Nat) : (0 : Int) < 2 ^ k := by
  exact_mod_cast Nat.two_pow_pos k
theorem i2p_cast (k : Nat) : ((2 ^ k : Nat) : Int) = (2 ^ k : Int) := by push_cast; rfl
theorem iI_mod {a : Int} : (iI a).toBitVec.toNat = (a % 4294967296).toNat := by
  rw [iI, Int32.toBitVec_ofInt, BitVec.toNat_ofInt]
  rfl
theorem lI_mod {a : Int} : (lI a).toBitVec.toNat = (a % 18446744073709551616).toNat := by
  rw [lI, Int64.toBitVec_ofInt, BitVec.toNat_ofInt]
  rfl
theorem iI_bv {x : Int32} {b : Int} (h : (x.toBitVec.toNat : Int) = b % 4294967296) : x = iI b := by
  apply Int32.toBitVec_inj.mp
  apply BitVec.eq_of_toNat_eq
  rw [iI_mod]
  omega
theorem lI_bv {x : Int64} {b : Int} (h : (x.toBitVec.toNat : Int) = b % 18446744073709551616) : x = lI b := by
  apply Int64.toBitVec_inj.mp
  apply BitVec.eq_of_toNat_eq
  rw [lI_mod]
  omega
/-! masks -/
theorem iI_and {a : Int} (k : Nat) (hk : k ≤ 31) : iI a &&& iI (2 ^ k - 1) = iI (a % 2 ^ k) := by
  apply iI_bv
  have e : (iI (2 ^ k - 1)).toBitVec.toNat = 2 ^ k - 1 := by
    rw [iI_mod]
    have : (2 ^ k : Int) ≤ 2 ^ 31 := i2p_le hk
    have h1 : (1 : Int) ≤ 2 ^ k := i2p_pos _
    have h2 : ((2 ^ k : Nat) : Int) = (2 ^ k : Int) := by push_cast; rfl
    omega
  rw [Int32.toBitVec_and, BitVec.toNat_and, e, Nat.and_two_pow_sub_one_eq_mod, iI_mod]
  have h2 : ((2 ^ k : Nat) : Int) = (2 ^ k : Int) := by push_cast; rfl
  have h3 : (2 ^ k : Int) ∣ 4294967296 := by
    rw [show (4294967296 : Int) = 2 ^ 32 from rfl]
    exact ⟨2 ^ (32 - k), by rw [← Int.pow_add]; congr 1; omega⟩
  have h4 : (0 : Int) < 2 ^ k := i2p_pos _
  have h5 : a % 4294967296 % 2 ^ k = a % 2 ^ k := Int.emod_emod_of_dvd a h3
  have h6 : (0 : Int) ≤ a % 4294967296 := by omega
  rw [Int.natCast_emod, h2, Int.toNat_of_nonneg h6, h5]
  have h7 : 0 ≤ a % 2 ^ k := Int.emod_nonneg _ (by omega)
  have h8 : a % 2 ^ k < 2 ^ k := Int.emod_lt_of_pos _ h4
  have h9 : (2 ^ k : Int) ≤ 2 ^ 31 := i2p_le hk
  omega
theorem lI_and {a : Int} (k : Nat) (hk : k ≤ 63) : lI a &&& lI (2 ^ k - 1) = lI (a % 2 ^ k) := by
  apply lI_bv
  have e : (lI (2 ^ k - 1)).toBitVec.toNat = 2 ^ k - 1 := by
    rw [lI_mod]
    have : (2 ^ k : Int) ≤ 2 ^ 63 := i2p_le hk
    have h1 : (1 : Int) ≤ 2 ^ k := i2p_pos _
    have h2 : ((2 ^ k : Nat) : Int) = (2 ^ k : Int) := by push_cast; rfl
    omega
  rw [Int64.toBitVec_and, BitVec.toNat_and, e, Nat.and_two_pow_sub_one_eq_mod, lI_mod]
  have h2 : ((2 ^ k : Nat) : Int) = (2 ^ k : Int) := by push_cast; rfl
  have h3 : (2 ^ k : Int) ∣ 18446744073709551616 := by
    rw [show (18446744073709551616 : Int) = 2 ^ 64 from rfl]
    exact ⟨2 ^ (64 - k), by rw [← Int.pow_add]; congr 1; omega⟩
  have h4 : (0 : Int) < 2 ^ k := i2p_pos _
  have h5 : a % 18446744073709551616 % 2 ^ k = a % 2 ^ k := Int.emod_emod_of_dvd a h3
  have h6 : (0 : Int) ≤ a % 18446744073709551616 := by omega
  rw [Int.natCast_emod, h2, Int.toNat_of_nonneg h6, h5]
  have h7 : 0 ≤ a % 2 ^ k := Int.emod_nonneg _ (by omega)
  have h8 : a % 2 ^ k < 2 ^ k := Int.emod_lt_of_pos _ h4
  have h9 : (2 ^ k : Int) ≤ 2 ^ 63 := i2p_le hk
  omega
/-! shifts by a known count -/
theorem s_i31 : ∀ n : Nat, n < 32 → ((iI n &&& 31).toBitVec.smod 32).toNat = n := by decide +kernel
theorem s_u31 : ∀ n : Nat, n < 32 → (((iI n).toUInt32 &&& Int32.toUInt32 31).toBitVec % 32).toNat = n := by decide +kernel
theorem s_i63 : ∀ n : Nat, n < 64 → ((iI n).toInt64 &&& 63) = lI n := by decide +kernel
theorem s_u63 : ∀ n : Nat, n < 64 → ((iI n).toInt64.toUInt64 &&& Int64.toUInt64 63) = UInt64.ofNat n := by decide +kernel
theorem s_m63 : ∀ n : Nat, n < 64 → (BitVec.ofNat 64 n).smod 64 = BitVec.ofNat 64 n := by decide +kernel
theorem i_emm (a b m : Int) : a % m * b % m = a * b % m := by
  rw [Int.mul_emod, Int.emod_emod, ← Int.mul_emod]
theorem iI_shr {a : Int} (h : inI a) (k : Nat) (hk : k ≤ 31) : iI a >>> (iI k &&& 31) = iI (a / 2 ^ k) := by
  rw [← iI_of (iI a >>> (iI k &&& 31))]
  congr 1
  rw [pk_shr _ _ k (s_i31 k (by omega)), iI_toInt h, Int.shiftRight_eq_div_pow, i2p_cast]
theorem iI_shl {a : Int} (k : Nat) (hk : k ≤ 31) : iI a <<< (iI k &&& 31) = iI (a * 2 ^ k) := by
  apply iI_bv
  rw [pk_shl _ _ k (s_i31 k (by omega)), iI_mod, Int.natCast_emod, Int.natCast_mul, i2p_cast, Int.toNat_of_nonneg (by omega)]
  exact i_emm a (2 ^ k) 4294967296
theorem iI_ushr {a : Int} (k : Nat) (hk : k ≤ 31) : ((iI a).toUInt32 >>> ((iI k).toUInt32 &&& Int32.toUInt32 31)).toInt32 = iI (a % 4294967296 / 2 ^ k) := by
  apply iI_bv
  rw [pk_ushr _ _ k (s_u31 k (by omega)), iI_mod, Int.natCast_ediv, i2p_cast, Int.toNat_of_nonneg (by omega)]
  have h4 := i2p_pos k
  have h1 : 0 ≤ a % 4294967296 / 2 ^ k := Int.ediv_nonneg (by omega) (by omega)
  have h2 : a % 4294967296 / 2 ^ k ≤ a % 4294967296 := Int.ediv_le_self _ (by omega)
  omega
theorem lI_shl {a : Int} (k : Nat) (hk : k ≤ 63) : lI a <<< ((iI k).toInt64 &&& 63) = lI (a * 2 ^ k) := by
  rw [s_i63 k (by omega)]
  apply lI_bv
  have e : (lI a <<< lI k).toBitVec = (lI a).toBitVec <<< ((lI k).toBitVec.smod 64) := rfl
  have e2 : (lI k).toBitVec = BitVec.ofNat 64 k := by
    apply BitVec.eq_of_toNat_eq
    rw [lI_mod, BitVec.toNat_ofNat]
    omega
  rw [e, e2, s_m63 k (by omega), BitVec.shiftLeft_eq', BitVec.toNat_shiftLeft, BitVec.toNat_ofNat, Nat.mod_eq_of_lt (by omega : k < 2 ^ 64), lI_mod, Nat.shiftLeft_eq, Int.natCast_emod, Int.natCast_mul, i2p_cast, Int.toNat_of_nonneg (by omega)]
  exact i_emm a (2 ^ k) 18446744073709551616
theorem lI_shr {a : Int} (h : inL a) (k : Nat) (hk : k ≤ 63) : lI a >>> ((iI k).toInt64 &&& 63) = lI (a / 2 ^ k) := by
  rw [s_i63 k (by omega), ← lI_of (lI a >>> lI k)]
  congr 1
  have e : (lI a >>> lI k).toBitVec = (lI a).toBitVec.sshiftRight' ((lI k).toBitVec.smod 64) := rfl
  have e2 : (lI k).toBitVec = BitVec.ofNat 64 k := by
    apply BitVec.eq_of_toNat_eq
    rw [lI_mod, BitVec.toNat_ofNat]
    omega
  show (lI a >>> lI k).toBitVec.toInt = _
  rw [e, e2, s_m63 k (by omega), BitVec.sshiftRight_eq', BitVec.toInt_sshiftRight, BitVec.toNat_ofNat, Nat.mod_eq_of_lt (by omega : k < 2 ^ 64)]
  show (lI a).toInt >>> k = _
  rw [lI_toInt h, Int.shiftRight_eq_div_pow, i2p_cast]
theorem lI_ushr {a : Int} (k : Nat) (hk : k ≤ 63) : ((lI a).toUInt64 >>> ((iI k).toInt64.toUInt64 &&& Int64.toUInt64 63)).toInt64 = lI (a % 18446744073709551616 / 2 ^ k) := by
  rw [s_u63 k (by omega)]
  apply lI_bv
  have e : (((lI a).toUInt64 >>> UInt64.ofNat k).toInt64).toBitVec.toNat = (lI a).toBitVec.toNat / 2 ^ k := by
    show ((lI a).toUInt64 >>> UInt64.ofNat k).toNat = _
    rw [UInt64.toNat_shiftRight, Nat.shiftRight_eq_div_pow]
    have e3 : (UInt64.ofNat k).toNat % 64 = k := by
      rw [UInt64.toNat_ofNat']
      omega
    rw [e3]
    rfl
  rw [e, lI_mod, Int.natCast_ediv, i2p_cast, Int.toNat_of_nonneg (by omega)]
  have h4 := i2p_pos k
  have h1 : 0 ≤ a % 18446744073709551616 / 2 ^ k := Int.ediv_nonneg (by omega) (by omega)
  have h2 : a % 18446744073709551616 / 2 ^ k ≤ a % 18446744073709551616 := Int.ediv_le_self _ (by omega)
  omega
/-! division -/
theorem iI_div {a b : Int} (ha : inI a) (hb : 0 < b ∧ b ≤ 2147483647) : iI a / iI b = iI (a.tdiv b) := by
  rw [← iI_of (iI a / iI b)]
  congr 1
  have hne : iI b ≠ -1 := fun h => by
    have : iI b = iI (-1) := h
    rw [iI_eq ⟨by omega, by omega⟩ ⟨by decide, by decide⟩] at this
    omega
  rw [Int32.toInt_div_of_ne_right _ _ hne, iI_toInt ha, iI_toInt ⟨by omega, by omega⟩]
theorem iI_rem {a b : Int} (ha : inI a) (hb : 0 < b ∧ b ≤ 2147483647) : iI a - iI a / iI b * iI b = iI (a.tmod b) := by
  rw [iI_div ha hb, iI_mul, iI_sub]
  congr 1
  have := Int.tmod_add_mul_tdiv a b
  rw [Int.mul_comm] at this
  omega
theorem lI_div {a b : Int} (ha : inL a) (hb : 0 < b ∧ b ≤ 9223372036854775807) : lI a / lI b = lI (a.tdiv b) := by
  rw [← lI_of (lI a / lI b)]
  congr 1
  have hne : lI b ≠ -1 := fun h => by
    have : lI b = lI (-1) := h
    rw [lI_eq ⟨by omega, by omega⟩ ⟨by decide, by decide⟩] at this
    omega
  rw [Int64.toInt_div_of_ne_right _ _ hne, lI_toInt ha, lI_toInt ⟨by omega, by omega⟩]
theorem lI_rem {a b : Int} (ha : inL a) (hb : 0 < b ∧ b ≤ 9223372036854775807) : lI a - lI a / lI b * lI b = lI (a.tmod b) := by
  rw [lI_div ha hb, lI_mul, lI_sub]
  congr 1
  have := Int.tmod_add_mul_tdiv a b
  rw [Int.mul_comm] at this
  omega
theorem i_tdiv {a b : Int} (h : 0 ≤ a) : a.tdiv b = a / b := Int.tdiv_eq_ediv_of_nonneg h
theorem i_tmod {a b : Int} (h : 0 ≤ a) : a.tmod b = a % b := Int.tmod_eq_emod_of_nonneg h
theorem iI_divn {a b : Int} (ha : 0 ≤ a ∧ a ≤ 2147483647) (hb : 0 < b ∧ b ≤ 2147483647) : iI a / iI b = iI (a / b) := by
  rw [iI_div ⟨by omega, ha.2⟩ hb, i_tdiv ha.1]
theorem iI_remn {a b : Int} (ha : 0 ≤ a ∧ a ≤ 2147483647) (hb : 0 < b ∧ b ≤ 2147483647) : iI a - iI a / iI b * iI b = iI (a % b) := by
  rw [iI_rem ⟨by omega, ha.2⟩ hb, i_tmod ha.1]
theorem lI_divn {a b : Int} (ha : 0 ≤ a ∧ a ≤ 9223372036854775807) (hb : 0 < b ∧ b ≤ 9223372036854775807) : lI a / lI b = lI (a / b) := by
  rw [lI_div ⟨by omega, ha.2⟩ hb, i_tdiv ha.1]
theorem lI_remn {a b : Int} (ha : 0 ≤ a ∧ a ≤ 9223372036854775807) (hb : 0 < b ∧ b ≤ 9223372036854775807) : lI a - lI a / lI b * lI b = lI (a % b) := by
  rw [lI_rem ⟨by omega, ha.2⟩ hb, i_tmod ha.1]
theorem nI_iI (n : Nat) : nI n = iI n := by
  apply Int32.toBitVec_inj.mp
  simp [nI, iI, Int32.ofInt, Int32.ofNat]
