/-! bits of naturals -/
theorem iI_tn {a : Nat} (h : a < 4294967296) : (iI a).toBitVec.toNat = a := by rw [iI_mod]; omega
theorem lI_tn {a : Nat} (h : a < 18446744073709551616) : (lI a).toBitVec.toNat = a := by rw [lI_mod]; omega
theorem iand_comm (a b : Int32) : a &&& b = b &&& a := Int32.and_comm a b
theorem land_comm (a b : Int64) : a &&& b = b &&& a := Int64.and_comm a b
theorem iI_ann {a b : Nat} (ha : a < 4294967296) (hb : b < 4294967296) : iI a &&& iI b = iI ((a &&& b : Nat) : Int) := by
  apply iI_bv
  rw [Int32.toBitVec_and, BitVec.toNat_and, iI_tn ha, iI_tn hb]
  have : a &&& b ≤ a := Nat.and_le_left
  omega
theorem iI_orn {a b : Nat} (ha : a < 4294967296) (hb : b < 4294967296) : iI a ||| iI b = iI ((a ||| b : Nat) : Int) := by
  apply iI_bv
  rw [Int32.toBitVec_or, BitVec.toNat_or, iI_tn ha, iI_tn hb]
  have : a ||| b < 2 ^ 32 := Nat.or_lt_two_pow ha hb
  omega
theorem iI_xorn {a b : Nat} (ha : a < 4294967296) (hb : b < 4294967296) : iI a ^^^ iI b = iI ((a ^^^ b : Nat) : Int) := by
  apply iI_bv
  rw [Int32.toBitVec_xor, BitVec.toNat_xor, iI_tn ha, iI_tn hb]
  have : a ^^^ b < 2 ^ 32 := Nat.xor_lt_two_pow ha hb
  omega
theorem lI_ann {a b : Nat} (ha : a < 18446744073709551616) (hb : b < 18446744073709551616) : lI a &&& lI b = lI ((a &&& b : Nat) : Int) := by
  apply lI_bv
  rw [Int64.toBitVec_and, BitVec.toNat_and, lI_tn ha, lI_tn hb]
  have : a &&& b ≤ a := Nat.and_le_left
  omega
theorem lI_orn {a b : Nat} (ha : a < 18446744073709551616) (hb : b < 18446744073709551616) : lI a ||| lI b = lI ((a ||| b : Nat) : Int) := by
  apply lI_bv
  rw [Int64.toBitVec_or, BitVec.toNat_or, lI_tn ha, lI_tn hb]
  have : a ||| b < 2 ^ 64 := Nat.or_lt_two_pow ha hb
  omega
theorem iI_andn {a : Nat} (k : Nat) (hk : k ≤ 31) : iI a &&& iI (2 ^ k - 1) = iI ((a % 2 ^ k : Nat) : Int) := by
  rw [iI_and k hk, Int.natCast_emod, i2p_cast]
theorem lI_andn {a : Nat} (k : Nat) (hk : k ≤ 63) : lI a &&& lI (2 ^ k - 1) = lI ((a % 2 ^ k : Nat) : Int) := by
  rw [lI_and k hk, Int.natCast_emod, i2p_cast]
theorem iI_shln {a : Nat} (k : Nat) (hk : k ≤ 31) : iI a <<< (iI k &&& 31) = iI ((a * 2 ^ k : Nat) : Int) := by
  rw [iI_shl k hk, Int.natCast_mul, i2p_cast]
theorem lI_shln {a : Nat} (k : Nat) (hk : k ≤ 63) : lI a <<< ((iI k).toInt64 &&& 63) = lI ((a * 2 ^ k : Nat) : Int) := by
  rw [lI_shl k hk, Int.natCast_mul, i2p_cast]
theorem iI_shrn {a : Nat} (h : a < 2147483648) (k : Nat) (hk : k ≤ 31) : iI a >>> (iI k &&& 31) = iI ((a / 2 ^ k : Nat) : Int) := by
  rw [iI_shr ⟨by omega, by omega⟩ k hk, Int.natCast_ediv, i2p_cast]
theorem lI_shrn {a : Nat} (h : a < 9223372036854775808) (k : Nat) (hk : k ≤ 63) : lI a >>> ((iI k).toInt64 &&& 63) = lI ((a / 2 ^ k : Nat) : Int) := by
  rw [lI_shr ⟨by omega, by omega⟩ k hk, Int.natCast_ediv, i2p_cast]
theorem iI_ushrn {a : Nat} (h : a < 4294967296) (k : Nat) (hk : k ≤ 31) : ((iI a).toUInt32 >>> ((iI k).toUInt32 &&& Int32.toUInt32 31)).toInt32 = iI ((a / 2 ^ k : Nat) : Int) := by
  rw [iI_ushr k hk, Int.emod_eq_of_lt (by omega) (by omega), Int.natCast_ediv, i2p_cast]
theorem lI_ushrn {a : Nat} (h : a < 18446744073709551616) (k : Nat) (hk : k ≤ 63) : ((lI a).toUInt64 >>> ((iI k).toInt64.toUInt64 &&& Int64.toUInt64 63)).toInt64 = lI ((a / 2 ^ k : Nat) : Int) := by
  rw [lI_ushr k hk, Int.emod_eq_of_lt (by omega) (by omega), Int.natCast_ediv, i2p_cast]
/-! all bits below the top one -/
def smear (v : Nat) : Nat := 
  let a := v ||| v / 2; let b := a ||| a / 4; let c := b ||| b / 16; let d := c ||| c / 256; let e := d ||| d / 65536; e ||| e / 4294967296
def smP (b k x : Nat) : Prop := (∀ i, b ≤ i → x.testBit i = false) ∧ ∀ i, i < b → b ≤ i + k → x.testBit i = true
theorem smP_step {b k x : Nat} (s : Nat) (h : smP b k x) (hs : s ≤ k) : smP b (k + s) (x ||| x / 2 ^ s) := by
  refine ⟨fun i hi => ?_, fun i hi hk => ?_⟩
  · rw [Nat.testBit_or, h.1 i hi, ← Nat.shiftRight_eq_div_pow, Nat.testBit_shiftRight, h.1 _ (by omega)]; rfl
  · rw [Nat.testBit_or, ← Nat.shiftRight_eq_div_pow, Nat.testBit_shiftRight]
    by_cases q : b ≤ i + k
    · rw [h.2 i hi q]; rfl
    · rw [h.2 (s + i) (by omega) (by omega)]; simp
theorem smP_0 {v : Nat} (hv : v ≠ 0) : smP (v.log2 + 1) 1 v := by
  refine ⟨fun i hi => Nat.testBit_lt_two_pow (Nat.lt_of_lt_of_le (Nat.lt_log2_self) (Nat.pow_le_pow_right (by decide) hi)), fun i hi hk => ?_⟩
  have : i = v.log2 := by omega
  subst this
  exact Nat.testBit_log2 hv
def blen (v : Nat) : Nat := if v = 0 then 0 else v.log2 + 1
theorem blen_le {v m : Nat} : blen v ≤ m ↔ v < 2 ^ m := by
  unfold blen
  split
  · subst_vars
    exact ⟨fun _ => Nat.two_pow_pos _, fun _ => Nat.zero_le _⟩
  · rename_i h
    rw [← Nat.log2_lt h]; omega
theorem blen_0 : blen 0 = 0 := rfl
theorem blen_pos {v : Nat} (h : v ≠ 0) : 0 < blen v := by unfold blen; rw [if_neg h]; omega
theorem blen_lt (v : Nat) : v < 2 ^ blen v := blen_le.mp (Nat.le_refl _)
theorem blen_ge {v : Nat} (h : v ≠ 0) : 2 ^ (blen v - 1) ≤ v := by
  apply Nat.le_of_not_lt
  intro q
  have := blen_le.mpr q
  have := blen_pos h
  omega
theorem smear_eq {v : Nat} (h : v < 2 ^ 63) : smear v = 2 ^ blen v - 1 := by
  by_cases hv : v = 0
  · subst hv; rfl
  · have hb : blen v = v.log2 + 1 := if_neg hv
    have hb63 : blen v ≤ 63 := blen_le.mpr h
    have h1 := smP_step 1 (smP_0 hv) (by decide)
    have h2 := smP_step 2 h1 (by decide)
    have h3 := smP_step 4 h2 (by decide)
    have h4 := smP_step 8 h3 (by decide)
    have h5 := smP_step 16 h4 (by decide)
    have h6 := smP_step 32 h5 (by decide)
    rw [← hb] at h6
    show _ = _
    apply Nat.eq_of_testBit_eq
    intro i
    rw [Nat.testBit_two_pow_sub_one]
    by_cases q : i < blen v
    · rw [decide_eq_true q]
      exact h6.2 i q (by omega)
    · rw [decide_eq_false q]
      exact h6.1 i (by omega)
