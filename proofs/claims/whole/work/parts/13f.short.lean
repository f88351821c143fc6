/-! the digits that tell a real: which ratios have it as their nearest -/
theorem low_iff {U D U' D' : Nat} (hD : 0 < D) (hD' : 0 < D') : (lowu U D = lowu U' D' ∧ lowd U D = lowd U' D') ↔ U * D' = U' * D := by
  constructor
  · rintro ⟨h1, h2⟩
    obtain ⟨a1, a2⟩ := low_mul (U := U) (D := D)
    obtain ⟨b1, b2⟩ := low_mul (U := U') (D := D')
    rw [h1] at a1
    rw [h2] at a2
    generalize Nat.gcd U D = g at *
    generalize Nat.gcd U' D' = g' at *
    generalize lowu U' D' = x at *
    generalize lowd U' D' = y at *
    subst a1 a2 b1 b2
    ac_rfl
  · intro h
    exact low_ratio hD hD' h
/-- two numbers of 53 bits times powers of 2 are worth the same -/
theorem bin_same {q M : Nat} {a b : Int} (hq : 4503599627370496 ≤ q ∧ q ≤ 9007199254740992) (hM : 4503599627370496 ≤ M ∧ M < 9007199254740992) :
    su q (-a) * sd 1 (-b) = su M (-b) * sd 1 (-a) ↔ (a = b ∧ q = M) ∨ (a = b + 1 ∧ q = 9007199254740992 ∧ M = 4503599627370496) := by
  have key : su q (-a) * sd 1 (-b) = su M (-b) * sd 1 (-a) ↔ q * 2 ^ (b - a).toNat = M * 2 ^ (a - b).toNat := by
    unfold su sd
    rw [Int.neg_neg, Int.neg_neg, Nat.one_mul, Nat.one_mul, Nat.mul_assoc, Nat.mul_assoc, ← Nat.pow_add, ← Nat.pow_add]
    by_cases h : a ≤ b
    · have e1 : (-a).toNat + b.toNat = (b - a).toNat + ((-b).toNat + a.toNat) := by omega
      rw [e1, Nat.pow_add 2 (b - a).toNat, ← Nat.mul_assoc, show (a - b).toNat = 0 by omega, Nat.pow_zero, Nat.mul_one]
      exact ⟨fun h => Nat.eq_of_mul_eq_mul_right (Nat.two_pow_pos _) h, fun h => by rw [h]⟩
    · have e1 : (-b).toNat + a.toNat = (a - b).toNat + ((-a).toNat + b.toNat) := by omega
      rw [e1, Nat.pow_add 2 (a - b).toNat, ← Nat.mul_assoc M, show (b - a).toNat = 0 by omega, Nat.pow_zero, Nat.mul_one]
      exact ⟨fun h => Nat.eq_of_mul_eq_mul_right (Nat.two_pow_pos _) h, fun h => by rw [h]⟩
  rw [key]
  constructor
  · intro h
    by_cases c1 : a = b
    · subst c1
      rw [Int.sub_self, Int.toNat_zero, Nat.pow_zero, Nat.mul_one, Nat.mul_one] at h
      exact Or.inl ⟨rfl, h⟩
    · by_cases c2 : a < b
      · have h2 : 2 ≤ 2 ^ (b - a).toNat := by
          have := Nat.pow_le_pow_right (n := 2) (by decide) (show 1 ≤ (b - a).toNat by omega)
          omega
        rw [show (a - b).toNat = 0 by omega, Nat.pow_zero, Nat.mul_one] at h
        have h3 : q * 2 ≤ q * 2 ^ (b - a).toNat := Nat.mul_le_mul_left _ h2
        omega
      · rw [show (b - a).toNat = 0 by omega, Nat.pow_zero, Nat.mul_one] at h
        by_cases c3 : a = b + 1
        · subst c3
          rw [show (b + 1 - b).toNat = 1 by omega, Nat.pow_one] at h
          exact Or.inr ⟨rfl, by omega, by omega⟩
        · have h2 : 4 ≤ 2 ^ (a - b).toNat := by
            have := Nat.pow_le_pow_right (n := 2) (by decide) (show 2 ≤ (a - b).toNat by omega)
            omega
          have h3 : M * 4 ≤ M * 2 ^ (a - b).toNat := Nat.mul_le_mul_left _ h2
          omega
  · rintro (⟨rfl, rfl⟩ | ⟨rfl, rfl, rfl⟩)
    · rfl
    · rw [show (b + 1 - b).toNat = 1 by omega, show (b - (b + 1)).toNat = 0 by omega]
