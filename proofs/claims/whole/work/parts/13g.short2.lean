/-! rounding -/
/-- between the bounds of what is rounded to M; in quarters -/
def bnd (Y4 E M : Nat) : Prop :=
  ((if M = 4503599627370496 then 4 * M - 1 else 4 * M - 2) * E < Y4 ∨ ((if M = 4503599627370496 then 4 * M - 1 else 4 * M - 2) * E = Y4 ∧ M % 2 = 0)) ∧ (Y4 < (4 * M + 2) * E ∨ (Y4 = (4 * M + 2) * E ∧ M % 2 = 0))
theorem rnd_iff {Y E M : Nat} (hE : 0 < E) (hM : 1 ≤ M) : rnd (Y / E) (Y % E) E = M ↔ (((4 * M - 2) * E < 4 * Y ∨ ((4 * M - 2) * E = 4 * Y ∧ M % 2 = 0)) ∧ (4 * Y < (4 * M + 2) * E ∨ (4 * Y = (4 * M + 2) * E ∧ M % 2 = 0))) := by
  have hd : E * (Y / E) + Y % E = Y := Nat.div_add_mod Y E
  have hr := Nat.mod_lt Y hE
  generalize hq : Y / E = q at *
  generalize hrr : Y % E = r at *
  have e1 : (4 * M - 2) * E = 4 * (E * M) - 2 * E := by rw [Nat.sub_mul, Nat.mul_assoc, Nat.mul_comm M E]
  have e2 : (4 * M + 2) * E = 4 * (E * M) + 2 * E := by rw [Nat.add_mul, Nat.mul_assoc, Nat.mul_comm M E]
  have e3 : E ≤ E * M := Nat.le_mul_of_pos_right _ hM
  rw [e1, e2]
  unfold rnd
  rcases Nat.lt_trichotomy M q with c | c | c
  · have h1 : E * (M + 1) ≤ E * q := Nat.mul_le_mul_left _ c
    rw [Nat.mul_add, Nat.mul_one] at h1
    constructor
    · intro h; split at h <;> omega
    · intro h; omega
  · subst c
    generalize E * M = P at *
    constructor
    · intro h
      split at h
      · omega
      · rename_i h5
        have h6 : ¬ E < 2 * r := fun w => h5 (Or.inl w)
        have h7 : E = 2 * r → M % 2 = 0 := fun w => by
          apply Classical.byContradiction
          intro w2
          exact h5 (Or.inr ⟨w, by omega⟩)
        by_cases h8 : E = 2 * r
        · have := h7 h8; omega
        · omega
    · intro h
      split <;> omega
  · by_cases c2 : M = q + 1
    · subst c2
      rw [Nat.mul_add, Nat.mul_one] at *
      generalize E * q = P at *
      constructor
      · intro h
        split at h
        · omega
        · omega
      · intro h
        split <;> omega
    · have h1 : E * (q + 2) ≤ E * M := Nat.mul_le_mul_left _ (by omega)
      rw [Nat.mul_add] at h1
      constructor
      · intro h; split at h <;> omega
      · intro h; omega
