/-! exponents of 10 -/
/-- e is the exponent of 10 of u / d -/
def rch (u d : Nat) (e : Int) : Prop := d * 10 ^ e.toNat ≤ u * 10 ^ (-e).toNat
def isX (u d : Nat) (e : Int) : Prop := rch u d e ∧ ¬ rch u d (e + 1)
theorem ten_cross {u d : Nat} {s t : Int} (h : s ≤ t) : d * 10 ^ t.toNat * (u * 10 ^ (-s).toNat) = 10 ^ (t - s).toNat * (d * 10 ^ s.toNat * (u * 10 ^ (-t).toNat)) := by
  have e : 10 ^ t.toNat * 10 ^ (-s).toNat = 10 ^ (t - s).toNat * (10 ^ s.toNat * 10 ^ (-t).toNat) := by
    rw [← Nat.pow_add, ← Nat.pow_add, ← Nat.pow_add]; congr 1; omega
  have : d * 10 ^ t.toNat * (u * 10 ^ (-s).toNat) = d * u * (10 ^ t.toNat * 10 ^ (-s).toNat) := by ac_rfl
  rw [this, e]
  ac_rfl
theorem rch_mono {u d : Nat} {s t : Int} (hu : 0 < u) (hst : s ≤ t) (h : rch u d t) : rch u d s := by
  unfold rch at *
  have c := ten_cross (u := u) (d := d) hst
  have p : 0 < u * 10 ^ (-t).toNat := Nat.mul_pos hu (Nat.pow_pos (by decide))
  have q : 0 < 10 ^ (t - s).toNat := Nat.pow_pos (by decide)
  have h2 : d * 10 ^ t.toNat * (u * 10 ^ (-s).toNat) ≤ u * 10 ^ (-t).toNat * (u * 10 ^ (-s).toNat) := Nat.mul_le_mul_right _ h
  rw [c] at h2
  have h3 : d * 10 ^ s.toNat * (u * 10 ^ (-t).toNat) ≤ 10 ^ (t - s).toNat * (d * 10 ^ s.toNat * (u * 10 ^ (-t).toNat)) := Nat.le_mul_of_pos_left _ q
  have h4 : u * 10 ^ (-s).toNat * (u * 10 ^ (-t).toNat) = u * 10 ^ (-t).toNat * (u * 10 ^ (-s).toNat) := Nat.mul_comm _ _
  exact Nat.le_of_mul_le_mul_right (by omega) p
theorem isX_uniq {u d : Nat} {s t : Int} (hu : 0 < u) (h1 : isX u d s) (h2 : isX u d t) : s = t := by
  apply Classical.byContradiction
  intro h
  by_cases c : s < t
  · exact h1.2 (rch_mono hu (show s + 1 ≤ t by omega) h2.1)
  · exact h2.2 (rch_mono hu (show t + 1 ≤ s by omega) h1.1)
theorem isX_ex {u d : Nat} {a : Int} : ∀ n : Nat, rch u d a → ¬ rch u d (a + n) → ∃ e, a ≤ e ∧ e < a + n ∧ isX u d e := by
  intro n
  induction n with
  | zero => intro h1 h2; exact absurd (by rw [show a + ((0 : Nat) : Int) = a by omega]; exact h1) h2
  | succ n ih =>
    intro h1 h2
    by_cases c : rch u d (a + n)
    · exact ⟨a + n, by omega, by omega, c, by rw [show a + (n : Int) + 1 = a + ((n + 1 : Nat) : Int) by omega]; exact h2⟩
    · obtain ⟨e, h3, h4, h5⟩ := ih h1 c
      exact ⟨e, h3, by omega, h5⟩
theorem rch_ratio {u d u' d' : Nat} (hd : 0 < d) (hd' : 0 < d') (h : u * d' = u' * d) (e : Int) : rch u d e ↔ rch u' d' e := by
  have key : ∀ {u d u' d' : Nat}, 0 < d → u * d' = u' * d → rch u d e → rch u' d' e := by
    intro u d u' d' hd h h1
    unfold rch at *
    have h2 : d * 10 ^ e.toNat * d' ≤ u * 10 ^ (-e).toNat * d' := Nat.mul_le_mul_right _ h1
    have h3 : u * 10 ^ (-e).toNat * d' = u' * 10 ^ (-e).toNat * d := by rw [Nat.mul_right_comm, h, Nat.mul_right_comm]
    have h4 : d * 10 ^ e.toNat * d' = d' * 10 ^ e.toNat * d := by ac_rfl
    rw [h3, h4] at h2
    exact Nat.le_of_mul_le_mul_right h2 hd
  exact ⟨key hd h, key hd' h.symm⟩
theorem isX_ratio {u d u' d' : Nat} (hd : 0 < d) (hd' : 0 < d') (h : u * d' = u' * d) (e : Int) : isX u d e ↔ isX u' d' e := by
  unfold isX
  rw [rch_ratio hd hd' h, rch_ratio hd hd' h]
theorem isX_b {u d : Nat} (hu : 0 < u) (hd : 0 < d) (hu2 : u < 2 ^ 168) (hd2 : d < 2 ^ 168) : ∃ e, -60 ≤ e ∧ e < 60 ∧ isX u d e := by
  have h0 := isX_ex (u := u) (d := d) (a := -60) 120 ?_ ?_
  · obtain ⟨e, e1, e2, e3⟩ := h0
    exact ⟨e, e1, by omega, e3⟩
  · unfold rch
    rw [show (-60 : Int).toNat = 0 by omega, show (-(-60) : Int).toNat = 60 by omega, Nat.pow_zero]
    have : 1 * 10 ^ 60 ≤ u * 10 ^ 60 := Nat.mul_le_mul_right _ hu
    have h2 : (2 : Nat) ^ 168 ≤ 1 * 10 ^ 60 := by decide +kernel
    omega
  · unfold rch
    rw [show (-60 + ((120 : Nat) : Int)).toNat = 60 by omega, show (-(-60 + ((120 : Nat) : Int))).toNat = 0 by omega, Nat.pow_zero]
    have : 1 * 10 ^ 60 ≤ d * 10 ^ 60 := Nat.mul_le_mul_right _ hd
    have h2 : (2 : Nat) ^ 168 ≤ 1 * 10 ^ 60 := by decide +kernel
    omega
noncomputable def expo (u d : Nat) : Int := Classical.epsilon (fun e : Int => isX u d e)
theorem expo_eq {u d : Nat} {e : Int} (hu : 0 < u) (h : isX u d e) : expo u d = e := by
  exact isX_uniq hu (Classical.epsilon_spec (p := fun e : Int => isX u d e) ⟨e, h⟩) h
/-- G times 10^n has the real u / d as its nearest -/
def lead (u d : Nat) (n : Int) (G : Nat) : Prop := near 1 (G * 10 ^ n.toNat) (1 * 10 ^ (-n).toNat) = some (2, 1, u, d)
theorem lead_d (u d : Nat) (n : Int) (G : Nat) : lead u d n G ∨ ¬ lead u d n G := Classical.em _
/-- the m digits at exponent e that tell u / d -/
noncomputable def shN (u d : Nat) (e : Int) (m : Nat) : Option Nat :=
  let A := u * 10 ^ ((m : Int) - 1 - e).toNat
  let B := d * 10 ^ (-((m : Int) - 1 - e)).toNat
  if near 1 (A / B * 10 ^ (e + 1 - m).toNat) (1 * 10 ^ (-(e + 1 - m)).toNat) = some (2, 1, u, d) ∧ (¬ near 1 ((A / B + 1) * 10 ^ (e + 1 - m).toNat) (1 * 10 ^ (-(e + 1 - m)).toNat) = some (2, 1, u, d) ∨ A % B * 2 < B ∨ (A % B * 2 = B ∧ A / B % 2 = 0)) then some (A / B)
  else if near 1 ((A / B + 1) * 10 ^ (e + 1 - m).toNat) (1 * 10 ^ (-(e + 1 - m)).toNat) = some (2, 1, u, d) then some (A / B + 1) else none
noncomputable def shG (u d : Nat) (e : Int) : Nat → Nat → Nat × Nat
  | 0, m => (m, 0)
  | f + 1, m => match shN u d e m with
    | some h => (m, h)
    | none => shG u d e f (m + 1)
