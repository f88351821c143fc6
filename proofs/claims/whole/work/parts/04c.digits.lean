/-! digits of naturals in base 2^w -/
def dgt (w n i : Nat) : Nat := n / 2 ^ (w * i) % 2 ^ w
def lnw (w n : Nat) : Nat := if n = 0 then 0 else n.log2 / w + 1
theorem lnw_0 (w : Nat) : lnw w 0 = 0 := by simp [lnw]
theorem lnw_le {w n m : Nat} (hw : 0 < w) : lnw w n ≤ m ↔ n < 2 ^ (w * m) := by
  unfold lnw
  split
  · subst_vars
    exact ⟨fun _ => Nat.two_pow_pos _, fun _ => Nat.zero_le _⟩
  · rename_i h
    rw [← Nat.log2_lt h, Nat.succ_le_iff, Nat.div_lt_iff_lt_mul hw, Nat.mul_comm]
theorem lnw_lt {w n : Nat} (hw : 0 < w) : n < 2 ^ (w * lnw w n) := (lnw_le hw).mp (Nat.le_refl _)
theorem dgt_lt (w n i : Nat) : dgt w n i < 2 ^ w := Nat.mod_lt _ (Nat.two_pow_pos _)
theorem dgt_zero {w n i : Nat} (h : n < 2 ^ (w * i)) : dgt w n i = 0 := by
  unfold dgt
  rw [Nat.div_eq_of_lt h, Nat.zero_mod]
theorem dgt_0 (w i : Nat) : dgt w 0 i = 0 := dgt_zero (Nat.two_pow_pos _)
theorem pw_succ (w i : Nat) : 2 ^ (w * (i + 1)) = 2 ^ (w * i) * 2 ^ w := by
  rw [Nat.mul_succ, Nat.pow_add]
theorem dgt_zeroL {w n i : Nat} (hw : 0 < w) (h : lnw w n ≤ i) : dgt w n i = 0 := dgt_zero ((lnw_le hw).mp h)
theorem low_succ (w n i : Nat) : n % 2 ^ (w * (i + 1)) = n % 2 ^ (w * i) + 2 ^ (w * i) * dgt w n i := by
  rw [pw_succ, Nat.mod_mul]
  rfl
theorem dgt_top {w n m : Nat} (hw : 0 < w) (h : lnw w n = m + 1) : dgt w n m ≠ 0 := by
  have h1 : n < 2 ^ (w * (m + 1)) := (lnw_le hw).mp (by omega)
  have h2 : ¬ n < 2 ^ (w * m) := fun q => by have := (lnw_le hw).mpr q; omega
  intro h0
  have h3 := low_succ w n m
  rw [Nat.mod_eq_of_lt h1, h0, Nat.mul_zero, Nat.add_zero] at h3
  have := Nat.mod_lt n (Nat.two_pow_pos (w * m))
  omega
theorem lnw_uniq {w n c L : Nat} (hw : 0 < w) (hL : lnw w n ≤ L) (h1 : c = 0 ∨ dgt w n (c - 1) ≠ 0) (h2 : ∀ j, c ≤ j → j < L → dgt w n j = 0) : c = lnw w n := by
  apply Nat.le_antisymm
  · rcases h1 with rfl | h1
    · exact Nat.zero_le _
    · apply Nat.le_of_not_lt
      intro h
      exact h1 (dgt_zeroL hw (by omega))
  · apply Nat.le_of_not_lt
    intro h
    obtain ⟨q, hq⟩ : ∃ q, lnw w n = q + 1 := ⟨lnw w n - 1, by omega⟩
    exact dgt_top hw hq (h2 q (by omega) (by omega))
theorem dgt_ext {w n m k : Nat} (hn : n < 2 ^ (w * k)) (hm : m < 2 ^ (w * k)) (h : ∀ i, i < k → dgt w n i = dgt w m i) : n = m := by
  have key : ∀ j, j ≤ k → n % 2 ^ (w * j) = m % 2 ^ (w * j) := by
    intro j
    induction j with
    | zero => intro _; simp [Nat.mod_one]
    | succ j ih =>
      intro hj
      rw [low_succ, low_succ, ih (by omega), h j (by omega)]
  have := key k (Nat.le_refl k)
  rwa [Nat.mod_eq_of_lt hn, Nat.mod_eq_of_lt hm] at this
/-- the carry, in the integers: adding c times b at the place of P -/
theorem z_carry (a b P B : Int) (hP : 0 < P) (hB : 0 < B) : (a + b) / P % B = (a / P % B + b / P % B + (a % P + b % P) / P) % B := by
  have h1 : (a + b) / P = a / P + b / P + (a % P + b % P) / P := by
    have e1 := Int.mul_ediv_add_emod a P
    have e2 := Int.mul_ediv_add_emod b P
    have : a + b = (a % P + b % P) + P * (a / P + b / P) := by rw [Int.mul_add]; omega
    rw [this, Int.add_mul_ediv_left _ _ (by omega)]
    omega
  rw [h1]
  simp only [Int.add_emod, Int.emod_emod]
theorem z_carry2 (a b P B : Int) (hP : 0 < P) (hB : 0 < B) : (a % (P * B) + b % (P * B)) / (P * B) = (a / P % B + b / P % B + (a % P + b % P) / P) / B := by
  have e : ∀ x : Int, x % (P * B) = x % P + P * (x / P % B) := fun x => by
    have h1 := Int.mul_ediv_add_emod x P
    have h2 := Int.mul_ediv_add_emod (x / P) B
    have h3 : x = (x % P + P * (x / P % B)) + (P * B) * (x / P / B) := by
      rw [Int.mul_assoc, Int.add_assoc, ← Int.mul_add, Int.add_comm (x / P % B), h2]; omega
    have h4 : 0 ≤ x % P := Int.emod_nonneg _ (by omega)
    have h5 : x % P < P := Int.emod_lt_of_pos _ hP
    have h6 : 0 ≤ x / P % B := Int.emod_nonneg _ (by omega)
    have h7 : x / P % B < B := Int.emod_lt_of_pos _ hB
    have h8 : 0 ≤ P * (x / P % B) := Int.mul_nonneg (by omega) h6
    have h9 : P * (x / P % B) ≤ P * (B - 1) := Int.mul_le_mul_of_nonneg_left (by omega) (by omega)
    rw [Int.mul_sub, Int.mul_one] at h9
    rw [h3, Int.add_mul_emod_self_left, Int.emod_eq_of_lt (by omega) (by omega)]
    rw [← h3]
  rw [e a, e b, ← Int.ediv_ediv_of_nonneg (by omega)]
  congr 1
  have : a % P + P * (a / P % B) + (b % P + P * (b / P % B)) = (a % P + b % P) + P * (a / P % B + b / P % B) := by rw [Int.mul_add]; omega
  rw [this, Int.add_mul_ediv_left _ _ (by omega)]
  omega
