/-! primes: Fermat's little theorem, 2^61 - 1 -/
def prm (p : Nat) : Prop := 2 ≤ p ∧ ∀ m, m ∣ p → m = 1 ∨ m = p
theorem prm_cop {p a : Nat} (hp : prm p) (h : ¬ p ∣ a) : Nat.gcd a p = 1 := by
  rcases hp.2 (Nat.gcd a p) (Nat.gcd_dvd_right a p) with h1 | h1
  · exact h1
  · have h2 := Nat.gcd_dvd_left a p
    rw [h1] at h2
    exact absurd h2 h
theorem prm_mul {p a b : Nat} (hp : prm p) (h : p ∣ a * b) : p ∣ a ∨ p ∣ b := by
  by_cases q : p ∣ a
  · exact Or.inl q
  · right
    have h1 : Nat.Coprime p a := by
      rw [Nat.coprime_iff_gcd_eq_one, Nat.gcd_comm]; exact prm_cop hp q
    exact Nat.Coprime.dvd_of_dvd_mul_left h1 h
def bin : Nat → Nat → Nat
  | _, 0 => 1
  | 0, _ + 1 => 0
  | n + 1, k + 1 => bin n k + bin n (k + 1)
theorem bin_0 (n : Nat) : bin n 0 = 1 := by cases n <;> rfl
theorem bin_s (n k : Nat) : bin (n + 1) (k + 1) = bin n k + bin n (k + 1) := rfl
theorem bin_big : ∀ n k, n < k → bin n k = 0
  | 0, k + 1, _ => rfl
  | n + 1, k + 1, h => by rw [bin_s, bin_big n k (by omega), bin_big n (k + 1) (by omega)]
theorem bin_self : ∀ n, bin n n = 1
  | 0 => rfl
  | n + 1 => by rw [bin_s, bin_self n, bin_big n (n + 1) (by omega)]
theorem bin_abs : ∀ n k, (k + 1) * bin (n + 1) (k + 1) = (n + 1) * bin n k
  | 0, 0 => rfl
  | 0, k + 1 => by rw [bin_s, bin_big 0 (k + 1) (by omega), bin_big 0 (k + 1 + 1) (by omega)]; omega
  | n + 1, 0 => by
    have h := bin_abs n 0
    rw [bin_0] at h
    rw [bin_s, bin_0]
    omega
  | n + 1, k + 1 => by
    have h1 := bin_abs n k
    have h2 := bin_abs n (k + 1)
    rw [bin_s (n + 1) (k + 1), Nat.mul_add, h2, Nat.add_mul (k + 1) 1, h1, bin_s n k, Nat.add_mul (n + 1) 1, Nat.mul_add (n + 1)]
    omega
/-- the sum of the first k terms of (a + 1)^n -/
def bsum (n a : Nat) : Nat → Nat
  | 0 => 0
  | k + 1 => bsum n a k + bin n k * a ^ k
theorem bsum_s (n a : Nat) : ∀ k, bsum (n + 1) a (k + 1) = bsum n a (k + 1) + a * bsum n a k
  | 0 => by simp [bsum, bin_0]
  | k + 1 => by
    have h := bsum_s n a k
    show bsum (n + 1) a (k + 1) + bin (n + 1) (k + 1) * a ^ (k + 1) = bsum n a (k + 1) + bin n (k + 1) * a ^ (k + 1) + a * (bsum n a k + bin n k * a ^ k)
    rw [h, bin_s, Nat.add_mul, Nat.mul_add, Nat.pow_succ]
    have : a * (bin n k * a ^ k) = bin n k * (a ^ k * a) := by ac_rfl
    rw [this]; omega
theorem bsum_all (a : Nat) : ∀ n, bsum n a (n + 1) = (a + 1) ^ n
  | 0 => by simp [bsum, bin_0]
  | n + 1 => by
    rw [bsum_s, Nat.pow_succ, ← bsum_all a n]
    have : bsum n a (n + 1 + 1) = bsum n a (n + 1) := by
      show bsum n a (n + 1) + bin n (n + 1) * a ^ (n + 1) = _
      rw [bin_big n (n + 1) (by omega), Nat.zero_mul, Nat.add_zero]
    rw [this, Nat.mul_add, Nat.mul_one, Nat.mul_comm a]; omega
theorem prm_bin {p k : Nat} (hp : prm p) (h0 : 0 < k) (hk : k < p) : p ∣ bin p k := by
  obtain ⟨n, rfl⟩ : ∃ n, p = n + 1 := ⟨p - 1, by have := hp.1; omega⟩
  obtain ⟨j, rfl⟩ : ∃ j, k = j + 1 := ⟨k - 1, by omega⟩
  have h := bin_abs n j
  rcases prm_mul hp (show n + 1 ∣ (j + 1) * bin (n + 1) (j + 1) from ⟨bin n j, h⟩) with q | q
  · exact absurd (Nat.le_of_dvd (by omega) q) (by omega)
  · exact q
theorem bsum_mod {p a : Nat} (hp : prm p) : ∀ k, 1 ≤ k → k ≤ p → bsum p a k % p = 1 % p
  | 1, _, _ => by simp [bsum, bin_0]
  | k + 2, _, h2 => by
    have ih := bsum_mod (a := a) hp (k + 1) (by omega) (by omega)
    show (bsum p a (k + 1) + bin p (k + 1) * a ^ (k + 1)) % p = 1 % p
    obtain ⟨c, hc⟩ := prm_bin hp (show 0 < k + 1 by omega) (by omega)
    rw [hc, Nat.mul_assoc, Nat.add_mul_mod_self_left, ih]
theorem fermat {p : Nat} (hp : prm p) : ∀ a, a ^ p % p = a % p
  | 0 => by rw [Nat.zero_pow (by have := hp.1; omega)]
  | a + 1 => by
    rw [← bsum_all a p]
    show (bsum p a p + bin p p * a ^ p) % p = (a + 1) % p
    rw [bin_self, Nat.one_mul, Nat.add_mod, bsum_mod hp p (by have := hp.1; omega) (Nat.le_refl _), fermat hp a, ← Nat.add_mod, Nat.add_comm]
theorem fermat1 {p a : Nat} (hp : prm p) (h : ¬ p ∣ a) : a ^ (p - 1) % p = 1 % p := by
  have h2 := hp.1
  have h1 := fermat hp a
  have h0 : 1 ≤ a ^ (p - 1) := Nat.one_le_iff_ne_zero.mpr (fun e => by
    have : a = 0 := by
      by_cases z : a = 0
      · exact z
      · exact absurd e (Nat.pos_iff_ne_zero.mp (Nat.pow_pos (by omega)))
    exact h (this ▸ Nat.dvd_zero p))
  have e1 : a ^ p = a * a ^ (p - 1) := by
    obtain ⟨n, rfl⟩ : ∃ n, p = n + 1 := ⟨p - 1, by omega⟩
    rw [Nat.pow_succ, Nat.mul_comm]; rfl
  have hd : p ∣ a * (a ^ (p - 1) - 1) := by
    rw [Nat.mul_sub, Nat.mul_one, ← e1]
    exact Nat.dvd_of_mod_eq_zero (Nat.sub_mod_eq_zero_of_mod_eq h1)
  rcases prm_mul hp hd with q | q
  · exact absurd q h
  · obtain ⟨c, hc⟩ := q
    rw [show a ^ (p - 1) = 1 + p * c by omega, Nat.add_mul_mod_self_left]
theorem prm_ex : ∀ n, 2 ≤ n → ∃ p, prm p ∧ p ∣ n := by
  intro n
  induction n using Nat.strongRecOn with
  | ind n ih =>
    intro hn
    by_cases h : prm n
    · exact ⟨n, h, Nat.dvd_refl n⟩
    · have : ∃ m, m ∣ n ∧ m ≠ 1 ∧ m ≠ n := by
        apply Classical.byContradiction
        intro hc
        exact h ⟨hn, fun m hm => by
          by_cases e1 : m = 1
          · exact Or.inl e1
          · by_cases e2 : m = n
            · exact Or.inr e2
            · exact absurd ⟨m, hm, e1, e2⟩ hc⟩
      obtain ⟨m, hm, h1, h2⟩ := this
      have h3 := Nat.le_of_dvd (by omega) hm
      have h4 : m ≠ 0 := fun e => by
        rw [e] at hm
        have := Nat.eq_zero_of_zero_dvd hm
        omega
      obtain ⟨p, hp, hd⟩ := ih m (by omega) (by omega)
      exact ⟨p, hp, Nat.dvd_trans hd hm⟩
theorem pow_gcd {a r : Nat} (x y : Nat) : a ^ x % r = 1 % r → a ^ y % r = 1 % r → a ^ (Nat.gcd x y) % r = 1 % r := by
  induction x, y using Nat.gcd.induction with
  | H0 n => intro _ h; rw [Nat.gcd_zero_left]; exact h
  | H1 m n hm ih =>
    intro h1 h2
    rw [Nat.gcd_rec]
    refine ih ?_ h1
    have e : a ^ n = (a ^ m) ^ (n / m) * a ^ (n % m) := by
      rw [← Nat.pow_mul, ← Nat.pow_add, Nat.div_add_mod]
    rw [e, Nat.mul_mod, Nat.pow_mod, h1, ← Nat.pow_mod, Nat.one_pow, ← Nat.mul_mod, Nat.one_mul] at h2
    exact h2
theorem cop_all {k : Nat} : ∀ qs : List Nat, (∀ q ∈ qs, Nat.Coprime k q) → Nat.Coprime k (qs.foldr (· * ·) 1)
  | [], _ => Nat.coprime_one_right k
  | q :: qs, h => Nat.Coprime.mul_right (h q (List.mem_cons_self ..)) (cop_all qs (fun q' hq => h q' (List.mem_cons_of_mem _ hq)))
theorem lucas {n a : Nat} (qs : List Nat) (hn : 2 ≤ n) (hq : ∀ q ∈ qs, prm q) (hp : qs.foldr (· * ·) 1 = n - 1) (h1 : a ^ (n - 1) % n = 1) (h2 : ∀ q ∈ qs, Nat.gcd (a ^ ((n - 1) / q) % n + n - 1) n = 1) : prm n := by
  refine ⟨hn, fun m hm => ?_⟩
  by_cases hm1 : m = 1
  · exact Or.inl hm1
  · right
    have hm0 : m ≠ 0 := fun e => by
      rw [e] at hm
      have := Nat.eq_zero_of_zero_dvd hm
      omega
    obtain ⟨r, hr, hrm⟩ := prm_ex m (by omega)
    have hrn := Nat.dvd_trans hrm hm
    have hr2 := hr.1
    have hmn := Nat.le_of_dvd (by omega) hm
    have hrm' := Nat.le_of_dvd (by omega) hrm
    have key : ∀ x, x % n % r = x % r := fun x => Nat.mod_mod_of_dvd x hrn
    have ha1 : a ^ (n - 1) % r = 1 % r := by rw [← key, h1]
    have hna : ¬ r ∣ a := fun hd => by
      obtain ⟨c, rfl⟩ := hd
      have : (r * c) ^ (n - 1) % r = 0 := by
        rw [show n - 1 = (n - 2) + 1 by omega, Nat.pow_succ, ← Nat.mul_assoc, Nat.mul_comm _ r, Nat.mul_assoc, Nat.mul_comm r, Nat.mul_right_comm]
        rw [Nat.mul_comm _ r, Nat.mul_assoc, Nat.mul_mod_right]
      rw [ha1, Nat.mod_eq_of_lt (by omega)] at this
      exact absurd this (by decide)
    have ha2 := fermat1 hr hna
    have ho := pow_gcd _ _ ha1 ha2
    obtain ⟨k, hk⟩ := Nat.gcd_dvd_left (n - 1) (r - 1)
    have hk1 : k = 1 := by
      apply Classical.byContradiction
      intro hk1
      have : ∃ q, q ∈ qs ∧ q ∣ k := by
        apply Classical.byContradiction
        intro hc
        have hcop : Nat.Coprime k (n - 1) := by
          rw [← hp]
          refine cop_all qs (fun q hqq => ?_)
          have := prm_cop (hq q hqq) (fun hd => hc ⟨q, hqq, hd⟩)
          exact this
        have hkd : k ∣ n - 1 := ⟨_, by rw [Nat.mul_comm]; exact hk⟩
        have : Nat.gcd k (n - 1) = k := Nat.gcd_eq_left hkd
        rw [Nat.coprime_iff_gcd_eq_one] at hcop
        omega
      obtain ⟨q, hqq, c, hc⟩ := this
      have hq2 := (hq q hqq).1
      have e : (n - 1) / q = Nat.gcd (n - 1) (r - 1) * c := by
        have : n - 1 = q * (Nat.gcd (n - 1) (r - 1) * c) := by
          rw [Nat.mul_left_comm, ← hc]; exact hk
        exact Nat.div_eq_of_eq_mul_right (by omega) this
      have h3 : a ^ ((n - 1) / q) % r = 1 % r := by
        rw [e, Nat.pow_mul, Nat.pow_mod, ho, ← Nat.pow_mod, Nat.one_pow]
      have h4 : r ∣ a ^ ((n - 1) / q) % n + n - 1 := by
        have h5 : a ^ ((n - 1) / q) % n % r = 1 := by rw [key, h3, Nat.mod_eq_of_lt (by omega)]
        have h6 : a ^ ((n - 1) / q) % n = r * (a ^ ((n - 1) / q) % n / r) + 1 := by
          have := Nat.div_add_mod (a ^ ((n - 1) / q) % n) r
          omega
        rw [h6, show r * (a ^ ((n - 1) / q) % n / r) + 1 + n - 1 = r * (a ^ ((n - 1) / q) % n / r) + n by omega]
        exact Nat.dvd_add (Nat.dvd_mul_right r _) hrn
      have h5 := Nat.dvd_gcd h4 hrn
      rw [h2 q hqq] at h5
      have := Nat.le_of_dvd (by decide) h5
      omega
    have h6 : n - 1 ∣ r - 1 := by
      have := Nat.gcd_dvd_right (n - 1) (r - 1)
      rw [hk1, Nat.mul_one] at hk
      rw [← hk] at this
      exact this
    have := Nat.le_of_dvd (by omega) h6
    omega
theorem prm_small {p : Nat} (h : (decide (2 ≤ p) && (List.range p).all (fun m => decide (m < 2) || decide (p % m ≠ 0))) = true) : prm p := by
  rw [Bool.and_eq_true, decide_eq_true_eq, List.all_eq_true] at h
  refine ⟨h.1, fun m hm => ?_⟩
  have hle := Nat.le_of_dvd (by omega) hm
  by_cases e : m = p
  · exact Or.inr e
  · left
    have h2 := h.2 m (List.mem_range.mpr (by omega))
    rw [Bool.or_eq_true, decide_eq_true_eq, decide_eq_true_eq] at h2
    rcases h2 with q | q
    · have : m ≠ 0 := fun z => by
        rw [z] at hm
        have := Nat.eq_zero_of_zero_dvd hm
        omega
      omega
    · exact absurd (Nat.mod_eq_zero_of_dvd hm) q
def pwm : Nat → Nat → Nat → Nat → Nat
  | 0, _, _, m => 1 % m
  | f + 1, b, e, m => if e % 2 = 1 then b * pwm f (b * b % m) (e / 2) m % m else pwm f (b * b % m) (e / 2) m
theorem pwm_eq : ∀ (f b e m : Nat), e < 2 ^ f → pwm f b e m = b ^ e % m
  | 0, b, e, m, h => by
    obtain rfl : e = 0 := by simpa using h
    rfl
  | f + 1, b, e, m, h => by
    have ih := pwm_eq f (b * b % m) (e / 2) m (by rw [Nat.pow_succ] at h; omega)
    have e1 : (b * b % m) ^ (e / 2) % m = b ^ (2 * (e / 2)) % m := by
      rw [← Nat.pow_mod, ← Nat.pow_two, ← Nat.pow_mul]
    unfold pwm
    rw [ih, e1]
    split
    · rename_i q
      rw [Nat.mul_mod_mod, Nat.mul_comm, ← Nat.pow_succ, show (2 * (e / 2)).succ = e by omega]
    · rename_i q
      rw [show 2 * (e / 2) = e by omega]
set_option maxRecDepth 100000 in
theorem prm_M : prm 2305843009213693951 := by
  refine lucas (a := 37) [2, 3, 3, 5, 5, 7, 11, 13, 31, 41, 61, 151, 331, 1321] (by decide) ?_ (by decide +kernel) ?_ ?_
  · intro q hq
    simp only [List.mem_cons, List.not_mem_nil, or_false] at hq
    rcases hq with rfl | rfl | rfl | rfl | rfl | rfl | rfl | rfl | rfl | rfl | rfl | rfl | rfl | rfl <;> exact prm_small (by decide +kernel)
  · rw [← pwm_eq 61 37 _ _ (by decide +kernel)]; decide +kernel
  · intro q hq
    simp only [List.mem_cons, List.not_mem_nil, or_false] at hq
    rcases hq with rfl | rfl | rfl | rfl | rfl | rfl | rfl | rfl | rfl | rfl | rfl | rfl | rfl | rfl <;> (rw [← pwm_eq 61 37 _ _ (by decide +kernel)]; decide +kernel)
/-- d^(M - 2) is the number that times d is 1 modulo M -/
theorem inv_M {d : Nat} (h : ¬ 2305843009213693951 ∣ d) : d * d ^ 2305843009213693949 % 2305843009213693951 = 1 := by
  have := fermat1 prm_M h
  rw [show (2305843009213693951 - 1 : Nat) = 2305843009213693949 + 1 from rfl, Nat.pow_succ, Nat.mul_comm] at this
  exact this
/-- the number that times d is 1 is just one -/
theorem inv_one {d v w m : Nat} (hv : v < m) (hw : w < m) (h1 : d * v % m = 1 % m) (h2 : d * w % m = 1 % m) : v = w := by
  have h3 : v * (d * w) % m = v := by
    rw [Nat.mul_mod, h2, ← Nat.mul_mod, Nat.mul_one, Nat.mod_eq_of_lt hv]
  have h4 : w * (d * v) % m = w := by
    rw [Nat.mul_mod, h1, ← Nat.mul_mod, Nat.mul_one, Nat.mod_eq_of_lt hw]
  have h5 : v * (d * w) = w * (d * v) := by ac_rfl
  rw [h5, h4] at h3
  exact h3.symm
