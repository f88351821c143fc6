/-! limbs to the base 2^28 -/
def dg8 (n : Nat) : Nat → Int := fun i => (dgt 28 n i : Int)
theorem dgh8 (n : Nat) : ∀ j : Nat, 0 ≤ dg8 n j ∧ dg8 n j < 268435456 := fun j => by
  have h := dgt_lt 28 n j
  simp only [dg8]
  omega
theorem dg_zero8 {n j : Nat} (h : lnw 28 n ≤ j) : dg8 n j = 0 := by
  simp only [dg8, dgt_zeroL (by decide) h]; rfl
theorem dg_08 : dg8 0 = fun _ => (0 : Int) := by
  funext j; exact dg_zero8 (by rw [lnw_0]; omega)
theorem cn_eq08 {n : Nat} : lnw 28 n = 0 ↔ n = 0 := by
  constructor
  · intro h
    have h2 := (lnw_le (w := 28) (n := n) (m := 0) (by decide)).mp (by omega)
    simpa using h2
  · rintro rfl; exact lnw_0 28
theorem cmpN_L8 {n m : Nat} (h : lnw 28 n ≠ lnw 28 m) : cmpN n m = if lnw 28 n < lnw 28 m then -1 else 1 := by
  unfold cmpN
  by_cases q : lnw 28 n < lnw 28 m
  · rw [if_pos q]
    have h1 : n < 2 ^ (28 * lnw 28 n) := lnw_lt (by decide)
    have h2 : ¬ m < 2 ^ (28 * lnw 28 n) := fun z => by have := (lnw_le (w := 28) (by decide)).mpr z; omega
    rw [if_pos (by omega)]
  · rw [if_neg q]
    have h1 : m < 2 ^ (28 * lnw 28 m) := lnw_lt (by decide)
    have h2 : ¬ n < 2 ^ (28 * lnw 28 m) := fun z => by have := (lnw_le (w := 28) (by decide)).mpr z; omega
    rw [if_neg (by omega), if_neg (by omega)]
theorem up_eq_down8 {n m i k : Nat} (hn : n < 2 ^ (28 * k)) (hm : m < 2 ^ (28 * k)) (h : ∀ j, i ≤ j → j < k → dgt 28 n j = dgt 28 m j) : n / 2 ^ (28 * i) = m / 2 ^ (28 * i) := by
  by_cases hik : i ≤ k
  · apply dgt_ext (w := 28) (k := k - i)
    · rw [Nat.div_lt_iff_lt_mul (Nat.two_pow_pos _), ← Nat.pow_add, show 28 * (k - i) + 28 * i = 28 * k by rw [Nat.mul_sub]; have := Nat.mul_le_mul_left 28 hik; omega]; exact hn
    · rw [Nat.div_lt_iff_lt_mul (Nat.two_pow_pos _), ← Nat.pow_add, show 28 * (k - i) + 28 * i = 28 * k by rw [Nat.mul_sub]; have := Nat.mul_le_mul_left 28 hik; omega]; exact hm
    · intro j hj
      have := h (i + j) (by omega) (by omega)
      unfold dgt at this ⊢
      rw [Nat.div_div_eq_div_mul, Nat.div_div_eq_div_mul, ← Nat.pow_add, ← Nat.mul_add]
      exact this
  · have h1 : 2 ^ (28 * k) ≤ 2 ^ (28 * i) := Nat.pow_le_pow_right (by decide) (by omega)
    rw [Nat.div_eq_of_lt (by omega), Nat.div_eq_of_lt (by omega)]
theorem cmpN_at8 {n m i k : Nat} (hn : n < 2 ^ (28 * k)) (hm : m < 2 ^ (28 * k)) (h : ∀ j, i + 1 ≤ j → j < k → dgt 28 n j = dgt 28 m j) (hd : dgt 28 n i ≠ dgt 28 m i) : cmpN n m = if dgt 28 n i < dgt 28 m i then -1 else 1 := by
  have h1 := up_eq_down8 hn hm h
  have e : ∀ x : Nat, x / 2 ^ (28 * i) = x / 2 ^ (28 * (i + 1)) * 2 ^ 28 + dgt 28 x i := fun x => by
    unfold dgt
    rw [pw_succ, ← Nat.div_div_eq_div_mul, Nat.mul_comm]
    exact (Nat.div_add_mod' _ _).symm
  have en := e n
  have em := e m
  have hlt : n / 2 ^ (28 * i) < m / 2 ^ (28 * i) ↔ dgt 28 n i < dgt 28 m i := by rw [en, em, h1]; omega
  have hne : n / 2 ^ (28 * i) ≠ m / 2 ^ (28 * i) := by rw [en, em, h1]; omega
  unfold cmpN
  by_cases q : dgt 28 n i < dgt 28 m i
  · rw [if_pos q, if_pos]
    apply Nat.lt_of_not_le
    intro z
    have := Nat.div_le_div_right (c := 2 ^ (28 * i)) z
    omega
  · rw [if_neg q, if_neg, if_neg]
    · intro z; subst z; exact hne rfl
    · intro z
      have := Nat.div_le_div_right (c := 2 ^ (28 * i)) (Nat.le_of_lt z)
      omega
theorem cmpN_eq8 {n m k : Nat} (hn : n < 2 ^ (28 * k)) (hm : m < 2 ^ (28 * k)) (h : ∀ j, j < k → dgt 28 n j = dgt 28 m j) : cmpN n m = 0 := by
  have := dgt_ext hn hm h
  subst this
  unfold cmpN
  rw [if_neg (by omega), if_pos rfl]
theorem dg_nat8 (n i : Nat) : dg8 n i = ((dgt 28 n i : Nat) : Int) := rfl
theorem dgt_b8 (n i : Nat) : dgt 28 n i < 268435456 := dgt_lt 28 n i
theorem dgt_008 (n : Nat) : dgt 28 n 0 = n % 268435456 := by simp [dgt]
def cy8 (X Y t : Nat) : Nat := (X % 2 ^ (28 * t) + Y) / 2 ^ (28 * t)
theorem cy_08 (X Y : Nat) : cy8 X Y 0 = Y := by simp [cy8, Nat.mod_one]
theorem cy_core8 (X Y w t : Nat) : (X % 2 ^ (28 * (t + 1)) + (Y + w * 2 ^ (28 * t))) / 2 ^ (28 * t) = dgt 28 X t + w + cy8 X Y t := by
  rw [low_succ]
  have : X % 2 ^ (28 * t) + 2 ^ (28 * t) * dgt 28 X t + (Y + w * 2 ^ (28 * t)) = X % 2 ^ (28 * t) + Y + 2 ^ (28 * t) * (dgt 28 X t + w) := by rw [Nat.mul_add, Nat.mul_comm w]; omega
  rw [this, Nat.add_mul_div_left _ _ (Nat.two_pow_pos _)]
  unfold cy8
  omega
theorem cy_step8 {X Y w t Y' : Nat} (h : Y' = Y + w * 2 ^ (28 * t)) : cy8 X Y' (t + 1) = (dgt 28 X t + w + cy8 X Y t) / 268435456 := by
  have h1 : cy8 X Y' (t + 1) = ((X % 2 ^ (28 * (t + 1)) + (Y + w * 2 ^ (28 * t))) / 2 ^ (28 * t)) / 2 ^ 28 := by
    subst h; unfold cy8; rw [Nat.div_div_eq_div_mul, ← pw_succ]
  rw [h1, cy_core8]
theorem cy_dig8 {X Y w t q T : Nat} (h : T = X + (Y + w * 2 ^ (28 * t)) + q * 2 ^ (28 * (t + 1))) : dgt 28 T t = (dgt 28 X t + w + cy8 X Y t) % 268435456 := by
  have h2 : T = X % 2 ^ (28 * (t + 1)) + (Y + w * 2 ^ (28 * t)) + 2 ^ (28 * t) * (2 ^ 28 * (X / 2 ^ (28 * (t + 1)) + q)) := by
    have e1 : 2 ^ (28 * t) * (2 ^ 28 * (X / 2 ^ (28 * (t + 1)) + q)) = 2 ^ (28 * (t + 1)) * (X / 2 ^ (28 * (t + 1))) + q * 2 ^ (28 * (t + 1)) := by
      rw [← Nat.mul_assoc, ← pw_succ, Nat.mul_add (2 ^ (28 * (t + 1))), Nat.mul_comm q]
    have := Nat.mod_add_div X (2 ^ (28 * (t + 1)))
    rw [e1]
    omega
  unfold dgt
  rw [h2, Nat.add_mul_div_left _ _ (Nat.two_pow_pos _), cy_core8, Nat.add_mul_mod_self_left]
  rfl
theorem cy_end8 {X Y t T j : Nat} (h : T = X + Y) (hc : cy8 X Y t = 0) (hj : t ≤ j) : dgt 28 T j = dgt 28 X j := by
  have h1 : X % 2 ^ (28 * t) + Y < 2 ^ (28 * t) := by
    unfold cy8 at hc
    exact (Nat.div_eq_zero_iff_lt (Nat.two_pow_pos _)).mp hc
  have h2 : T / 2 ^ (28 * t) = X / 2 ^ (28 * t) := by
    have h3 := Nat.mod_add_div X (2 ^ (28 * t))
    have h4 : T = X % 2 ^ (28 * t) + Y + 2 ^ (28 * t) * (X / 2 ^ (28 * t)) := by omega
    rw [h4, Nat.add_mul_div_left _ _ (Nat.two_pow_pos _), Nat.div_eq_of_lt h1, Nat.zero_add]
  obtain ⟨r, rfl⟩ : ∃ r, j = t + r := ⟨j - t, by omega⟩
  unfold dgt
  rw [Nat.mul_add, Nat.pow_add, ← Nat.div_div_eq_div_mul, h2, Nat.div_div_eq_div_mul]
theorem cy_le8 {X Y t d : Nat} (h : Y ≤ d * 2 ^ (28 * t)) : cy8 X Y t ≤ d := by
  have h1 := Nat.mod_lt X (Nat.two_pow_pos (28 * t))
  apply Nat.le_of_lt_succ
  unfold cy8
  rw [Nat.div_lt_iff_lt_mul (Nat.two_pow_pos _), Nat.succ_mul d]
  exact Nat.lt_of_lt_of_le (Nat.add_lt_add_right h1 Y) (by rw [Nat.add_comm]; exact Nat.add_le_add_right h _)
theorem low_w8 (b i : Nat) : b % 2 ^ (28 * (i + 1)) = b % 2 ^ (28 * i) + dgt 28 b i * 2 ^ (28 * i) := by rw [low_succ, Nat.mul_comm (dgt 28 b i)]
theorem low_q8 (b i : Nat) : b = b % 2 ^ (28 * i) + b / 2 ^ (28 * i) * 2 ^ (28 * i) := by rw [Nat.mul_comm (b / _)]; exact (Nat.mod_add_div _ _).symm
theorem low_b8 (b i : Nat) : b % 2 ^ (28 * i) ≤ 2 ^ (28 * i) := Nat.le_of_lt (Nat.mod_lt _ (Nat.two_pow_pos _))
theorem low_e8 {b i : Nat} (h : lnw 28 b ≤ i) : b % 2 ^ (28 * i) = b := Nat.mod_eq_of_lt ((lnw_le (by decide)).mp h)
theorem lnw_add8 {a b : Nat} : lnw 28 (a + b) ≤ max (lnw 28 a) (lnw 28 b) + 1 := by
  rw [lnw_le (by decide), pw_succ]
  have h1 : a < 2 ^ (28 * max (lnw 28 a) (lnw 28 b)) := (lnw_le (by decide)).mp (Nat.le_max_left _ _)
  have h2 : b < 2 ^ (28 * max (lnw 28 a) (lnw 28 b)) := (lnw_le (by decide)).mp (Nat.le_max_right _ _)
  omega
theorem lnw_scale8 {a f m : Nat} (hf : f < 268435456) (hm : m < 268435456) : lnw 28 (a * f + m) ≤ lnw 28 a + 1 := by
  rw [lnw_le (by decide), pw_succ]
  have h1 : a < 2 ^ (28 * lnw 28 a) := lnw_lt (by decide)
  have h2 : a * f ≤ a * 268435455 := Nat.mul_le_mul_left _ (by omega)
  by_cases h0 : f = 0
  · subst h0; have := Nat.two_pow_pos (28 * lnw 28 a); omega
  · have : a * 268435455 + m < (a + 1) * 268435456 := by omega
    have h3 : (a + 1) * 268435456 ≤ 2 ^ (28 * lnw 28 a) * 268435456 := Nat.mul_le_mul_right _ h1
    exact Nat.lt_of_lt_of_le (Nat.lt_of_le_of_lt (Nat.add_le_add_right h2 m) this) h3
theorem lnw_small8 {a m : Nat} (hm : m < 268435456) : lnw 28 (a + m) ≤ lnw 28 a + 1 := by
  have := lnw_scale8 (a := a) (f := 1) (m := m) (by decide) hm
  rwa [Nat.mul_one] at this
theorem lnw_mul8 {a b : Nat} : lnw 28 (a * b) ≤ lnw 28 a + lnw 28 b := by
  rw [lnw_le (by decide), Nat.mul_add, Nat.pow_add]
  exact Nat.mul_lt_mul'' (lnw_lt (by decide)) (lnw_lt (by decide))
theorem lnw_mono8 {a b : Nat} (h : a ≤ b) : lnw 28 a ≤ lnw 28 b := (lnw_le (by decide)).mpr (Nat.lt_of_le_of_lt h (lnw_lt (by decide)))
theorem scale_Y8 (f m a i : Nat) : m + f * (a % 2 ^ (28 * (i + 1))) = m + f * (a % 2 ^ (28 * i)) + dgt 28 a i * f * 2 ^ (28 * i) := by
  rw [low_w8, Nat.mul_add, ← Nat.mul_assoc, Nat.mul_comm f (dgt 28 a i), Nat.add_assoc]
theorem scale_T8 (f m a i : Nat) : a * f + m = 0 + (m + f * (a % 2 ^ (28 * i)) + dgt 28 a i * f * 2 ^ (28 * i)) + f * (a / 2 ^ (28 * (i + 1))) * 2 ^ (28 * (i + 1)) := by
  rw [← scale_Y8]
  have h := low_q8 a (i + 1)
  have h2 : f * a = f * (a % 2 ^ (28 * (i + 1))) + f * (a / 2 ^ (28 * (i + 1))) * 2 ^ (28 * (i + 1)) := by
    rw [Nat.mul_assoc, ← Nat.mul_add, ← h]
  rw [Nat.mul_comm a]
  omega
def gl8 (a : Nat) (z : Int) : Nat := if z < 0 then 0 else dgt 28 a z.toNat
theorem gl_b8 (a : Nat) (z : Int) : gl8 a z < 268435456 := by
  unfold gl8; split
  · decide
  · exact dgt_b8 _ _
theorem gl_n8 {a : Nat} {z : Int} (h : z < 0) : gl8 a z = 0 := by unfold gl8; rw [if_pos h]
theorem gl_p8 {a : Nat} {z : Int} (h : 0 ≤ z) : gl8 a z = dgt 28 a z.toNat := by unfold gl8; rw [if_neg (by omega)]
theorem p308 {s : Nat} (h : s < 28) : 2 ^ s * 2 ^ (28 - s) = 268435456 := by
  rw [← Nat.pow_add, show s + (28 - s) = 28 by omega]
theorem or_sh8 {x l s : Nat} (hl : l < 268435456) (hs : s < 28) : x * 2 ^ s ||| l / 2 ^ (28 - s) = x * 2 ^ s + l / 2 ^ (28 - s) := by
  rw [Nat.mul_comm x]
  refine (Nat.two_pow_add_eq_or_of_lt ?_ x).symm
  rw [Nat.div_lt_iff_lt_mul (Nat.two_pow_pos _), p308 hs]
  exact hl
theorem or_dn8 {x l s : Nat} (hl : l < 268435456) (hs : s < 28) : l / 2 ^ s ||| x * 2 ^ (28 - s) = l / 2 ^ s + x * 2 ^ (28 - s) := by
  rw [Nat.mul_comm x, Nat.or_comm, Nat.add_comm]
  refine (Nat.two_pow_add_eq_or_of_lt ?_ x).symm
  rw [Nat.div_lt_iff_lt_mul (Nat.two_pow_pos _), Nat.mul_comm, p308 hs]
  exact hl
theorem dgt_us8 {a s i : Nat} (hs : s < 28) : dgt 28 (a * 2 ^ s) (i + 1) = (dgt 28 a (i + 1) * 2 ^ s + dgt 28 a i / 2 ^ (28 - s)) % 268435456 := by
  have hp := p308 hs
  have hps := Nat.two_pow_pos s
  have hpt := Nat.two_pow_pos (28 - s)
  -- a / P_i in terms of its limbs
  obtain ⟨v, hv⟩ : ∃ v, v = a / 2 ^ (28 * i) := ⟨_, rfl⟩
  have e1 : dgt 28 a i = v % 268435456 := by rw [hv]; rfl
  have e2 : dgt 28 a (i + 1) = v / 268435456 % 268435456 := by
    rw [hv]; unfold dgt; rw [pw_succ, Nat.div_div_eq_div_mul]
  have e3 : dgt 28 (a * 2 ^ s) (i + 1) = v / 2 ^ (28 - s) % 268435456 := by
    unfold dgt
    rw [hv, pw_succ, show (2 : Nat) ^ 28 = 2 ^ (28 - s) * 2 ^ s by rw [Nat.mul_comm, hp], ← Nat.mul_assoc, Nat.mul_div_mul_right _ _ hps, Nat.div_div_eq_div_mul, Nat.mul_comm (2 ^ (28 - s)) (2 ^ s), hp]
  rw [e1, e2, e3]
  generalize 2 ^ s = p at *
  generalize 2 ^ (28 - s) = q at *
  have h1 := Nat.div_add_mod v 268435456
  have e4 : v / q = v / 268435456 * p + v % 268435456 / q := by
    have : v = v % 268435456 + q * (v / 268435456 * p) := by
      rw [Nat.mul_comm q, Nat.mul_assoc, hp]; omega
    conv => lhs; rw [this]
    rw [Nat.add_mul_div_left _ _ hpt]
    omega
  rw [e4, Nat.add_mod (v / 268435456 % 268435456 * p), Nat.mod_mul_mod, ← Nat.add_mod]
theorem dgt_us08 {a s : Nat} : dgt 28 (a * 2 ^ s) 0 = dgt 28 a 0 * 2 ^ s % 268435456 := by
  rw [dgt_008, dgt_008, Nat.mod_mul_mod]
theorem dgt_jump8 {a J i : Nat} : dgt 28 (a * 2 ^ (28 * J)) (i + J) = dgt 28 a i := by
  unfold dgt
  rw [Nat.mul_add, Nat.pow_add, Nat.mul_comm (2 ^ (28 * i)), Nat.mul_comm a, Nat.mul_div_mul_left _ _ (Nat.two_pow_pos _)]
theorem dgt_under8 {a J i : Nat} (h : i < J) : dgt 28 (a * 2 ^ (28 * J)) i = 0 := by
  unfold dgt
  rw [show 28 * J = 28 * (i + 1) + 28 * (J - (i + 1)) by rw [← Nat.mul_add]; congr 1; omega, Nat.pow_add, pw_succ]
  rw [show a * (2 ^ (28 * i) * 2 ^ 28 * 2 ^ (28 * (J - (i + 1)))) = 2 ^ (28 * i) * (2 ^ 28 * (2 ^ (28 * (J - (i + 1))) * a)) by rw [Nat.mul_comm a, Nat.mul_assoc, Nat.mul_assoc], Nat.mul_div_cancel_left _ (Nat.two_pow_pos _), Nat.mul_mod_right]
theorem dgt_up8 {a y i : Nat} : dgt 28 (a * 2 ^ y) i = (gl8 a ((i : Int) - ((y / 28 : Nat) : Int)) * 2 ^ (y % 28) + gl8 a ((i : Int) - ((y / 28 : Nat) : Int) - 1) / 2 ^ (28 - y % 28)) % 268435456 := by
  have hy : a * 2 ^ y = a * 2 ^ (y % 28) * 2 ^ (28 * (y / 28)) := by
    rw [Nat.mul_assoc, ← Nat.pow_add, Nat.mod_add_div]
  have hs : y % 28 < 28 := Nat.mod_lt _ (by decide)
  rw [hy]
  generalize y % 28 = s at *
  generalize y / 28 = J at *
  by_cases h1 : i < J
  · rw [dgt_under8 h1, gl_n8 (by omega), gl_n8 (by omega)]; simp
  · obtain ⟨r, rfl⟩ : ∃ r, i = r + J := ⟨i - J, by omega⟩
    rw [dgt_jump8]
    cases r with
    | zero =>
      rw [dgt_us08, gl_p8 (by omega), gl_n8 (z := _ - 1) (by omega)]
      rw [show (((0 + J : Nat) : Int) - (J : Int)).toNat = 0 by omega]
      simp
    | succ r =>
      rw [dgt_us8 hs, gl_p8 (by omega), gl_p8 (by omega)]
      rw [show (((r + 1 + J : Nat) : Int) - (J : Int)).toNat = r + 1 by omega, show (((r + 1 + J : Nat) : Int) - (J : Int) - 1).toNat = r by omega]
theorem dgt_dn8 {a y i : Nat} : dgt 28 (a / 2 ^ y) i = (dgt 28 a (i + y / 28) / 2 ^ (y % 28) + dgt 28 a (i + y / 28 + 1) * 2 ^ (28 - y % 28)) % 268435456 := by
  have hs : y % 28 < 28 := Nat.mod_lt _ (by decide)
  have hy : 28 * i + y = 28 * (i + y / 28) + y % 28 := by omega
  have e0 : dgt 28 (a / 2 ^ y) i = a / 2 ^ (28 * (i + y / 28)) / 2 ^ (y % 28) % 268435456 := by
    unfold dgt
    rw [Nat.div_div_eq_div_mul, Nat.div_div_eq_div_mul, ← Nat.pow_add, ← Nat.pow_add, Nat.add_comm y, hy]
  rw [e0]
  generalize y % 28 = s at *
  generalize i + y / 28 = m at *
  have hp := p308 hs
  have hps := Nat.two_pow_pos s
  obtain ⟨v, hv⟩ : ∃ v, v = a / 2 ^ (28 * m) := ⟨_, rfl⟩
  have e1 : dgt 28 a m = v % 268435456 := by rw [hv]; rfl
  have e2 : dgt 28 a (m + 1) = v / 268435456 % 268435456 := by
    rw [hv]; unfold dgt; rw [pw_succ, Nat.div_div_eq_div_mul]
  rw [e1, e2, ← hv]
  generalize 2 ^ s = p at *
  generalize 2 ^ (28 - s) = q at *
  have h1 := Nat.div_add_mod v 268435456
  have e4 : v / p = v / 268435456 * q + v % 268435456 / p := by
    have : v = v % 268435456 + p * (v / 268435456 * q) := by
      rw [Nat.mul_comm (v / 268435456), ← Nat.mul_assoc, hp]; omega
    conv => lhs; rw [this]
    rw [Nat.add_mul_div_left _ _ hps]
    omega
  rw [e4, Nat.add_comm, Nat.add_mod, Nat.add_mod (v % 268435456 / p), Nat.mod_mul_mod]
theorem lnw_up8 {a y : Nat} : lnw 28 (a * 2 ^ y) ≤ lnw 28 a + y / 28 + 1 := by
  rw [lnw_le (by decide)]
  have h1 : a < 2 ^ (28 * lnw 28 a) := lnw_lt (by decide)
  have h2 : a * 2 ^ y < 2 ^ (28 * lnw 28 a) * 2 ^ y := Nat.mul_lt_mul_of_pos_right h1 (Nat.two_pow_pos _)
  rw [← Nat.pow_add] at h2
  exact Nat.lt_of_lt_of_le h2 (Nat.pow_le_pow_right (by decide) (by omega))
theorem dsm8 {a d i : Nat} (hd : 0 < d) : dgt 28 (a / d) i = (a / 2 ^ (28 * (i + 1)) % d * 268435456 + dgt 28 a i) / d ∧ a / 2 ^ (28 * i) % d = (a / 2 ^ (28 * (i + 1)) % d * 268435456 + dgt 28 a i) % d := by
  obtain ⟨u, hu⟩ : ∃ u, u = a / 2 ^ (28 * (i + 1)) := ⟨_, rfl⟩
  have e1 : a / 2 ^ (28 * i) = u * 268435456 + dgt 28 a i := by
    rw [hu, pw_succ, ← Nat.div_div_eq_div_mul]; unfold dgt
    have := Nat.div_add_mod (a / 2 ^ (28 * i)) (2 ^ 28)
    omega
  have e2 : a / d / 2 ^ (28 * i) = a / 2 ^ (28 * i) / d := by rw [Nat.div_div_eq_div_mul, Nat.div_div_eq_div_mul, Nat.mul_comm]
  have hb := dgt_b8 a i
  have e3 : u * 268435456 + dgt 28 a i = (u % d * 268435456 + dgt 28 a i) + d * (u / d * 268435456) := by
    have := Nat.div_add_mod u d
    have e : u * 268435456 = (d * (u / d) + u % d) * 268435456 := by rw [this]
    rw [e, Nat.add_mul, Nat.mul_assoc]; omega
  have h3 := Nat.mod_lt u hd
  constructor
  · show a / d / 2 ^ (28 * i) % 2 ^ 28 = _
    rw [e2, e1, ← hu, e3, Nat.add_mul_div_left _ _ hd]
    have h4 : (u % d * 268435456 + dgt 28 a i) / d < 268435456 := by
      rw [Nat.div_lt_iff_lt_mul hd]
      have h5 : (u % d + 1) * 268435456 ≤ d * 268435456 := Nat.mul_le_mul_right _ h3
      generalize u % d = r at h5 ⊢
      clear e1 e2 e3 hu
      omega
    rw [Nat.mul_comm (u / d), Nat.add_mul_mod_self_left]
    exact Nat.mod_eq_of_lt h4
  · rw [e1, ← hu, e3, Nat.add_mul_mod_self_left]
theorem dgt_low8 {v m i j : Nat} (h : j < i) : dgt 28 (v + m * 2 ^ (28 * i)) j = dgt 28 v j := by
  unfold dgt
  rw [show 28 * i = 28 * (j + 1) + 28 * (i - (j + 1)) by omega, Nat.pow_add, pw_succ, show m * (2 ^ (28 * j) * 2 ^ 28 * 2 ^ (28 * (i - (j + 1)))) = 2 ^ (28 * j) * (2 ^ 28 * (2 ^ (28 * (i - (j + 1))) * m)) by rw [Nat.mul_comm m, Nat.mul_assoc, Nat.mul_assoc], Nat.add_mul_div_left _ _ (Nat.two_pow_pos _), Nat.add_mul_mod_self_left]
theorem prod_Y8 (d y i j : Nat) : d * (y % 2 ^ (28 * (j + 1))) * 2 ^ (28 * i) = d * (y % 2 ^ (28 * j)) * 2 ^ (28 * i) + d * dgt 28 y j * 2 ^ (28 * (i + j)) := by
  rw [low_w8, Nat.mul_add, Nat.add_mul, Nat.mul_add 28 i j, Nat.pow_add, Nat.mul_comm (2 ^ (28 * i)) (2 ^ (28 * j)), ← Nat.mul_assoc, ← Nat.mul_assoc]
theorem prod_T8 (v d y i j : Nat) : v + d * y * 2 ^ (28 * i) = v + (d * (y % 2 ^ (28 * j)) * 2 ^ (28 * i) + d * dgt 28 y j * 2 ^ (28 * (i + j))) + d * (y / 2 ^ (28 * (j + 1))) * 2 ^ (28 * (i + j + 1)) := by
  have h := low_q8 y (j + 1)
  have e : d * y * 2 ^ (28 * i) = d * (y % 2 ^ (28 * (j + 1))) * 2 ^ (28 * i) + d * (y / 2 ^ (28 * (j + 1))) * 2 ^ (28 * (i + j + 1)) := by
    rw [show 28 * (i + j + 1) = 28 * (j + 1) + 28 * i by omega, Nat.pow_add, ← Nat.mul_assoc, ← Nat.add_mul, Nat.mul_assoc d (y / _), ← Nat.mul_add, ← h]
  rw [← prod_Y8, e]
  exact (Nat.add_assoc _ _ _).symm
theorem prod_c8 (d y i j : Nat) : d * (y % 2 ^ (28 * j)) * 2 ^ (28 * i) ≤ d * 2 ^ (28 * (i + j)) := by
  rw [Nat.mul_add, Nat.pow_add, Nat.mul_comm (2 ^ (28 * i)), ← Nat.mul_assoc]
  exact Nat.mul_le_mul_right _ (Nat.mul_le_mul_left _ (low_b8 y j))
theorem prod_S8 (x y i : Nat) : x % 2 ^ (28 * (i + 1)) * y = x % 2 ^ (28 * i) * y + dgt 28 x i * y * 2 ^ (28 * i) := by
  rw [low_w8, Nat.add_mul, Nat.mul_assoc, Nat.mul_comm (2 ^ (28 * i)), ← Nat.mul_assoc]
theorem prod_le8 (x y i : Nat) : x % 2 ^ (28 * i) * y ≤ x * y := Nat.mul_le_mul_right _ (Nat.mod_le _ _)
def pz8 (t : Nat) : Int := ((2 ^ (28 * t) : Nat) : Int)
theorem pz_pos8 (t : Nat) : 0 < pz8 t := by unfold pz8; have := Nat.two_pow_pos (28 * t); omega
theorem pz_s8 (t : Nat) : pz8 (t + 1) = pz8 t * 268435456 := by unfold pz8; rw [pw_succ, Int.natCast_mul]; rfl
theorem pz_a8 (i j : Nat) : pz8 (i + j) = pz8 i * pz8 j := by unfold pz8; rw [Nat.mul_add, Nat.pow_add]; push_cast; rfl
theorem pz_n8 (t : Nat) : pz8 t = ((2 ^ (28 * t) : Nat) : Int) := rfl
def zdg8 (z : Int) (t : Nat) : Int := z / pz8 t % 268435456
theorem zdg_b8 (z : Int) (t : Nat) : 0 ≤ zdg8 z t ∧ zdg8 z t < 268435456 := by unfold zdg8; omega
theorem zdg_n8 (n t : Nat) : zdg8 n t = dg8 n t := by
  unfold zdg8 pz8 dg8 dgt; rw [Int.natCast_emod, Int.natCast_ediv]; rfl
def zc8 (X Y : Int) (t : Nat) : Int := (X % pz8 t + Y) / pz8 t
theorem z_low8 (X : Int) (t : Nat) : X % pz8 (t + 1) = X % pz8 t + pz8 t * zdg8 X t := by
  have hP := pz_pos8 t
  rw [pz_s8]
  unfold zdg8
  generalize pz8 t = P at *
  have h1 := Int.mul_ediv_add_emod X P
  have h2 := Int.mul_ediv_add_emod (X / P) 268435456
  have h3 : X = (X % P + P * (X / P % 268435456)) + (P * 268435456) * (X / P / 268435456) := by
    rw [Int.mul_assoc, Int.add_assoc, ← Int.mul_add, Int.add_comm (X / P % 268435456), h2]; omega
  have h4 : 0 ≤ X % P := Int.emod_nonneg _ (by omega)
  have h5 : X % P < P := Int.emod_lt_of_pos _ hP
  have h6 : 0 ≤ X / P % 268435456 := Int.emod_nonneg _ (by omega)
  have h7 : X / P % 268435456 < 268435456 := Int.emod_lt_of_pos _ (by omega)
  have h8 : 0 ≤ P * (X / P % 268435456) := Int.mul_nonneg (by omega) h6
  have h9 : P * (X / P % 268435456) ≤ P * (268435456 - 1) := Int.mul_le_mul_of_nonneg_left (by omega) (by omega)
  conv => lhs; rw [h3]
  rw [Int.add_mul_emod_self_left, Int.emod_eq_of_lt (by omega) (by omega)]
theorem zc_core8 (X Y w : Int) (t : Nat) : (X % pz8 (t + 1) + (Y + w * pz8 t)) / pz8 t = zdg8 X t + w + zc8 X Y t := by
  have hP := pz_pos8 t
  rw [z_low8]
  have : X % pz8 t + pz8 t * zdg8 X t + (Y + w * pz8 t) = X % pz8 t + Y + pz8 t * (zdg8 X t + w) := by rw [Int.mul_add, Int.mul_comm w]; omega
  rw [this, Int.add_mul_ediv_left _ _ (by omega)]
  unfold zc8
  omega
theorem zc_step8 {X Y w Y' : Int} {t : Nat} (h : Y' = Y + w * pz8 t) : zc8 X Y' (t + 1) = (zdg8 X t + w + zc8 X Y t) / 268435456 := by
  have hP := pz_pos8 t
  rw [← zc_core8, h, Int.ediv_ediv_of_nonneg (by omega), ← pz_s8]
  rfl
theorem zc_dig8 {X Y w q T : Int} {t : Nat} (h : T = X + (Y + w * pz8 t) + q * pz8 (t + 1)) : zdg8 T t = (zdg8 X t + w + zc8 X Y t) % 268435456 := by
  have hP := pz_pos8 t
  have h2 : T = X % pz8 (t + 1) + (Y + w * pz8 t) + pz8 t * (268435456 * (X / pz8 (t + 1) + q)) := by
    have e1 : pz8 t * (268435456 * (X / pz8 (t + 1) + q)) = pz8 (t + 1) * (X / pz8 (t + 1)) + q * pz8 (t + 1) := by
      rw [← Int.mul_assoc, ← pz_s8, Int.mul_add, Int.mul_comm q]
    have := Int.mul_ediv_add_emod X (pz8 (t + 1))
    rw [e1]
    omega
  have h3 : zdg8 T t = T / pz8 t % 268435456 := rfl
  rw [h3, h2, Int.add_mul_ediv_left _ _ (by omega), zc_core8, Int.add_mul_emod_self_left]
theorem zdg_low8 {X m : Int} {b j : Nat} (h : j < b) : zdg8 (X + m * pz8 b) j = zdg8 X j := by
  have hP := pz_pos8 j
  obtain ⟨r, rfl⟩ : ∃ r, b = (j + 1) + r := ⟨b - (j + 1), by omega⟩
  unfold zdg8
  rw [pz_a8, pz_s8, show m * (pz8 j * 268435456 * pz8 r) = pz8 j * (268435456 * (pz8 r * m)) by rw [Int.mul_comm m, Int.mul_assoc, Int.mul_assoc], Int.add_mul_ediv_left _ _ (by omega), Int.add_mul_emod_self_left]
theorem zc_z8 (X : Int) (t : Nat) : zc8 X 0 t = 0 := by
  unfold zc8
  rw [Int.add_zero, Int.ediv_eq_zero_of_lt (Int.emod_nonneg _ (by have := pz_pos8 t; omega)) (Int.emod_lt_of_pos _ (pz_pos8 t))]
theorem zc_rng8 {X Y m : Int} {t : Nat} (h1 : -(m * pz8 t) ≤ Y) (h2 : Y ≤ 0) : -m ≤ zc8 X Y t ∧ zc8 X Y t ≤ 0 := by
  have hP := pz_pos8 t
  have h3 := Int.emod_nonneg X (b := pz8 t) (by omega)
  have h4 := Int.emod_lt_of_pos X hP
  unfold zc8
  constructor
  · rw [Int.le_ediv_iff_mul_le hP, Int.neg_mul]; omega
  · have : (X % pz8 t + Y) / pz8 t < 1 := by rw [Int.ediv_lt_iff_lt_mul hP]; omega
    omega
theorem zc_rng18 {X Y : Int} {t : Nat} (h1 : 0 ≤ Y) (h2 : Y ≤ pz8 t) : 0 ≤ zc8 X Y t ∧ zc8 X Y t ≤ 1 := by
  have hP := pz_pos8 t
  have h3 := Int.emod_nonneg X (b := pz8 t) (by omega)
  have h4 := Int.emod_lt_of_pos X hP
  unfold zc8
  constructor
  · rw [Int.le_ediv_iff_mul_le hP]; omega
  · have : (X % pz8 t + Y) / pz8 t < 2 := by rw [Int.ediv_lt_iff_lt_mul hP]; omega
    omega
def dl8 (d i : Nat) : Int := ((d % 2 ^ (28 * i) : Nat) : Int)
theorem dl_s8 (d i : Nat) : dl8 d (i + 1) = dl8 d i + dg8 d i * pz8 i := by
  unfold dl8; rw [low_w8]; unfold pz8 dg8; push_cast; rfl
theorem dl_08 (d : Nat) : dl8 d 0 = 0 := by simp [dl8, Nat.mod_one]
theorem dl_e8 {d i : Nat} (h : lnw 28 d ≤ i) : dl8 d i = d := by unfold dl8; rw [low_e8 h]
theorem dl_b8 (d i : Nat) : 0 ≤ dl8 d i ∧ dl8 d i ≤ pz8 i := by unfold dl8 pz8; have := low_b8 d i; omega
theorem dl_q8 (d i : Nat) : (d : Int) = dl8 d i + ((d / 2 ^ (28 * i) : Nat) : Int) * pz8 i := by
  unfold dl8 pz8
  conv => lhs; rw [low_q8 d i]
  push_cast; rfl
theorem zY8 (m : Int) (d b i : Nat) : m * dl8 d (i + 1) * pz8 b = m * dl8 d i * pz8 b + m * dg8 d i * pz8 (b + i) := by
  rw [dl_s8, Int.mul_add, Int.add_mul, pz_a8, Int.mul_comm (pz8 b), ← Int.mul_assoc m, ← Int.mul_assoc (m * dg8 d i)]
theorem zT8 (X m : Int) (d b i : Nat) : X + m * d * pz8 b = X + (m * dl8 d i * pz8 b + m * dg8 d i * pz8 (b + i)) + m * ((d / 2 ^ (28 * (i + 1)) : Nat) : Int) * pz8 (b + i + 1) := by
  have h := dl_q8 d (i + 1)
  rw [← zY8]
  conv => lhs; rw [h]
  rw [Int.mul_add, Int.add_mul, show b + i + 1 = (i + 1) + b by omega, pz_a8 (i + 1) b, Int.add_assoc, ← Int.mul_assoc m, ← Int.mul_assoc (m * _)]
def za8 (z : Int) (t : Nat) : Nat → Int := mix t (zdg8 z) (fun _ => 0)
theorem za_lo8 {z : Int} {t j : Nat} (h : j < t) : za8 z t j = zdg8 z j := mix_lo h
theorem za_hi8 {z : Int} {t j : Nat} (h : t ≤ j) : za8 z t j = 0 := mix_hi h
theorem za_n8 {n t : Nat} (h : n < 2 ^ (28 * t)) : za8 n t = dg8 n := by
  funext j
  by_cases q : j < t
  · rw [za_lo8 q, zdg_n8]
  · rw [za_hi8 (by omega), dg_nat8, dgt_zero (Nat.lt_of_lt_of_le h (Nat.pow_le_pow_right (by decide) (by omega)))]; rfl
theorem ld_dig8 {A D i : Nat} (hD : 0 < D) : A % (D * 2 ^ (28 * (i + 1))) / 2 ^ (28 * i) / D = dgt 28 (A / D) i := by
  rw [Nat.div_div_eq_div_mul, Nat.mul_comm (2 ^ (28 * i)), pw_succ, ← Nat.mul_assoc, Nat.mod_mul_right_div_self, ← Nat.div_div_eq_div_mul]
  rfl
theorem ld_rest8 {A D i : Nat} (hD : 0 < D) : A % (D * 2 ^ (28 * (i + 1))) - dgt 28 (A / D) i * D * 2 ^ (28 * i) = A % (D * 2 ^ (28 * i)) := by
  have h1 : A % (D * 2 ^ (28 * i) * 2 ^ 28) = A % (D * 2 ^ (28 * i)) + D * 2 ^ (28 * i) * (A / (D * 2 ^ (28 * i)) % 2 ^ 28) := Nat.mod_mul
  rw [pw_succ, ← Nat.mul_assoc, h1, ← Nat.div_div_eq_div_mul]
  have h2 : dgt 28 (A / D) i * D * 2 ^ (28 * i) = D * 2 ^ (28 * i) * (A / D / 2 ^ (28 * i) % 2 ^ 28) := by
    rw [Nat.mul_assoc, Nat.mul_comm (dgt 28 (A / D) i)]; rfl
  rw [h2, Nat.add_sub_cancel]
theorem ld_lt8 {A D i : Nat} (hD : 0 < D) : A % (D * 2 ^ (28 * (i + 1))) / 2 ^ (28 * i) < D * 2 ^ 28 := by
  rw [Nat.div_lt_iff_lt_mul (Nat.two_pow_pos _), Nat.mul_assoc, Nat.mul_comm (2 ^ 28), ← pw_succ]
  exact Nat.mod_lt _ (Nat.mul_pos hD (Nat.two_pow_pos _))
