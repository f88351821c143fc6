/-! the Model: turns, roundings, compares -/
def optO : Option Vn → Sum Int Vn
  | none => .inl 2
  | some v => .inr v
/-- how the Model's state is after an operation that stores -/
def msto (ad : Nat → Nat) (g : Nat → ClassId) (R : Nat → Vn) (ln sh : List Nat) (mc : Int → Int) (to : Int) (o : Sum Int Vn) (z : Int) (F' : Nat → va_E) : Prop :=
  (∃ k, o = .inl k ∧ z = 0 ∧ mst ad g R ln sh (mc k) F') ∨ ∃ w, o = .inr w ∧ okv w ∧ z = w.1 ∧ mst ad g (va_up R to.toNat w) ln sh 0 F'
theorem msto_i {ad : Nat → Nat} {g : Nat → ClassId} {R : Nat → Vn} {ln sh : List Nat} {mc : Int → Int} {to : Int} {o : Sum Int Vn} {r : Option Vn} {z kd code c0 : Int} {F' : Nat → va_E} (ho : o = optO r) (hc : mc 2 = code) (hc0 : c0 = 0)
    (h : stoQ ad g R ln sh to.toNat r kd code c0 z F') : msto ad g R ln sh mc to o z F' := by
  rcases h with ⟨h1, h2, h3⟩ | ⟨w, h1, h2, h3, h4, h5⟩
  · exact Or.inl ⟨2, by rw [ho, h1]; rfl, h2, by rw [hc]; exact h3⟩
  · exact Or.inr ⟨w, by rw [ho, h1]; rfl, h2, h4.trans h3.symm, by rw [← hc0]; exact h5⟩
theorem fin_s {kd s s2 : Int} {u d : Nat} (h : fin kd s u d = some (kd, s, u, d)) (hu : u ≠ 0) : fin kd s2 u d = some (kd, s2, u, d) := by
  unfold fin near at *
  rw [if_neg hu] at *
  by_cases k : kd = 2
  · rw [if_pos k] at *
    split at h
    · rename_i c
      rw [if_pos c]
      injection h with h; injection h with h1 h; injection h with h2 h; injection h with h3 h4
      rw [h3, h4, k]
    · exact absurd h (by simp)
  · rw [if_neg k] at *
    split at h
    · rename_i c
      rw [if_pos c]
      injection h with h; injection h with h1 h; injection h with h2 h; injection h with h3 h4
      rw [h3, h4, if_neg hu]
    · exact absurd h (by simp)
def turnO (R : Nat → Vn) (what a to : Int) : Sum Int Vn :=
  if (0 ≤ what ∧ what ≤ 4) ∧ (regV R a).1 ≠ -1 ∧ (0 ≤ to ∧ to ≤ 7) then optO (turnF what (regV R a).1 (regV R a).2.1 (regV R a).2.2.1 (regV R a).2.2.2) else .inl 0
theorem turn_fin {what kd s : Int} {x y : Nat} (hf : fin kd s x y = some (kd, s, x, y)) (hs0 : s = 0 ↔ x = 0) (h : 3 ≤ what ∧ what ≤ 4) : turnF what kd s x y = fin kd (if what = 3 then -s else (s.natAbs : Int)) x y := by
  unfold turnF
  rw [if_neg (by omega), if_neg (by omega), if_neg (by omega)]
  by_cases z : x = 0
  · have hs := hs0.mpr z
    have : (if what = 3 then -s else (s.natAbs : Int)) = s := by rw [hs]; split <;> rfl
    rw [this, hf, hs]
    split <;> rfl
  · rw [fin_s hf z]
    split <;> rfl
def roundO (R : Nat → Vn) (a n to : Int) : Sum Int Vn :=
  if (-20 ≤ n ∧ n ≤ 20) ∧ (regV R a).1 ≠ -1 ∧ (0 ≤ to ∧ to ≤ 7) then optO (rndF (regV R a).1 (regV R a).2.1 (regV R a).2.2.1 (regV R a).2.2.2 n) else .inl 0
theorem rnd_fin {kd s n : Int} {x y U Y : Nat} (h : U * y = x * Y) (hY : 0 < Y) (hy : 0 < y) (hk : kd = 0 → y = 1) {p q : Nat} (hp : p = n.toNat) (hq : q = (-n).toNat) :
    rndF kd s x y n = fin kd s (rnd (U * 10 ^ p / (Y * 10 ^ q)) (U * 10 ^ p % (Y * 10 ^ q)) (Y * 10 ^ q) * 10 ^ q) (1 * 10 ^ p) := by
  subst hp hq
  have e0 : rnd (U * 10 ^ n.toNat / (Y * 10 ^ (-n).toNat)) (U * 10 ^ n.toNat % (Y * 10 ^ (-n).toNat)) (Y * 10 ^ (-n).toNat) = rnd (x * 10 ^ n.toNat / (y * 10 ^ (-n).toNat)) (x * 10 ^ n.toNat % (y * 10 ^ (-n).toNat)) (y * 10 ^ (-n).toNat) := by
    refine rnd_ratio (Nat.mul_pos hY (Nat.pow_pos (by decide))) (Nat.mul_pos hy (Nat.pow_pos (by decide))) ?_
    have : U * 10 ^ n.toNat * (y * 10 ^ (-n).toNat) = U * y * (10 ^ n.toNat * 10 ^ (-n).toNat) := by ac_rfl
    rw [this, h]; ac_rfl
  rw [e0]
  unfold rndF
  by_cases k : kd = 0 ∧ 0 < n
  · have hm : (if kd = 0 then min n 0 else n) = 0 := by rw [if_pos k.1]; omega
    simp only [hm]
    rw [hk k.1, show (-n).toNat = 0 by omega, show ((0 : Int)).toNat = 0 from rfl, show (-(0 : Int)).toNat = 0 from rfl]
    simp only [Nat.pow_zero, Nat.mul_one, Nat.div_one, Nat.mod_one]
    have hr : ∀ z, rnd z 0 1 = z := fun z => by unfold rnd; rw [if_neg (by omega)]
    rw [hr, hr]
    refine fin_ratio (by decide) (Nat.mul_pos (by decide) (Nat.pow_pos (by decide))) ?_
    rw [Nat.one_mul, Nat.mul_one]
  · have hm : (if kd = 0 then min n 0 else n) = n := by split <;> omega
    simp only [hm]
def cmpQ (x y : Vn) : Int := if x.1 = -1 ∨ y.1 = -1 then 2 else if x.2.1 = y.2.1 then cmpN (x.2.2.1 * y.2.2.2) (y.2.2.1 * x.2.2.2) * x.2.1 else if x.2.1 < y.2.1 then -1 else 1
theorem cmpN_val (a b : Nat) : (a < b → cmpN a b = -1) ∧ (a = b → cmpN a b = 0) ∧ (b < a → cmpN a b = 1) := by
  unfold cmpN
  refine ⟨fun h => ?_, fun h => ?_, fun h => ?_⟩
  · rw [if_pos h]
  · rw [if_neg (by omega), if_pos h]
  · rw [if_neg (by omega), if_neg (by omega)]
theorem cross_lt {a b c d x y z w : Nat} (hb : 0 < b) (hd : 0 < d) (hy : 0 < y) (hw : 0 < w) (h1 : a * y = x * b) (h2 : c * w = z * d) : (a * d < c * b ↔ x * w < z * y) ∧ (a * d = c * b ↔ x * w = z * y) := by
  have e1 : a * d * (y * w) = x * w * (b * d) := by
    have : a * d * (y * w) = a * y * (d * w) := by ac_rfl
    rw [this, h1]; ac_rfl
  have e2 : c * b * (y * w) = z * y * (b * d) := by
    have : c * b * (y * w) = c * w * (b * y) := by ac_rfl
    rw [this, h2]; ac_rfl
  have p1 := Nat.mul_pos hy hw
  have p2 := Nat.mul_pos hb hd
  constructor
  · constructor
    · intro h
      have := Nat.mul_lt_mul_of_pos_right h p1
      rw [e1, e2] at this
      exact Nat.lt_of_mul_lt_mul_right this
    · intro h
      have := Nat.mul_lt_mul_of_pos_right h p2
      rw [← e1, ← e2] at this
      exact Nat.lt_of_mul_lt_mul_right this
  · constructor
    · intro h
      have := congrArg (· * (y * w)) h
      simp only [e1, e2] at this
      exact Nat.eq_of_mul_eq_mul_right p2 this
    · intro h
      have := congrArg (· * (b * d)) h
      simp only [← e1, ← e2] at this
      exact Nat.eq_of_mul_eq_mul_right p1 this
theorem plS_b {xs ys : Int} {A B : Nat} (hx : xs = 0 ∨ xs = 1) (hy : ys = 0 ∨ ys = 1) : plS xs ys A B = 0 ∨ plS xs ys A B = 1 := by
  unfold plS
  split
  · omega
  · split
    · omega
    · split <;> omega
theorem zz {U Y x y Z : Nat} (hY : 0 < Y) (hy : 0 < y) (hZ : 0 < Z) (h : U * y = x * Y) : x = 0 ↔ U * Z = 0 := by
  constructor
  · intro e
    rw [e, Nat.zero_mul] at h
    rcases Nat.mul_eq_zero.mp h with q | q
    · rw [q, Nat.zero_mul]
    · omega
  · intro e
    rcases Nat.mul_eq_zero.mp e with q | q
    · rw [q, Nat.zero_mul] at h
      rcases Nat.mul_eq_zero.mp h.symm with q | q
      · exact q
      · omega
    · omega
theorem cmp_fin {s1 s2 m1 m2 : Int} {A B A' B' : Nat} (h1 : -1 ≤ s1 ∧ s1 ≤ 1) (h2 : -1 ≤ s2 ∧ s2 ≤ 1) (hm1 : (m1 = 1 ∧ s1 < 0) ∨ (m1 = 0 ∧ 0 ≤ s1)) (hm2 : (m2 = 0 ∧ s2 < 0) ∨ (m2 = 1 ∧ 0 ≤ s2)) (hA : s1 = 0 ↔ A = 0) (hB : s2 = 0 ↔ B = 0) (k1 : A < B ↔ A' < B') (k2 : A = B ↔ A' = B') :
    (if plS m1 m2 A B ≠ 0 then (-1 : Int) else if plM m1 m2 A B = 0 then 0 else 1) = if s1 = s2 then cmpN A' B' * s1 else if s1 < s2 then -1 else 1 := by
  have hc : cmpN A' B' = if A < B then -1 else if A = B then 0 else 1 := by unfold cmpN; simp only [k1, k2]
  rw [hc]
  unfold plS plM
  obtain w1 | w1 | w1 : s1 = 0 ∨ s1 = 1 ∨ s1 = -1 := by omega
  all_goals (obtain w2 | w2 | w2 : s2 = 0 ∨ s2 = 1 ∨ s2 = -1 := by omega)
  all_goals (obtain w3 | w3 : m1 = 0 ∨ m1 = 1 := by omega)
  all_goals (obtain w4 | w4 : m2 = 0 ∨ m2 = 1 := by omega)
  all_goals (subst w1 w2 w3 w4)
  all_goals (first | (exfalso; omega) | skip)
  all_goals (rcases Nat.lt_trichotomy A B with q | q | q)
  all_goals (repeat' split)
  all_goals omega
theorem rnd_1 (A : Nat) : rnd (A / 1) (A % 1) 1 = A := by
  unfold rnd
  rw [Nat.mod_one, Nat.div_one, if_neg (by omega)]
theorem rnd_0 {B : Nat} (h : 0 < B) : rnd (0 / B) (0 % B) B = 0 := by
  unfold rnd
  rw [Nat.zero_mod, Nat.zero_div, if_neg (by omega)]
theorem rnd_le (q r d : Nat) : rnd q r d ≤ q + 1 := by unfold rnd; split <;> omega
