/-! lowest terms, and the nearest real of a ratio -/
def lowu (U D : Nat) : Nat := U / Nat.gcd U D
def lowd (U D : Nat) : Nat := D / Nat.gcd U D
theorem low_mul {U D : Nat} : lowu U D * Nat.gcd U D = U ∧ lowd U D * Nat.gcd U D = D :=
  ⟨Nat.div_mul_cancel (Nat.gcd_dvd_left _ _), Nat.div_mul_cancel (Nat.gcd_dvd_right _ _)⟩
theorem lowd_pos {U D : Nat} (h : 0 < D) : 0 < lowd U D := Nat.div_gcd_pos_of_pos_right _ h
theorem low_cop {U D : Nat} (h : 0 < D) : Nat.Coprime (lowu U D) (lowd U D) := Nat.coprime_div_gcd_div_gcd (Nat.gcd_pos_of_pos_right _ h)
theorem low_ratio {U D U' D' : Nat} (hD : 0 < D) (hD' : 0 < D') (h : U * D' = U' * D) : lowu U D = lowu U' D' ∧ lowd U D = lowd U' D' := by
  have g1 := Nat.gcd_pos_of_pos_right U hD
  have g2 := Nat.gcd_pos_of_pos_right U' hD'
  obtain ⟨m1, m2⟩ := low_mul (U := U) (D := D)
  obtain ⟨m3, m4⟩ := low_mul (U := U') (D := D')
  have c1 := low_cop (U := U) hD
  have c2 := low_cop (U := U') hD'
  have p1 := lowd_pos (U := U) hD
  generalize lowu U D = u at *
  generalize lowd U D = d at *
  generalize lowu U' D' = u' at *
  generalize lowd U' D' = d' at *
  generalize Nat.gcd U D = g at *
  generalize Nat.gcd U' D' = g' at *
  have e : u * d' = u' * d := by
    have h2 : u * d' * (g * g') = u' * d * (g * g') := by
      have e1 : u * d' * (g * g') = (u * g) * (d' * g') := by ac_rfl
      have e2 : u' * d * (g * g') = (u' * g') * (d * g) := by ac_rfl
      rw [e1, e2, m1, m2, m3, m4]; exact h
    exact Nat.eq_of_mul_eq_mul_right (Nat.mul_pos g1 g2) h2
  have d1 : d ∣ d' := c1.symm.dvd_of_dvd_mul_left (show d ∣ u * d' from ⟨u', by rw [e, Nat.mul_comm]⟩)
  have d2 : d' ∣ d := c2.symm.dvd_of_dvd_mul_left (show d' ∣ u' * d from ⟨u, by rw [← e, Nat.mul_comm]⟩)
  have e3 := Nat.dvd_antisymm d1 d2
  subst e3
  exact ⟨Nat.eq_of_mul_eq_mul_right p1 e, rfl⟩
theorem low_one {U : Nat} : lowu U 1 = U ∧ lowd U 1 = 1 := by simp [lowu, lowd]
theorem low_same {U D : Nat} (h : Nat.Coprime U D) : lowu U D = U ∧ lowd U D = D := by
  have h2 : Nat.gcd U D = 1 := h
  unfold lowu lowd; rw [h2, Nat.div_one, Nat.div_one]; exact ⟨rfl, rfl⟩
theorem low_0 {D : Nat} (h : 0 < D) : lowu 0 D = 0 ∧ lowd 0 D = 1 := by
  unfold lowu lowd; rw [Nat.gcd_zero_left, Nat.zero_div, Nat.div_self h]; exact ⟨rfl, rfl⟩
theorem lowu_0 {U D : Nat} (h : 0 < D) : lowu U D = 0 ↔ U = 0 := by
  have m := (low_mul (U := U) (D := D)).1
  have g1 := Nat.gcd_pos_of_pos_right U h
  constructor
  · intro e; rw [e, Nat.zero_mul] at m; exact m.symm
  · rintro rfl; exact (low_0 h).1
theorem div_ratio {a b a' b' : Nat} (hb : 0 < b) (hb' : 0 < b') (h : a * b' = a' * b) : a / b = a' / b' ∧ a % b * b' = a' % b' * b := by
  have e1 : a / b = a' / b' := by
    have k1 : ∀ {a b a' b' : Nat}, 0 < b → 0 < b' → a * b' = a' * b → a / b ≤ a' / b' := by
      intro a b a' b' hb hb' h
      rw [Nat.le_div_iff_mul_le hb']
      apply Nat.le_of_mul_le_mul_right _ hb
      rw [← h, Nat.mul_right_comm]
      exact Nat.mul_le_mul_right _ (Nat.div_mul_le_self _ _)
    exact Nat.le_antisymm (k1 hb hb' h) (k1 hb' hb h.symm)
  refine ⟨e1, ?_⟩
  have h1 := Nat.mod_add_div a b
  have h2 := Nat.mod_add_div a' b'
  rw [← e1] at h2
  have h3 : (a % b + b * (a / b)) * b' = (a' % b' + b' * (a / b)) * b := by rw [h1, h2]; exact h
  rw [Nat.add_mul, Nat.add_mul] at h3
  have h4 : b * (a / b) * b' = b' * (a / b) * b := by ac_rfl
  omega
theorem rnd_ratio {a b a' b' : Nat} (hb : 0 < b) (hb' : 0 < b') (h : a * b' = a' * b) : rnd (a / b) (a % b) b = rnd (a' / b') (a' % b') b' := by
  obtain ⟨e1, e2⟩ := div_ratio hb hb' h
  have i1 : b < 2 * (a % b) ↔ b' < 2 * (a' % b') := by
    have s1 : b < 2 * (a % b) ↔ b * b' < 2 * (a % b) * b' := ⟨fun h => Nat.mul_lt_mul_of_pos_right h hb', fun h => Nat.lt_of_mul_lt_mul_right h⟩
    have s2 : b' < 2 * (a' % b') ↔ b' * b < 2 * (a' % b') * b := ⟨fun h => Nat.mul_lt_mul_of_pos_right h hb, fun h => Nat.lt_of_mul_lt_mul_right h⟩
    rw [s1, s2, Nat.mul_assoc, Nat.mul_assoc, e2, Nat.mul_comm b b']
  have i2 : b = 2 * (a % b) ↔ b' = 2 * (a' % b') := by
    have s1 : b = 2 * (a % b) ↔ b * b' = 2 * (a % b) * b' := ⟨fun h => congrArg (· * b') h, fun h => Nat.eq_of_mul_eq_mul_right hb' h⟩
    have s2 : b' = 2 * (a' % b') ↔ b' * b = 2 * (a' % b') * b := ⟨fun h => congrArg (· * b) h, fun h => Nat.eq_of_mul_eq_mul_right hb h⟩
    rw [s1, s2, Nat.mul_assoc, Nat.mul_assoc, e2, Nat.mul_comm b b']
  unfold rnd
  rw [← e1]
  by_cases q : b < 2 * (a % b) ∨ (b = 2 * (a % b) ∧ a / b % 2 = 1)
  · rw [if_pos q, if_pos]; rw [← i1, ← i2]; exact q
  · rw [if_neg q, if_neg]; rw [← i1, ← i2]; exact q
/-- a ratio times 2^s -/
def su (U : Nat) (s : Int) : Nat := U * 2 ^ s.toNat
def sd (D : Nat) (s : Int) : Nat := D * 2 ^ (-s).toNat
theorem sd_pos {D : Nat} (h : 0 < D) (s : Int) : 0 < sd D s := Nat.mul_pos h (Nat.two_pow_pos _)
theorem su_pos {D : Nat} (h : 0 < D) (s : Int) : 0 < su D s := Nat.mul_pos h (Nat.two_pow_pos _)
theorem s_cross {U D : Nat} {s t : Int} (h : s ≤ t) : su U t * sd D s = 2 ^ (t - s).toNat * (su U s * sd D t) := by
  unfold su sd
  have e : 2 ^ t.toNat * 2 ^ (-s).toNat = 2 ^ (t - s).toNat * (2 ^ s.toNat * 2 ^ (-t).toNat) := by
    rw [← Nat.pow_add, ← Nat.pow_add, ← Nat.pow_add]; congr 1; omega
  have e1 : U * 2 ^ t.toNat * (D * 2 ^ (-s).toNat) = U * D * (2 ^ t.toNat * 2 ^ (-s).toNat) := by ac_rfl
  rw [e1, e]; ac_rfl
theorem s_ratio {U D U' D' : Nat} (h : U * D' = U' * D) (s : Int) : su U s * sd D' s = su U' s * sd D s := by
  unfold su sd
  have e1 : U * 2 ^ s.toNat * (D' * 2 ^ (-s).toNat) = U * D' * (2 ^ s.toNat * 2 ^ (-s).toNat) := by ac_rfl
  rw [e1, h]; ac_rfl
def inR (U D : Nat) (s : Int) : Prop := 4503599627370496 * sd D s ≤ su U s ∧ su U s < 9007199254740992 * sd D s
theorem inR_ratio {U D U' D' : Nat} (hD : 0 < D) (hD' : 0 < D') (h : U * D' = U' * D) {s : Int} (hi : inR U D s) : inR U' D' s := by
  have e := s_ratio h s
  have p1 := sd_pos hD s
  have p2 := sd_pos hD' s
  obtain ⟨h1, h2⟩ := hi
  constructor
  · apply Nat.le_of_mul_le_mul_right _ p1
    rw [← e, Nat.mul_right_comm]
    exact Nat.mul_le_mul_right _ h1
  · apply Nat.lt_of_mul_lt_mul_right (a := sd D s)
    rw [← e, Nat.mul_right_comm]
    exact Nat.mul_lt_mul_of_pos_right h2 p2
theorem inR_uniq {U D : Nat} (hD : 0 < D) {s t : Int} (h1 : inR U D s) (h2 : inR U D t) : s = t := by
  have k : ∀ s t : Int, inR U D s → inR U D t → ¬ s < t := by
    intro s t ⟨a1, a2⟩ ⟨b1, b2⟩ hlt
    have c := s_cross (U := U) (D := D) (Int.le_of_lt hlt)
    have p1 := sd_pos hD s
    have p2 := sd_pos hD t
    have q : 2 ≤ 2 ^ (t - s).toNat := by
      have := Nat.pow_le_pow_right (n := 2) (by decide) (show 1 ≤ (t - s).toNat by omega)
      omega
    have r1 : su U t * sd D s < 9007199254740992 * sd D t * sd D s := Nat.mul_lt_mul_of_pos_right b2 p1
    have r2 : 4503599627370496 * sd D s * sd D t ≤ su U s * sd D t := Nat.mul_le_mul_right _ a1
    have r3 : 2 * (su U s * sd D t) ≤ 2 ^ (t - s).toNat * (su U s * sd D t) := Nat.mul_le_mul_right _ q
    have r4 : 4503599627370496 * sd D s * sd D t = 4503599627370496 * (sd D t * sd D s) := by ac_rfl
    have r5 : 9007199254740992 * sd D t * sd D s = 9007199254740992 * (sd D t * sd D s) := by ac_rfl
    generalize su U s * sd D t = A at *
    generalize sd D t * sd D s = B at *
    generalize su U t * sd D s = C at *
    omega
  have := k s t h1 h2
  have := k t s h2 h1
  omega
/-- the power of 2 by which a ratio has 53 bits before the point -/
def ns (U D : Nat) : Int := if 9007199254740992 * sd D (53 + blen D - blen U) ≤ su U (53 + blen D - blen U) then 52 + blen D - blen U else 53 + blen D - blen U
theorem blen_rng {U : Nat} (h : 0 < U) : 2 ^ (blen U - 1) ≤ U ∧ U < 2 ^ blen U ∧ 0 < blen U := ⟨blen_ge (by omega), blen_lt U, blen_pos (by omega)⟩
theorem s_rng {U D : Nat} (hU : 0 < U) (hD : 0 < D) : 4503599627370496 * sd D (53 + blen D - blen U) < su U (53 + blen D - blen U) ∧ su U (53 + blen D - blen U) < 18014398509481984 * sd D (53 + blen D - blen U) := by
  obtain ⟨u1, u2, u3⟩ := blen_rng hU
  obtain ⟨d1, d2, d3⟩ := blen_rng hD
  unfold su sd
  generalize hb : (53 + blen D - blen U : Int) = b
  have hpn : b.toNat + blen U = (-b).toNat + 53 + blen D := by omega
  constructor
  · have e1 : 4503599627370496 * (2 ^ blen D * 2 ^ (-b).toNat) = 2 ^ (blen U - 1) * 2 ^ b.toNat := by
      rw [show (4503599627370496 : Nat) = 2 ^ 52 by decide, ← Nat.pow_add, ← Nat.pow_add, ← Nat.pow_add]; congr 1; omega
    have e2 : D * 2 ^ (-b).toNat < 2 ^ blen D * 2 ^ (-b).toNat := Nat.mul_lt_mul_of_pos_right d2 (Nat.two_pow_pos _)
    have e3 : 2 ^ (blen U - 1) * 2 ^ b.toNat ≤ U * 2 ^ b.toNat := Nat.mul_le_mul_right _ u1
    omega
  · have e1 : 18014398509481984 * (2 ^ (blen D - 1) * 2 ^ (-b).toNat) = 2 ^ blen U * 2 ^ b.toNat := by
      rw [show (18014398509481984 : Nat) = 2 ^ 54 by decide, ← Nat.pow_add, ← Nat.pow_add, ← Nat.pow_add]; congr 1; omega
    have e2 : 2 ^ (blen D - 1) * 2 ^ (-b).toNat ≤ D * 2 ^ (-b).toNat := Nat.mul_le_mul_right _ d1
    have e3 : U * 2 ^ b.toNat < 2 ^ blen U * 2 ^ b.toNat := Nat.mul_lt_mul_of_pos_right u2 (Nat.two_pow_pos _)
    omega
theorem s_half {U D : Nat} (hD : 0 < D) {b : Int} {c : Nat} : (2 * c * sd D b ≤ su U b ↔ c * sd D (b - 1) ≤ su U (b - 1)) := by
  have c1 := s_cross (U := U) (D := D) (show b - 1 ≤ b by omega)
  rw [show (b - (b - 1)).toNat = 1 by omega] at c1
  have p1 := sd_pos hD b
  have p2 := sd_pos hD (b - 1)
  have s1 : 2 * c * sd D b ≤ su U b ↔ 2 * c * sd D b * sd D (b - 1) ≤ su U b * sd D (b - 1) := ⟨fun h => Nat.mul_le_mul_right _ h, fun h => Nat.le_of_mul_le_mul_right h p2⟩
  have s2 : c * sd D (b - 1) ≤ su U (b - 1) ↔ c * sd D (b - 1) * sd D b ≤ su U (b - 1) * sd D b := ⟨fun h => Nat.mul_le_mul_right _ h, fun h => Nat.le_of_mul_le_mul_right h p1⟩
  have e : 2 * c * sd D b * sd D (b - 1) = 2 * (c * sd D (b - 1) * sd D b) := by ac_rfl
  rw [s1, s2, c1, e, Nat.pow_one]
  omega
theorem ns_inR {U D : Nat} (hU : 0 < U) (hD : 0 < D) : inR U D (ns U D) := by
  obtain ⟨h1, h2⟩ := s_rng hU hD
  unfold ns
  split
  · rename_i h3
    have e : (52 + blen D - blen U : Int) = 53 + blen D - blen U - 1 := by omega
    rw [e]
    refine ⟨(s_half hD (c := 4503599627370496)).mp h3, ?_⟩
    apply Nat.lt_of_not_le
    intro q
    have := (s_half hD (c := 9007199254740992)).mpr q
    omega
  · exact ⟨Nat.le_of_lt h1, by omega⟩
theorem ns_eq {U D : Nat} (hU : 0 < U) (hD : 0 < D) {s : Int} (h : inR U D s) : ns U D = s := inR_uniq hD (ns_inR hU hD) h
/-- a ratio times 2^s, rounded -/
def nq (U D : Nat) (s : Int) : Nat := rnd (su U s / sd D s) (su U s % sd D s) (sd D s)
theorem nq_ratio {U D U' D' : Nat} (hD : 0 < D) (hD' : 0 < D') (h : U * D' = U' * D) (s : Int) : nq U D s = nq U' D' s := rnd_ratio (sd_pos hD s) (sd_pos hD' s) (s_ratio h s)
theorem nq_rng {U D : Nat} (hD : 0 < D) {s : Int} (h : inR U D s) : 4503599627370496 ≤ nq U D s ∧ nq U D s ≤ 9007199254740992 := by
  have p := sd_pos hD s
  have h1 : 4503599627370496 ≤ su U s / sd D s := by rw [Nat.le_div_iff_mul_le p]; exact h.1
  have h2 : su U s / sd D s < 9007199254740992 := by rw [Nat.div_lt_iff_lt_mul p]; exact h.2
  unfold nq rnd
  split <;> omega
/-- the number of a kind that is worth a ratio, or (a real) nearest to it; none is BEYOND -/
def near (s : Int) (U D : Nat) : Option (Int × Int × Nat × Nat) :=
  if U = 0 then some (2, 0, 0, 1)
  else if -100 ≤ (blen (nq U D (ns U D)) : Int) - 1 - ns U D ∧ (blen (nq U D (ns U D)) : Int) - 1 - ns U D ≤ 99 then
    some (2, s, lowu (su (nq U D (ns U D)) (-ns U D)) (sd 1 (-ns U D)), lowd (su (nq U D (ns U D)) (-ns U D)) (sd 1 (-ns U D)))
  else none
def fin (kd s : Int) (U D : Nat) : Option (Int × Int × Nat × Nat) :=
  if kd = 2 then near s U D
  else if blen (lowu U D) ≤ 120 ∧ blen (lowd U D) ≤ 120 then some (kd, if U = 0 then 0 else s, lowu U D, lowd U D) else none
theorem z_ratio {U D U' D' : Nat} (hD : 0 < D) (hD' : 0 < D') (h : U * D' = U' * D) : U = 0 ↔ U' = 0 := by
  constructor
  · rintro rfl
    rw [Nat.zero_mul] at h
    rcases Nat.mul_eq_zero.mp h.symm with q | q
    · exact q
    · omega
  · rintro rfl
    rw [Nat.zero_mul] at h
    rcases Nat.mul_eq_zero.mp h with q | q
    · exact q
    · omega
theorem ns_ratio {U D U' D' : Nat} (hU : 0 < U) (hD : 0 < D) (hD' : 0 < D') (h : U * D' = U' * D) : ns U D = ns U' D' := by
  have hU' : 0 < U' := by
    have := z_ratio hD hD' h
    omega
  exact (ns_eq hU' hD' (inR_ratio hD hD' h (ns_inR hU hD))).symm
theorem near_ratio {U D U' D' : Nat} {s : Int} (hD : 0 < D) (hD' : 0 < D') (h : U * D' = U' * D) : near s U D = near s U' D' := by
  have hz := z_ratio hD hD' h
  unfold near
  by_cases q : U = 0
  · rw [if_pos q, if_pos (hz.mp q)]
  · rw [if_neg q, if_neg (fun z => q (hz.mpr z)), ns_ratio (by omega) hD hD' h, nq_ratio hD hD' h]
theorem fin_ratio {U D U' D' : Nat} {kd s : Int} (hD : 0 < D) (hD' : 0 < D') (h : U * D' = U' * D) : fin kd s U D = fin kd s U' D' := by
  have hz := z_ratio hD hD' h
  obtain ⟨e1, e2⟩ := low_ratio hD hD' h
  unfold fin
  rw [near_ratio hD hD' h, e1, e2]
  by_cases q : U = 0
  · rw [if_pos (c := U = 0) q, if_pos (c := U' = 0) (hz.mp q)]
  · rw [if_neg (c := U = 0) q, if_neg (c := U' = 0) (fun z => q (hz.mpr z))]
/-- rounding in two steps: first a quotient with dr bits too many, then those off it -/
theorem rnd_drop {P Q dr : Nat} (hQ : 0 < Q) (hdr : 1 ≤ dr) : rnd (P / (Q * 2 ^ dr)) (P % (Q * 2 ^ dr)) (Q * 2 ^ dr) = if 2 ^ dr < 2 * (P / Q % 2 ^ dr) + (if P % Q = 0 then 0 else 1) ∨ (2 * (P / Q % 2 ^ dr) + (if P % Q = 0 then 0 else 1) = 2 ^ dr ∧ P / Q / 2 ^ dr % 2 = 1) then P / Q / 2 ^ dr + 1 else P / Q / 2 ^ dr := by
  have e1 : P / (Q * 2 ^ dr) = P / Q / 2 ^ dr := (Nat.div_div_eq_div_mul _ _ _).symm
  have e2 : P % (Q * 2 ^ dr) = P % Q + Q * (P / Q % 2 ^ dr) := Nat.mod_mul
  have hR := Nat.mod_lt P hQ
  obtain ⟨k, rfl⟩ : ∃ k, dr = k + 1 := ⟨dr - 1, by omega⟩
  unfold rnd
  rw [e1, e2]
  generalize P / Q / 2 ^ (k + 1) = kept
  generalize hm : P / Q % 2 ^ (k + 1) = m
  generalize P % Q = R at *
  rw [Nat.pow_succ]
  generalize 2 ^ k = h
  have i : (Q * (h * 2) < 2 * (R + Q * m) ↔ h * 2 < 2 * m + (if R = 0 then 0 else 1)) ∧ (Q * (h * 2) = 2 * (R + Q * m) ↔ 2 * m + (if R = 0 then 0 else 1) = h * 2) := by
    have e3 : Q * (h * 2) = 2 * (Q * h) := by ac_rfl
    rw [e3]
    rcases Nat.lt_trichotomy h m with q | q | q
    · have := Nat.mul_le_mul_left Q (show h + 1 ≤ m from q)
      rw [Nat.mul_succ] at this
      split <;> omega
    · subst q
      split <;> omega
    · have := Nat.mul_le_mul_left Q (show m + 1 ≤ h from q)
      rw [Nat.mul_succ] at this
      split <;> omega
  by_cases c : Q * (h * 2) < 2 * (R + Q * m) ∨ (Q * (h * 2) = 2 * (R + Q * m) ∧ kept % 2 = 1)
  · rw [if_pos c, if_pos]; rw [← i.1, ← i.2]; exact c
  · rw [if_neg c, if_neg]; rw [← i.1, ← i.2]; exact c
/-- m * 2^e in lowest terms: m without its twos -/
theorem low_bin {m t o : Nat} {e : Int} (hm : m = o * 2 ^ t) (ho : o % 2 = 1) : lowu (su m e) (sd 1 e) = o * 2 ^ (e + t).toNat ∧ lowd (su m e) (sd 1 e) = 2 ^ (-(e + t)).toNat := by
  have hr : su m e * (2 ^ (-(e + t)).toNat) = o * 2 ^ (e + t).toNat * sd 1 e := by
    unfold su sd
    rw [hm, Nat.one_mul, Nat.mul_assoc, Nat.mul_assoc, Nat.mul_assoc, ← Nat.pow_add, ← Nat.pow_add, ← Nat.pow_add]
    congr 2
    omega
  obtain ⟨e1, e2⟩ := low_ratio (sd_pos (by decide) e) (Nat.two_pow_pos _) hr
  rw [e1, e2]
  apply low_same
  by_cases q : 0 ≤ e + t
  · rw [show (-(e + (t : Int))).toNat = 0 by omega, Nat.pow_zero]
    exact Nat.coprime_one_right _
  · rw [show (e + (t : Int)).toNat = 0 by omega, Nat.pow_zero, Nat.mul_one]
    apply Nat.Coprime.pow_right
    show Nat.gcd o 2 = 1
    rw [Nat.gcd_comm, Nat.gcd_rec, ho]
    decide
theorem odd_part : ∀ {m : Nat}, 0 < m → ∃ t o, m = o * 2 ^ t ∧ o % 2 = 1 := by
  intro m
  induction m using Nat.strongRecOn with
  | ind m ih =>
    intro h
    by_cases q : m % 2 = 1
    · exact ⟨0, m, by rw [Nat.pow_zero, Nat.mul_one], q⟩
    · obtain ⟨t, o, h1, h2⟩ := ih (m / 2) (by omega) (by omega)
      refine ⟨t + 1, o, ?_, h2⟩
      rw [Nat.pow_succ, ← Nat.mul_assoc, ← h1]
      omega
