/-! doubles that are whole numbers times powers of 2 -/
def fd (s : Bool) (m : Nat) (e : Int) : UInt64 := Jvm.FP.Core.of64 (Jvm.FP.Core.roundRatio Jvm.FP.Core.b64 s m 1 e)
section FD
theorem rr_nn (f : Jvm.FP.Core.Fmt) (s : Bool) (A B : Nat) (e : Int) : Jvm.FP.Core.roundRatio f s A B e ≠ .nan := by
  unfold Jvm.FP.Core.roundRatio
  split
  · simp
  · unfold Jvm.FP.Core.roundAt Jvm.FP.Core.settle Jvm.FP.Core.bound
    repeat' split
    all_goals simp
theorem fd_val (s : Bool) (m : Nat) (e : Int) : Jvm.FP.Core.val64 (fd s m e) = Jvm.FP.Core.roundRatio Jvm.FP.Core.b64 s m 1 e := Jvm.FP.Core.val64_of64 (Jvm.FP.Core.roundRatio_fits Jvm.FP.Core.good_b64 s m (by decide) e)
theorem fd_nn (s : Bool) (m : Nat) (e : Int) : Jvm.FP.Core.val64 (fd s m e) ≠ .nan := by rw [fd_val]; exact rr_nn _ _ _ _ _
theorem n64_of {r : UInt64} (h : Jvm.FP.Core.val64 r ≠ .nan) : vf_n64 r := by
  have h1 := (Jvm.FP.Core.notNaN_iff r).mpr h
  unfold vf_n64
  rw [UInt64.le_iff_toNat_le, Jvm.FP.Core.mask_toNat]
  have h2 : ¬ (9218868437227405312 < r.toNat % 2 ^ 63) := by
    rw [← Jvm.FP.Core.isNaN_bits, h1]; simp
  show _ ≤ 9218868437227405312
  omega
theorem fd_n64 (s : Bool) (m : Nat) (e : Int) : vf_n64 (fd s m e) := n64_of (fd_nn s m e)
theorem fd_congr {s : Bool} {m m' : Nat} {e e' : Int} (h : m * 2 ^ (e - e').toNat = m' * 2 ^ (e' - e).toNat) : fd s m e = fd s m' e' := by
  exact congrArg Jvm.FP.Core.of64 (Jvm.FP.Core.roundRatio_congr (A := m) (B := 1) (A' := m') (B' := 1) (by decide) (by decide) (by rw [Nat.mul_one, Nat.mul_one]; exact h))
/-- m * 2^e and c * 2^q are the same number -/
def sameV (m : Nat) (e : Int) (c : Nat) (q : Int) : Prop := m * 2 ^ (e - q).toNat = c * 2 ^ (q - e).toNat
theorem same_at {m c : Nat} {e q j : Int} (h : sameV m e c q) (h1 : j ≤ e) (h2 : j ≤ q) : m * 2 ^ (e - j).toNat = c * 2 ^ (q - j).toNat := by
  unfold sameV at h
  by_cases hq : q ≤ e
  · rw [show (q - e).toNat = 0 by omega, Nat.pow_zero, Nat.mul_one] at h
    rw [← h, Nat.mul_assoc, ← Nat.pow_add]; congr 2; omega
  · rw [show (e - q).toNat = 0 by omega, Nat.pow_zero, Nat.mul_one] at h
    rw [h, Nat.mul_assoc, ← Nat.pow_add]; congr 2; omega
theorem same_of {m c : Nat} {e q j : Int} (h1 : j ≤ e) (h2 : j ≤ q) (h : m * 2 ^ (e - j).toNat = c * 2 ^ (q - j).toNat) : sameV m e c q := by
  unfold sameV
  by_cases hq : q ≤ e
  · rw [show (q - e).toNat = 0 by omega, Nat.pow_zero, Nat.mul_one]
    apply Nat.eq_of_mul_eq_mul_right (Nat.two_pow_pos (q - j).toNat)
    rw [← h, Nat.mul_assoc, ← Nat.pow_add]; congr 2; omega
  · rw [show (e - q).toNat = 0 by omega, Nat.pow_zero, Nat.mul_one]
    apply Nat.eq_of_mul_eq_mul_right (Nat.two_pow_pos (e - j).toNat)
    rw [h, Nat.mul_assoc, ← Nat.pow_add]; congr 2; omega
theorem same_mul {m c n d : Nat} {e q f r : Int} (h1 : sameV m e c q) (h2 : sameV n f d r) : sameV (m * n) (e + f) (c * d) (q + r) := by
  have a1 := same_at (j := min e q) h1 (by omega) (by omega)
  have a2 := same_at (j := min f r) h2 (by omega) (by omega)
  refine same_of (j := min e q + min f r) (by omega) (by omega) ?_
  have e1 : 2 ^ (e + f - (min e q + min f r)).toNat = 2 ^ (e - min e q).toNat * 2 ^ (f - min f r).toNat := by rw [← Nat.pow_add]; congr 1; omega
  have e2 : 2 ^ (q + r - (min e q + min f r)).toNat = 2 ^ (q - min e q).toNat * 2 ^ (r - min f r).toNat := by rw [← Nat.pow_add]; congr 1; omega
  rw [e1, e2]
  have e3 : m * n * (2 ^ (e - min e q).toNat * 2 ^ (f - min f r).toNat) = (m * 2 ^ (e - min e q).toNat) * (n * 2 ^ (f - min f r).toNat) := by ac_rfl
  rw [e3, a1, a2]; ac_rfl
/-- small enough to be a double as it is -/
def exD (m : Nat) (e : Int) : Prop := m ≤ 9007199254740992 ∧ -500 ≤ e ∧ e ≤ 500
theorem ex_can {m : Nat} {e : Int} (h : exD m e) (s : Bool) : ∃ c q, Jvm.FP.Core.roundRatio Jvm.FP.Core.b64 s m 1 e = .fin s c q ∧ sameV m e c q := by
  obtain ⟨h1, h2, h3⟩ := h
  have qm : Jvm.FP.Core.b64.qmin = -1074 := by decide
  have qx : Jvm.FP.Core.b64.qmax = 971 := by decide
  by_cases z : m = 0
  · refine ⟨0, Jvm.FP.Core.b64.qmin, ?_, ?_⟩
    · unfold Jvm.FP.Core.roundRatio; rw [if_pos z]
    · unfold sameV; rw [z, Nat.zero_mul, Nat.zero_mul]
  · by_cases w : m = 9007199254740992
    · refine ⟨4503599627370496, e + 1, Jvm.FP.Core.roundRatio_exact Jvm.FP.Core.good_b64 (by decide) ⟨by decide, by omega, by omega, Or.inr (by decide)⟩ ?_, ?_⟩
      · rw [w, show (e - (e + 1)).toNat = 0 by omega, show (e + 1 - e).toNat = 1 by omega]
      · unfold sameV; rw [w, show (e - (e + 1)).toNat = 0 by omega, show (e + 1 - e).toNat = 1 by omega]
    · obtain ⟨b1, b2, b3⟩ := blen_rng (Nat.pos_of_ne_zero z)
      have b4 : blen m ≤ 53 := blen_le.mpr (by omega)
      refine ⟨m * 2 ^ (53 - blen m), e - (53 - blen m : Nat), Jvm.FP.Core.roundRatio_exact Jvm.FP.Core.good_b64 (by decide) ⟨?_, by omega, by omega, Or.inr ?_⟩ ?_, ?_⟩
      · show _ < 2 ^ 53
        have : m * 2 ^ (53 - blen m) < 2 ^ blen m * 2 ^ (53 - blen m) := Nat.mul_lt_mul_of_pos_right b2 (Nat.two_pow_pos _)
        rw [← Nat.pow_add, show blen m + (53 - blen m) = 53 by omega] at this
        exact this
      · show 2 ^ 52 ≤ _
        have : 2 ^ (blen m - 1) * 2 ^ (53 - blen m) ≤ m * 2 ^ (53 - blen m) := Nat.mul_le_mul_right _ b1
        rw [← Nat.pow_add, show blen m - 1 + (53 - blen m) = 52 by omega] at this
        exact this
      · rw [show (e - (e - ((53 - blen m : Nat) : Int))).toNat = 53 - blen m by omega, show (e - ((53 - blen m : Nat) : Int) - e).toNat = 0 by omega]; simp
      · unfold sameV
        rw [show (e - (e - ((53 - blen m : Nat) : Int))).toNat = 53 - blen m by omega, show (e - ((53 - blen m : Nat) : Int) - e).toNat = 0 by omega]; simp
theorem fd_mul {s t : Bool} {m n : Nat} {e f : Int} (h1 : exD m e) (h2 : exD n f) : Jvm.FP.dmul (fd s m e) (fd t n f) = fd (s != t) (m * n) (e + f) := by
  obtain ⟨c, q, a1, a2⟩ := ex_can h1 s
  obtain ⟨d, r, b1, b2⟩ := ex_can h2 t
  apply Jvm.FP.Core.val64_inj
  · show Jvm.FP.Core.val64 (Jvm.FP.Core.dmul _ _) ≠ _
    rw [Jvm.FP.Core.val64_dmul, fd_val, fd_val, a1, b1]
    exact rr_nn _ _ _ _ _
  · show Jvm.FP.Core.val64 (Jvm.FP.Core.dmul _ _) = _
    rw [Jvm.FP.Core.val64_dmul, fd_val, fd_val, fd_val, a1, b1]
    show Jvm.FP.Core.roundRatio Jvm.FP.Core.b64 (s != t) (c * d) 1 (q + r) = _
    have h := same_mul a2 b2
    unfold sameV at h
    exact Jvm.FP.Core.roundRatio_congr (by decide) (by decide) (by rw [Nat.mul_one, Nat.mul_one]; exact h.symm)
theorem fd_div {s t : Bool} {m n : Nat} {e f : Int} (h1 : exD m e) (h2 : exD n f) (hn : 0 < n) {k : Nat} (hk : n = 2 ^ k) : Jvm.FP.ddiv (fd s m e) (fd t n f) = fd (s != t) m (e - f - k) := by
  obtain ⟨c, q, a1, a2⟩ := ex_can h1 s
  obtain ⟨d, r, b1, b2⟩ := ex_can h2 t
  have hd : 0 < d := by
    apply Nat.pos_of_ne_zero
    rintro rfl
    unfold sameV at b2
    rw [Nat.zero_mul] at b2
    have := Nat.mul_pos hn (Nat.two_pow_pos (f - r).toNat)
    omega
  have key : Jvm.FP.Core.quotient Jvm.FP.Core.b64 (.fin s c q) (.fin t d r) = Jvm.FP.Core.roundRatio Jvm.FP.Core.b64 (s != t) m 1 (e - f - k) := by
    show (if d = 0 then _ else _) = _
    rw [if_neg (by omega)]
    refine Jvm.FP.Core.roundRatio_congr hd (by decide) ?_
    have g1 := same_at (j := min e q) a2 (by omega) (by omega)
    have g2 := same_at (j := min f r) b2 (by omega) (by omega)
    rw [Nat.mul_one]
    -- c * 2^(q - r - (e - f - k)) = m * d * 2^..
    have P : ∀ a : Nat, 0 < 2 ^ a := Nat.two_pow_pos
    apply Nat.eq_of_mul_eq_mul_right (Nat.mul_pos (Nat.mul_pos (P (q - min e q).toNat) (P (r - min f r).toNat)) (P (f - min f r + k).toNat))
    have l : c * 2 ^ (q - r - (e - f - k)).toNat * (2 ^ (q - min e q).toNat * 2 ^ (r - min f r).toNat * 2 ^ (f - min f r + k).toNat) = (c * 2 ^ (q - min e q).toNat) * (2 ^ (q - r - (e - f - k)).toNat * 2 ^ (r - min f r).toNat * 2 ^ (f - min f r + k).toNat) := by ac_rfl
    have r' : m * d * 2 ^ (e - f - k - (q - r)).toNat * (2 ^ (q - min e q).toNat * 2 ^ (r - min f r).toNat * 2 ^ (f - min f r + k).toNat) = m * (d * 2 ^ (r - min f r).toNat) * (2 ^ (e - f - k - (q - r)).toNat * 2 ^ (q - min e q).toNat * 2 ^ (f - min f r + k).toNat) := by ac_rfl
    rw [l, r', ← g1, ← g2, hk]
    have l2 : m * 2 ^ (e - min e q).toNat * (2 ^ (q - r - (e - f - k)).toNat * 2 ^ (r - min f r).toNat * 2 ^ (f - min f r + k).toNat) = m * (2 ^ (e - min e q).toNat * 2 ^ (q - r - (e - f - k)).toNat * 2 ^ (r - min f r).toNat * 2 ^ (f - min f r + k).toNat) := by ac_rfl
    have r2 : m * (2 ^ k * 2 ^ (f - min f r).toNat) * (2 ^ (e - f - k - (q - r)).toNat * 2 ^ (q - min e q).toNat * 2 ^ (f - min f r + k).toNat) = m * (2 ^ k * 2 ^ (f - min f r).toNat * 2 ^ (e - f - k - (q - r)).toNat * 2 ^ (q - min e q).toNat * 2 ^ (f - min f r + k).toNat) := by ac_rfl
    rw [l2, r2, ← Nat.pow_add, ← Nat.pow_add, ← Nat.pow_add, ← Nat.pow_add, ← Nat.pow_add, ← Nat.pow_add, ← Nat.pow_add]
    congr 2
    omega
  apply Jvm.FP.Core.val64_inj
  · show Jvm.FP.Core.val64 (Jvm.FP.Core.ddiv _ _) ≠ _
    rw [Jvm.FP.Core.val64_ddiv, fd_val, fd_val, a1, b1, key]
    exact rr_nn _ _ _ _ _
  · show Jvm.FP.Core.val64 (Jvm.FP.Core.ddiv _ _) = _
    rw [Jvm.FP.Core.val64_ddiv, fd_val, fd_val, fd_val, a1, b1, key]
theorem fd_add {m n : Nat} {e f : Int} (h1 : exD m e) (h2 : exD n f) (he : 0 ≤ e) (hf : 0 ≤ f) : Jvm.FP.dadd (fd false m e) (fd false n f) = fd false (m * 2 ^ e.toNat + n * 2 ^ f.toNat) 0 := by
  obtain ⟨c, q, a1, a2⟩ := ex_can h1 false
  obtain ⟨d, r, b1, b2⟩ := ex_can h2 false
  have key : Jvm.FP.Core.round Jvm.FP.Core.b64 (Jvm.FP.Core.exactSum (.fin false c q) (.fin false d r)) = Jvm.FP.Core.roundRatio Jvm.FP.Core.b64 false (m * 2 ^ e.toNat + n * 2 ^ f.toNat) 1 0 := by
    have hs : Jvm.FP.Core.sumUnits false c q false d r (min q r) = ((c * 2 ^ (q - min q r).toNat + d * 2 ^ (r - min q r).toNat : Nat) : Int) := by
      unfold Jvm.FP.Core.sumUnits Jvm.FP.Core.signed Jvm.FP.Core.inUnits; simp
    show Jvm.FP.Core.roundRatio Jvm.FP.Core.b64 (Jvm.FP.Core.sumSign false false (Jvm.FP.Core.sumUnits false c q false d r (min q r))) (Jvm.FP.Core.sumUnits false c q false d r (min q r)).natAbs 1 (min q r) = _
    rw [hs]
    have hsg : Jvm.FP.Core.sumSign false false ((c * 2 ^ (q - min q r).toNat + d * 2 ^ (r - min q r).toNat : Nat) : Int) = false := by
      unfold Jvm.FP.Core.sumSign
      split
      · rfl
      · exact decide_eq_false (by omega)
    rw [hsg, Int.natAbs_natCast]
    refine Jvm.FP.Core.roundRatio_congr (by decide) (by decide) ?_
    rw [Nat.mul_one, Nat.mul_one]
    -- both in units of 2^j
    have g1 := same_at (j := min (min q r) 0) a2 (by omega) (by omega)
    have g2 := same_at (j := min (min q r) 0) b2 (by omega) (by omega)
    refine same_of (j := min (min q r) 0) (by omega) (by omega) ?_
    rw [Nat.add_mul, Nat.add_mul, Nat.mul_assoc, Nat.mul_assoc, Nat.mul_assoc, Nat.mul_assoc, ← Nat.pow_add, ← Nat.pow_add, ← Nat.pow_add, ← Nat.pow_add]
    rw [show (q - min q r).toNat + (min q r - min (min q r) 0).toNat = (q - min (min q r) 0).toNat by omega, show (r - min q r).toNat + (min q r - min (min q r) 0).toNat = (r - min (min q r) 0).toNat by omega, ← g1, ← g2]
    rw [show e.toNat + (0 - min (min q r) 0).toNat = (e - min (min q r) 0).toNat by omega, show f.toNat + (0 - min (min q r) 0).toNat = (f - min (min q r) 0).toNat by omega]
  apply Jvm.FP.Core.val64_inj
  · show Jvm.FP.Core.val64 (Jvm.FP.Core.dadd _ _) ≠ _
    rw [Jvm.FP.Core.val64_dadd, fd_val, fd_val, a1, b1, key]
    exact rr_nn _ _ _ _ _
  · show Jvm.FP.Core.val64 (Jvm.FP.Core.dadd _ _) = _
    rw [Jvm.FP.Core.val64_dadd, fd_val, fd_val, fd_val, a1, b1, key]
theorem cmp_i (a b : Int) : (a < b → compare a b = .lt) ∧ (a = b → compare a b = .eq) ∧ (b < a → compare a b = .gt) := by
  refine ⟨fun h => ?_, fun h => ?_, fun h => ?_⟩
  · unfold compare instOrdInt; simp only [compareOfLessAndEq]; rw [if_pos h]
  · unfold compare instOrdInt; simp only [compareOfLessAndEq]; rw [if_neg (by omega), if_pos h]
  · unfold compare instOrdInt; simp only [compareOfLessAndEq]; rw [if_neg (by omega), if_neg (by omega)]
/-- two of them compared, in units of 2^k -/
theorem fd_cmp {m n : Nat} {e f : Int} (h1 : exD m e) (h2 : exD n f) {k : Int} (he : k ≤ e) (hf : k ≤ f) :
    (m * 2 ^ (e - k).toNat < n * 2 ^ (f - k).toNat → Jvm.FP.dcmp (fd false m e) (fd false n f) = some .lt) ∧
    (m * 2 ^ (e - k).toNat = n * 2 ^ (f - k).toNat → Jvm.FP.dcmp (fd false m e) (fd false n f) = some .eq) ∧
    (n * 2 ^ (f - k).toNat < m * 2 ^ (e - k).toNat → Jvm.FP.dcmp (fd false m e) (fd false n f) = some .gt) := by
  obtain ⟨c, q, a1, a2⟩ := ex_can h1 false
  obtain ⟨d, r, b1, b2⟩ := ex_can h2 false
  have hc : Jvm.FP.dcmp (fd false m e) (fd false n f) = some (compare ((c * 2 ^ (q - min q r).toNat : Nat) : Int) ((d * 2 ^ (r - min q r).toNat : Nat) : Int)) := by
    show Jvm.FP.Core.order (Jvm.FP.Core.val64 (fd false m e)) (Jvm.FP.Core.val64 (fd false n f)) = _
    rw [fd_val, fd_val, a1, b1]; rfl
  have g1 := same_at (j := min (min q r) k) a2 (by omega) (by omega)
  have g2 := same_at (j := min (min q r) k) b2 (by omega) (by omega)
  have u1 : m * 2 ^ (e - k).toNat * 2 ^ (k - min (min q r) k).toNat = c * 2 ^ (q - min q r).toNat * 2 ^ (min q r - min (min q r) k).toNat := by
    rw [Nat.mul_assoc, Nat.mul_assoc, ← Nat.pow_add, ← Nat.pow_add, show (e - k).toNat + (k - min (min q r) k).toNat = (e - min (min q r) k).toNat by omega, show (q - min q r).toNat + (min q r - min (min q r) k).toNat = (q - min (min q r) k).toNat by omega]; exact g1
  have u2 : n * 2 ^ (f - k).toNat * 2 ^ (k - min (min q r) k).toNat = d * 2 ^ (r - min q r).toNat * 2 ^ (min q r - min (min q r) k).toNat := by
    rw [Nat.mul_assoc, Nat.mul_assoc, ← Nat.pow_add, ← Nat.pow_add, show (f - k).toNat + (k - min (min q r) k).toNat = (f - min (min q r) k).toNat by omega, show (r - min q r).toNat + (min q r - min (min q r) k).toNat = (r - min (min q r) k).toNat by omega]; exact g2
  have p1 := Nat.two_pow_pos (k - min (min q r) k).toNat
  have p2 := Nat.two_pow_pos (min q r - min (min q r) k).toNat
  generalize m * 2 ^ (e - k).toNat = x at *
  generalize n * 2 ^ (f - k).toNat = y at *
  generalize c * 2 ^ (q - min q r).toNat = A at *
  generalize d * 2 ^ (r - min q r).toNat = B at *
  generalize 2 ^ (k - min (min q r) k).toNat = P1 at *
  generalize 2 ^ (min q r - min (min q r) k).toNat = P2 at *
  obtain ⟨c1, c2, c3⟩ := cmp_i (A : Int) (B : Int)
  have lt1 : ∀ {x y A B : Nat}, x * P1 = A * P2 → y * P1 = B * P2 → x < y → A < B := by
    intro x y A B w1 w2 h
    have : x * P1 < y * P1 := Nat.mul_lt_mul_of_pos_right h p1
    rw [w1, w2] at this
    exact Nat.lt_of_mul_lt_mul_right this
  rw [hc]
  refine ⟨fun h => ?_, fun h => ?_, fun h => ?_⟩
  · rw [c1 (by have := lt1 u1 u2 h; omega)]
  · subst h
    have : A = B := Nat.eq_of_mul_eq_mul_right p2 (by rw [← u1, ← u2])
    rw [c2 (by omega)]
  · rw [c3 (by have := lt1 u2 u1 h; omega)]
theorem fd_l2d {z : Nat} (h : z < 9223372036854775808) : Jvm.FP.l2d (lI (z : Int)) = fd false z 0 := by
  have hz : (lI (z : Int)).toInt = z := lI_toInt ⟨by omega, by omega⟩
  apply Jvm.FP.Core.val64_inj
  · show Jvm.FP.Core.val64 (Jvm.FP.Core.l2d _) ≠ _
    rw [Jvm.FP.Core.val64_l2d, hz]
    exact rr_nn _ _ _ _ _
  · show Jvm.FP.Core.val64 (Jvm.FP.Core.l2d _) = _
    rw [Jvm.FP.Core.val64_l2d, hz, fd_val]
    show Jvm.FP.Core.roundRatio Jvm.FP.Core.b64 (decide ((z : Int) < 0)) (z : Int).natAbs 1 0 = _
    rw [decide_eq_false (by omega), Int.natAbs_natCast]
theorem fd_i2d {z : Int} (h : inI z) : Jvm.FP.i2d (iI z) = fd (decide (z < 0)) z.natAbs 0 := by
  have hz : (iI z).toInt = z := iI_toInt h
  apply Jvm.FP.Core.val64_inj
  · show Jvm.FP.Core.val64 (Jvm.FP.Core.i2d _) ≠ _
    rw [Jvm.FP.Core.val64_i2d, hz]
    exact rr_nn _ _ _ _ _
  · show Jvm.FP.Core.val64 (Jvm.FP.Core.i2d _) = _
    rw [Jvm.FP.Core.val64_i2d, hz, fd_val]; rfl
theorem fd_d2l {m : Nat} (h : m ≤ 9007199254740992) : Jvm.FP.d2l (fd false m 0) = lI (m : Int) := by
  obtain ⟨c, q, a1, a2⟩ := ex_can (show exD m 0 from ⟨h, by decide, by decide⟩) false
  show Jvm.FP.Core.toL (Jvm.FP.Core.val64 (fd false m 0)) = _
  rw [fd_val, a1]
  unfold Jvm.FP.Core.toL Jvm.FP.Core.toInt Jvm.FP.Core.truncate Jvm.FP.Core.signed
  unfold sameV at a2
  have e : c * 2 ^ q.toNat / 2 ^ (-q).toNat = m := by
    rw [show (0 - q).toNat = (-q).toNat by omega, show (q - 0).toNat = q.toNat by omega] at a2
    rw [← a2, Nat.mul_div_cancel _ (Nat.two_pow_pos _)]
  simp only [e]
  show Int64.ofInt _ = Int64.ofInt _
  congr 1
  simp only [Bool.false_eq_true, if_false]
  omega
theorem fd_neg {s : Bool} {m : Nat} {e : Int} : Jvm.FP.dneg (fd s m e) = fd (!s) m e := by
  apply Jvm.FP.Core.val64_inj
  · rw [Jvm.FP.val64_dneg, fd_val]
    intro h
    cases h2 : Jvm.FP.Core.roundRatio Jvm.FP.Core.b64 s m 1 e with
    | nan => exact rr_nn _ _ _ _ _ h2
    | inf s => rw [h2] at h; simp [Jvm.FP.Core.negate] at h
    | fin s c q => rw [h2] at h; simp [Jvm.FP.Core.negate] at h
  · rw [Jvm.FP.val64_dneg, fd_val, fd_val, Jvm.FP.Core.negate_roundRatio]
end FD
theorem cv_lt {o : Ordering} {op : CmpOp} : (Op.cmpValue (some o) op < 0 ↔ o = .lt) ∧ (Op.cmpValue (some o) op = 0 ↔ o = .eq) ∧ (0 < Op.cmpValue (some o) op ↔ o = .gt) ∧ (Op.cmpValue (some o) op ≤ 0 ↔ o ≠ .gt) ∧ (0 ≤ Op.cmpValue (some o) op ↔ o ≠ .lt) := by
  cases o <;> cases op <;> decide
