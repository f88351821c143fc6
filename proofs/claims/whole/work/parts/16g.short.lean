/-! the class writes: the shortest digits -/
/-- a floor of n * 2^tw * 10^te -/
def sfA (n : Nat) (tw te : Int) : Nat := n * 10 ^ te.toNat * 2 ^ tw.toNat
def sfB (tw te : Int) : Nat := 1 * 10 ^ (-te).toNat * 2 ^ (-tw).toNat
theorem sfB_pos (tw te : Int) : 0 < sfB tw te := Nat.mul_pos (Nat.mul_pos (by decide) (Nat.pow_pos (by decide))) (Nat.two_pow_pos _)
/-- against a real u / d = M * 2^(tw + 2) -/
theorem sf_x {u d M n : Nat} {tw te : Int} (hr : 4 * M * 2 ^ tw.toNat * d = u * 2 ^ (-tw).toNat) : sfA n tw te * (4 * M * (d * 10 ^ (-te).toNat)) = n * (u * 10 ^ te.toNat) * sfB tw te := by
  unfold sfA sfB
  have a1 : n * 10 ^ te.toNat * 2 ^ tw.toNat * (4 * M * (d * 10 ^ (-te).toNat)) = n * (10 ^ te.toNat * 10 ^ (-te).toNat) * (4 * M * 2 ^ tw.toNat * d) := by ac_rfl
  rw [a1, hr]; ac_rfl
theorem sf_lt {u d M n G : Nat} {tw te : Int} (hM : 0 < M) (hd : 0 < d) (hr : 4 * M * 2 ^ tw.toNat * d = u * 2 ^ (-tw).toNat) : (sfA n tw te < G * sfB tw te ↔ n * (u * 10 ^ te.toNat) < 4 * M * (G * (d * 10 ^ (-te).toNat))) ∧ (sfA n tw te = G * sfB tw te ↔ n * (u * 10 ^ te.toNat) = 4 * M * (G * (d * 10 ^ (-te).toNat))) ∧ (G * sfB tw te < sfA n tw te ↔ 4 * M * (G * (d * 10 ^ (-te).toNat)) < n * (u * 10 ^ te.toNat)) := by
  have hx := sf_x (n := n) (te := te) hr
  have hB := sfB_pos tw te
  have hC : 0 < 4 * M * (d * 10 ^ (-te).toNat) := Nat.mul_pos (by omega) (Nat.mul_pos hd (Nat.pow_pos (by decide)))
  generalize sfA n tw te = A at *
  generalize sfB tw te = B at *
  have e1 : 4 * M * (G * (d * 10 ^ (-te).toNat)) = G * (4 * M * (d * 10 ^ (-te).toNat)) := by ac_rfl
  rw [e1]
  generalize 4 * M * (d * 10 ^ (-te).toNat) = C at *
  generalize n * (u * 10 ^ te.toNat) = X at *
  have key : ∀ x y : Nat, x * C = y * B → ((x < G * B ↔ y < G * C) ∧ (x = G * B ↔ y = G * C) ∧ (G * B < x ↔ G * C < y)) := by
    intro x y h
    have h2 : G * B * C = G * C * B := by ac_rfl
    refine ⟨⟨fun q => ?_, fun q => ?_⟩, ⟨fun q => ?_, fun q => ?_⟩, ⟨fun q => ?_, fun q => ?_⟩⟩
    · have := Nat.mul_lt_mul_of_pos_right q hC; rw [h, h2] at this; exact Nat.lt_of_mul_lt_mul_right this
    · have := Nat.mul_lt_mul_of_pos_right q hB; rw [← h, ← h2] at this; exact Nat.lt_of_mul_lt_mul_right this
    · rw [q, h2] at h; exact (Nat.eq_of_mul_eq_mul_right hB h).symm
    · rw [q, ← h2] at h; exact Nat.eq_of_mul_eq_mul_right hC h
    · have := Nat.mul_lt_mul_of_pos_right q hC; rw [h, h2] at this; exact Nat.lt_of_mul_lt_mul_right this
    · have := Nat.mul_lt_mul_of_pos_right q hB; rw [← h, ← h2] at this; exact Nat.lt_of_mul_lt_mul_right this
  exact key A X hx
/-- the bounds of the whole numbers that have this real as their nearest -/
def loB (A B ev : Nat) : Nat := A / B + (if A % B = 0 ∧ ev = 1 then 0 else 1)
def hiB (A B ev : Nat) : Nat := A / B - (if A % B = 0 ∧ ev ≠ 1 then 1 else 0)
theorem loB_le {A B ev G : Nat} (hB : 0 < B) (he : ev = 0 ∨ ev = 1) : loB A B ev ≤ G ↔ (A < G * B ∨ (A = G * B ∧ ev = 1)) := by
  have hdm := Nat.div_add_mod A B
  have hlt := Nat.mod_lt A hB
  unfold loB
  have h1 : A / B + 1 ≤ G ↔ A < G * B := by
    rw [Nat.succ_le_iff, Nat.div_lt_iff_lt_mul hB]
  by_cases c : A % B = 0
  · have h2 : A / B ≤ G ↔ A ≤ G * B := by
      constructor
      · intro q
        have := Nat.mul_le_mul_left B q
        rw [Nat.mul_comm G B]; omega
      · intro q
        exact Nat.div_le_of_le_mul (by rw [Nat.mul_comm]; exact q)
    rcases he with e | e
    · rw [if_neg (by omega), h1]; omega
    · rw [if_pos ⟨c, e⟩, Nat.add_zero, h2]; omega
  · rw [if_neg (fun q => c q.1), h1]
    have h3 : A ≠ G * B := fun q => c (by rw [q]; exact Nat.mul_mod_left _ _)
    omega
theorem hiB_le {A B ev G : Nat} (hB : 0 < B) (he : ev = 0 ∨ ev = 1) (hA : B ≤ A) : G ≤ hiB A B ev ↔ (G * B < A ∨ (G * B = A ∧ ev = 1)) := by
  have hdm := Nat.div_add_mod A B
  have hlt := Nat.mod_lt A hB
  have hq : 0 < A / B := Nat.div_pos hA hB
  unfold hiB
  have h1 : G ≤ A / B ↔ G * B ≤ A := Nat.le_div_iff_mul_le hB
  by_cases c : A % B = 0
  · have hA2 : A = A / B * B := by rw [Nat.mul_comm]; omega
    have h2 : G ≤ A / B - 1 ↔ G * B < A := by
      constructor
      · intro q
        have h3 : (G + 1) * B ≤ A / B * B := Nat.mul_le_mul_right B (by omega)
        rw [Nat.add_mul, ← hA2] at h3
        omega
      · intro q
        rw [hA2] at q
        have := Nat.lt_of_mul_lt_mul_right q
        omega
    rcases he with e | e
    · rw [if_pos ⟨c, by omega⟩, h2]; omega
    · rw [if_neg (by omega), Nat.sub_zero, h1]; omega
  · rw [if_neg (fun q => c q.1), Nat.sub_zero, h1]
    have h3 : G * B ≠ A := fun q => c (by rw [← q]; exact Nat.mul_mod_left _ _)
    omega
/-- what leads to the real: the numbers between the bounds -/
theorem lead_lh {u d M G : Nat} {e0 q : Int} {ev : Nat} (hG : 0 < G) (hu : 0 < u) (hd : 0 < d) (hM : 4503599627370496 ≤ M ∧ M < 9007199254740992) (he0 : -152 ≤ e0 ∧ e0 ≤ 47) (hr0 : su M e0 * d = u * sd 1 e0) (hlu : u = lowu (su M e0) (sd 1 e0)) (hld : d = lowd (su M e0) (sd 1 e0)) (hev : ev = if M % 2 = 0 then 1 else 0)
    (hr : 4 * M * 2 ^ (e0 - 2).toNat * d = u * 2 ^ (-(e0 - 2)).toNat) (hA : sfB (e0 - 2) (-q) ≤ sfA (4 * M + 2) (e0 - 2) (-q)) :
    lead u d q G ↔ loB (sfA (LM M) (e0 - 2) (-q)) (sfB (e0 - 2) (-q)) ev ≤ G ∧ G ≤ hiB (sfA (4 * M + 2) (e0 - 2) (-q)) (sfB (e0 - 2) (-q)) ev := by
  have hev1 : ev = 0 ∨ ev = 1 := by rw [hev]; split <;> omega
  have hev2 : ev = 1 ↔ M % 2 = 0 := by rw [hev]; split <;> omega
  rw [lead_iff (n := -e0) hG hu hd hM ⟨by omega, by omega⟩ (by rw [Int.neg_neg]; exact hr0) (by rw [Int.neg_neg]; exact hlu) (by rw [Int.neg_neg]; exact hld)]
  rw [loB_le (sfB_pos _ _) hev1, hiB_le (sfB_pos _ _) hev1 hA]
  obtain ⟨l1, l2, l3⟩ := sf_lt (n := LM M) (G := G) (te := -q) (by omega) hd hr
  obtain ⟨k1, k2, k3⟩ := sf_lt (n := 4 * M + 2) (G := G) (te := -q) (by omega) hd hr
  rw [l1, l2, k3, hev2]
  have k4 : (G * sfB (e0 - 2) (-q) = sfA (4 * M + 2) (e0 - 2) (-q)) ↔ 4 * M * (G * (d * 10 ^ q.toNat)) = (4 * M + 2) * (u * 10 ^ (-q).toNat) := by
    constructor
    · intro w
      have := k2.mp w.symm
      rw [Int.neg_neg] at this
      exact this.symm
    · intro w
      exact (k2.mpr (by rw [Int.neg_neg]; exact w.symm)).symm
  rw [k4, Int.neg_neg]
/-- the nearer one of two -/
def nrB (below unit mid : Nat) (ex : Nat) : Nat := if 0 < unit ∧ 2 * (mid - below) = unit ∧ ex = 1 then (if below / unit % 2 = 0 then below else below + unit) else if 2 * (mid - below) < unit then below else below + unit
/-- one step to fewer zeros; none: go on -/
def sbS (lo hi mid unit ex : Nat) : Option Nat :=
  if mid - mid % unit < lo ∧ mid - mid % unit + unit ≤ hi then some (mid - mid % unit + unit)
  else if lo ≤ mid - mid % unit ∧ hi < mid - mid % unit + unit then some (mid - mid % unit)
  else if lo ≤ mid - mid % unit then some (nrB (mid - mid % unit) unit mid ex) else none
theorem half_T {X Y T : Nat} (hY : 0 < Y) (hT : 0 < T) (h2 : T % 2 = 0) : (X % (Y * T) * 2 < Y * T ↔ 2 * (X / Y % T) < T) ∧ (X % (Y * T) * 2 = Y * T ↔ 2 * (X / Y % T) = T ∧ X % Y = 0) := by
  have e1 : X % (Y * T) = X % Y + Y * (X / Y % T) := Nat.mod_mul
  have hr := Nat.mod_lt X hY
  obtain ⟨h, hh⟩ : ∃ h, T = 2 * h := ⟨T / 2, by omega⟩
  rw [e1]
  generalize X / Y % T = k at *
  generalize X % Y = r at *
  subst hh
  have m1 : Y * (2 * h) = 2 * (Y * h) := by ac_rfl
  have m2 : (r + Y * k) * 2 = 2 * r + 2 * (Y * k) := by rw [Nat.mul_comm, Nat.mul_add]
  rw [m1, m2]
  rcases Nat.lt_trichotomy k h with c | c | c
  · have : Y * (k + 1) ≤ Y * h := Nat.mul_le_mul_left _ c
    rw [Nat.mul_add, Nat.mul_one] at this
    omega
  · subst c; omega
  · have : Y * (h + 1) ≤ Y * k := Nat.mul_le_mul_left _ c
    rw [Nat.mul_add, Nat.mul_one] at this
    omega
theorem ten_even {k : Nat} (h : 1 ≤ k) : 10 ^ k % 2 = 0 := by
  obtain ⟨j, rfl⟩ : ∃ j, k = j + 1 := ⟨k - 1, by omega⟩
  rw [Nat.pow_succ]; omega
theorem lead_up {u d G k : Nat} {q q2 : Int} (h : q = q2 + k) : lead u d q G ↔ lead u d q2 (G * 10 ^ k) := by
  unfold lead
  rw [near_ratio (U := G * 10 ^ q.toNat) (D := 1 * 10 ^ (-q).toNat) (U' := G * 10 ^ k * 10 ^ q2.toNat) (D' := 1 * 10 ^ (-q2).toNat) (Nat.mul_pos (by decide) (Nat.pow_pos (by decide))) (Nat.mul_pos (by decide) (Nat.pow_pos (by decide)))]
  have a1 : G * 10 ^ q.toNat * (1 * 10 ^ (-q2).toNat) = G * 10 ^ (q.toNat + (-q2).toNat) := by rw [Nat.one_mul, Nat.mul_assoc, ← Nat.pow_add]
  have a2 : G * 10 ^ k * 10 ^ q2.toNat * (1 * 10 ^ (-q).toNat) = G * 10 ^ (k + q2.toNat + (-q).toNat) := by rw [Nat.one_mul, Nat.mul_assoc, Nat.mul_assoc, ← Nat.pow_add, ← Nat.pow_add, Nat.add_assoc]
  rw [a1, a2]
  congr 2
  omega
/-- what the class's bounds and middle say of a real -/
def shW (u d : Nat) (E : Int) (lo hi mid ex : Nat) : Prop :=
  (∀ G, 0 < G → (lead u d (E - 17) G ↔ lo ≤ G ∧ G ≤ hi)) ∧ mid = u * 10 ^ (17 - E).toNat / (d * 10 ^ (-(17 - E)).toNat) ∧ (ex = if u * 10 ^ (17 - E).toNat % (d * 10 ^ (-(17 - E)).toNat) = 0 then 1 else 0) ∧ mid ≤ hi ∧ (∀ G, mid < G → lo ≤ G)
theorem sb_step {u d : Nat} {E : Int} {lo hi mid ex m : Nat} (hw : shW u d E lo hi mid ex) (hd : 0 < d) (hm : 1 ≤ m ∧ m ≤ 17) (hbig : 10 ^ 17 ≤ mid) : sbS lo hi mid (10 ^ (18 - m)) ex = (shN u d E m).map (· * 10 ^ (18 - m)) := by
  obtain ⟨w1, w2, w3, w4, w5⟩ := hw
  obtain ⟨k, hk⟩ : ∃ k, k = 18 - m := ⟨_, rfl⟩
  rw [← hk]
  have hk1 : 1 ≤ k ∧ k ≤ 17 := by omega
  have hT : 0 < 10 ^ k := Nat.pow_pos (by decide)
  have hTe := ten_even hk1.1
  have hTb : 10 ^ k ≤ 10 ^ 17 := Nat.pow_le_pow_right (by decide) hk1.2
  obtain ⟨X, hX⟩ : ∃ X, X = u * 10 ^ (17 - E).toNat := ⟨_, rfl⟩
  obtain ⟨Y, hY⟩ : ∃ Y, Y = d * 10 ^ (-(17 - E)).toNat := ⟨_, rfl⟩
  rw [← hX, ← hY] at w2 w3
  have hY0 : 0 < Y := by rw [hY]; exact Nat.mul_pos hd (Nat.pow_pos (by decide))
  obtain ⟨A, hA⟩ : ∃ A, A = u * 10 ^ ((m : Int) - 1 - E).toNat := ⟨_, rfl⟩
  obtain ⟨B, hB⟩ : ∃ B, B = d * 10 ^ (-((m : Int) - 1 - E)).toNat := ⟨_, rfl⟩
  have hB0 : 0 < B := by rw [hB]; exact Nat.mul_pos hd (Nat.pow_pos (by decide))
  have hcr : A * (Y * 10 ^ k) = X * B := by
    rw [hA, hY, hX, hB]
    have a1 : u * 10 ^ ((m : Int) - 1 - E).toNat * (d * 10 ^ (-(17 - E)).toNat * 10 ^ k) = u * d * (10 ^ ((m : Int) - 1 - E).toNat * 10 ^ (-(17 - E)).toNat * 10 ^ k) := by ac_rfl
    have a2 : u * 10 ^ (17 - E).toNat * (d * 10 ^ (-((m : Int) - 1 - E)).toNat) = u * d * (10 ^ (17 - E).toNat * 10 ^ (-((m : Int) - 1 - E)).toNat) := by ac_rfl
    rw [a1, a2, ← Nat.pow_add, ← Nat.pow_add, ← Nat.pow_add]
    congr 2
    omega
  have hYT : 0 < Y * 10 ^ k := Nat.mul_pos hY0 hT
  obtain ⟨G, hG⟩ : ∃ G, G = A / B := ⟨_, rfl⟩
  have hG2 : G = mid / 10 ^ k := by
    rw [hG, (div_ratio hB0 hYT hcr).1, w2, Nat.div_div_eq_div_mul]
  have hGp : 0 < G := by
    rw [hG2]
    exact Nat.div_pos (by omega) hT
  have hbel : mid - mid % 10 ^ k = G * 10 ^ k := by
    rw [hG2]
    have := Nat.div_add_mod mid (10 ^ k)
    rw [Nat.mul_comm] at this
    omega
  have habv : mid - mid % 10 ^ k + 10 ^ k = (G + 1) * 10 ^ k := by rw [hbel, Nat.add_mul, Nat.one_mul]
  have hml : mid % 10 ^ k ≤ mid := Nat.mod_le _ _
  have hmt := Nat.mod_lt mid hT
  have l1 : lead u d (E + 1 - m) G ↔ lo ≤ G * 10 ^ k := by
    rw [lead_up (k := k) (q2 := E - 17) (by omega), w1 _ (Nat.mul_pos hGp hT)]
    have : G * 10 ^ k ≤ hi := by rw [← hbel]; omega
    exact ⟨fun q => q.1, fun q => ⟨q, this⟩⟩
  have l2 : lead u d (E + 1 - m) (G + 1) ↔ (G + 1) * 10 ^ k ≤ hi := by
    rw [lead_up (k := k) (q2 := E - 17) (by omega), w1 _ (Nat.mul_pos (Nat.succ_pos _) hT)]
    have : lo ≤ (G + 1) * 10 ^ k := w5 _ (by rw [← habv]; omega)
    exact ⟨fun q => q.2, fun q => ⟨this, q⟩⟩
  obtain ⟨c1, c2⟩ := cmp2_ratio hB0 hYT hcr
  obtain ⟨t1, t2⟩ := half_T (X := X) hY0 hT hTe
  rw [t1, ← w2] at c1
  rw [t2, ← w2] at c2
  have hex : ex = 1 ↔ X % Y = 0 := by rw [w3]; split <;> omega
  rw [← hex] at c2
  have hsub : mid - G * 10 ^ k = mid % 10 ^ k := by rw [← hbel]; omega
  have hGT : G * 10 ^ k / 10 ^ k = G := Nat.mul_div_cancel _ hT
  have hsa := fun x y => shN_a (u := u) (d := d) (m := m) (e := E) x y
  have hsb := fun x y => shN_b (u := u) (d := d) (m := m) (e := E) x y
  have hsn := fun x y => shN_n (u := u) (d := d) (m := m) (e := E) x y
  rw [← hA, ← hB, ← hG] at hsa hsb hsn
  unfold sbS
  rw [habv, hbel]
  by_cases b1 : lo ≤ G * 10 ^ k
  · rw [if_neg (by omega)]
    by_cases b2 : (G + 1) * 10 ^ k ≤ hi
    · rw [if_neg (by omega), if_pos b1]
      unfold nrB
      rw [hsub, hGT]
      by_cases d1 : 2 * (mid % 10 ^ k) = 10 ^ k ∧ ex = 1
      · rw [if_pos ⟨hT, d1⟩]
        by_cases d2 : G % 2 = 0
        · rw [if_pos d2, hsa (l1.mpr b1) (Or.inr (Or.inr ⟨c2.mpr d1, d2⟩))]; rfl
        · rw [if_neg d2, hsb (l2.mpr b2) (fun q => by rcases q.2 with q2 | q2; (have := c1.mp q2; omega); exact d2 q2.2)]
          show some (G * 10 ^ k + 10 ^ k) = some ((G + 1) * 10 ^ k)
          rw [Nat.add_mul, Nat.one_mul]
      · rw [if_neg (fun q => d1 q.2)]
        by_cases d3 : 2 * (mid % 10 ^ k) < 10 ^ k
        · rw [if_pos d3, hsa (l1.mpr b1) (Or.inr (Or.inl (c1.mpr d3)))]; rfl
        · rw [if_neg d3, hsb (l2.mpr b2) (fun q => by rcases q.2 with q2 | q2; exact d3 (c1.mp q2); exact d1 (c2.mp q2.1))]
          show some (G * 10 ^ k + 10 ^ k) = some ((G + 1) * 10 ^ k)
          rw [Nat.add_mul, Nat.one_mul]
    · rw [if_pos ⟨b1, by omega⟩, hsa (l1.mpr b1) (Or.inl (fun q => b2 (l2.mp q)))]; rfl
  · by_cases b2 : (G + 1) * 10 ^ k ≤ hi
    · rw [if_pos ⟨by omega, b2⟩, hsb (l2.mpr b2) (fun q => b1 (l1.mp q.1))]; rfl
    · rw [if_neg (by omega), if_neg (by omega), if_neg b1, hsn (fun q => b1 (l1.mp q)) (fun q => b2 (l2.mp q))]; rfl
/-- the parts of a real in twos -/
theorem real_two {u d M kd : Nat} {e0 : Int} (hM : 4503599627370496 ≤ M ∧ M < 9007199254740992) (hd : d = 2 ^ kd) (hr0 : su M e0 * d = u * sd 1 e0) : 4 * M * 2 ^ (e0 - 2).toNat * d = u * 2 ^ (-(e0 - 2)).toNat ∧ (blen u : Int) - blen d = 52 + e0 ∧ u * 2 ^ (55 - (blen u : Int)).toNat / 2 ^ ((blen u : Int) - 55).toNat = 4 * M := by
  have h1 : M * 2 ^ e0.toNat * d = u * 2 ^ (-e0).toNat := by
    have := hr0
    unfold su sd at this
    rw [Nat.one_mul] at this
    exact this
  have hu0 : 0 < u := by
    apply Nat.pos_of_ne_zero
    intro q
    rw [q, Nat.zero_mul] at h1
    have : 0 < M * 2 ^ e0.toNat * d := Nat.mul_pos (Nat.mul_pos (by omega) (Nat.two_pow_pos _)) (by rw [hd]; exact Nat.two_pow_pos _)
    omega
  have hbM : blen M = 53 := by
    have b1 : blen M ≤ 53 := blen_le.mpr (by omega)
    have b2 : ¬ blen M ≤ 52 := fun z => by have := blen_le.mp z; omega
    omega
  have hbl : blen u + (-e0).toNat = 53 + e0.toNat + kd := by
    have h2 := congrArg blen h1
    rw [hd, blen_shl (Nat.mul_ne_zero (by omega) (Nat.ne_of_gt (Nat.two_pow_pos _))), blen_shl (by omega), blen_shl (by omega), hbM] at h2
    omega
  have hbd : blen d = kd + 1 := by rw [hd]; exact blen_pw kd
  refine ⟨?_, by omega, ?_⟩
  · apply Nat.eq_of_mul_eq_mul_right (Nat.two_pow_pos ((-e0).toNat))
    have a1 : 4 * M * 2 ^ (e0 - 2).toNat * d * 2 ^ (-e0).toNat = M * d * (4 * 2 ^ (e0 - 2).toNat * 2 ^ (-e0).toNat) := by ac_rfl
    have a2 : u * 2 ^ (-(e0 - 2)).toNat * 2 ^ (-e0).toNat = u * 2 ^ (-e0).toNat * 2 ^ (-(e0 - 2)).toNat := by ac_rfl
    rw [a1, a2, ← h1]
    have a3 : M * 2 ^ e0.toNat * d * 2 ^ (-(e0 - 2)).toNat = M * d * (2 ^ e0.toNat * 2 ^ (-(e0 - 2)).toNat) := by ac_rfl
    rw [a3, show (4 : Nat) = 2 ^ 2 by decide, ← Nat.pow_add, ← Nat.pow_add, ← Nat.pow_add]
    congr 2
    omega
  · apply Nat.div_eq_of_eq_mul_left (Nat.two_pow_pos _)
    apply Nat.eq_of_mul_eq_mul_right (Nat.two_pow_pos ((-e0).toNat))
    have a1 : u * 2 ^ (55 - (blen u : Int)).toNat * 2 ^ (-e0).toNat = u * 2 ^ (-e0).toNat * 2 ^ (55 - (blen u : Int)).toNat := by ac_rfl
    rw [a1, ← h1, hd]
    have a2 : M * 2 ^ e0.toNat * 2 ^ kd * 2 ^ (55 - (blen u : Int)).toNat = M * (2 ^ e0.toNat * 2 ^ kd * 2 ^ (55 - (blen u : Int)).toNat) := by ac_rfl
    have a3 : 4 * M * 2 ^ ((blen u : Int) - 55).toNat * 2 ^ (-e0).toNat = M * (4 * 2 ^ ((blen u : Int) - 55).toNat * 2 ^ (-e0).toNat) := by ac_rfl
    rw [a2, a3, show (4 : Nat) = 2 ^ 2 by decide, ← Nat.pow_add, ← Nat.pow_add, ← Nat.pow_add, ← Nat.pow_add]
    congr 2
    omega
theorem land_4 (M : Nat) : 4 * M &&& 4 = 4 * (M % 2) := by
  rw [show 4 * M = M <<< 2 by rw [Nat.shiftLeft_eq]; omega, show (4 : Nat) = 1 <<< 2 by decide, ← Nat.shiftLeft_and_distrib, Nat.and_one_is_mod, Nat.shiftLeft_eq]
  omega
/-- the floors of the class fit a long -/
theorem leX_dec3 : ∀ n : Nat, n < 320 → 2 ^ ((n : Int) - 160 + 2).toNat * 10 ^ (17 - leX ((n : Int) - 160)).toNat < 9000000000000000000 * (10 ^ (-(17 - leX ((n : Int) - 160))).toNat * 2 ^ (-((n : Int) - 160 + 2)).toNat) := by decide +kernel
theorem leX_63 {B : Int} (h : -160 ≤ B ∧ B < 160) : 2 ^ (B + 2).toNat * 10 ^ (17 - leX B).toNat < 9000000000000000000 * (10 ^ (-(17 - leX B)).toNat * 2 ^ (-(B + 2)).toNat) := by
  have h1 := leX_dec3 (B + 160).toNat (by omega)
  rw [show (((B + 160).toNat : Nat) : Int) - 160 = B by omega] at h1
  exact h1
theorem sf_63 {n : Nat} {B e : Int} (h : -160 ≤ B ∧ B < 160) (hn : n < 2 ^ 56) (he : leX B ≤ e) : sfA n (B - 54) (17 - e) / sfB (B - 54) (17 - e) < 9000000000000000000 := by
  rw [Nat.div_lt_iff_lt_mul (sfB_pos _ _)]
  have h1 := leX_63 h
  unfold sfA sfB
  obtain ⟨L, hL⟩ : ∃ L, L = leX B := ⟨_, rfl⟩
  rw [← hL] at h1 he
  apply Nat.lt_of_mul_lt_mul_right (a := 10 ^ (-(17 - L)).toNat * 2 ^ (-(B + 2)).toNat * 10 ^ (e - L).toNat)
  have b1 : n * 10 ^ (17 - e).toNat * 2 ^ (B - 54).toNat * (10 ^ (-(17 - L)).toNat * 2 ^ (-(B + 2)).toNat * 10 ^ (e - L).toNat) ≤ 2 ^ 56 * 10 ^ (17 - e).toNat * 2 ^ (B - 54).toNat * (10 ^ (-(17 - L)).toNat * 2 ^ (-(B + 2)).toNat * 10 ^ (e - L).toNat) :=
    Nat.mul_le_mul_right _ (Nat.mul_le_mul_right _ (Nat.mul_le_mul_right _ (Nat.le_of_lt hn)))
  have b2 : 2 ^ 56 * 10 ^ (17 - e).toNat * 2 ^ (B - 54).toNat * (10 ^ (-(17 - L)).toNat * 2 ^ (-(B + 2)).toNat * 10 ^ (e - L).toNat) = (2 ^ (B + 2).toNat * 10 ^ (17 - L).toNat) * (10 ^ (-(17 - e)).toNat * 2 ^ (-(B - 54)).toNat) := by
    have t1 : 2 ^ 56 * 10 ^ (17 - e).toNat * 2 ^ (B - 54).toNat * (10 ^ (-(17 - L)).toNat * 2 ^ (-(B + 2)).toNat * 10 ^ (e - L).toNat) = (2 ^ 56 * 2 ^ (B - 54).toNat * 2 ^ (-(B + 2)).toNat) * (10 ^ (17 - e).toNat * 10 ^ (-(17 - L)).toNat * 10 ^ (e - L).toNat) := by ac_rfl
    have t2 : (2 ^ (B + 2).toNat * 10 ^ (17 - L).toNat) * (10 ^ (-(17 - e)).toNat * 2 ^ (-(B - 54)).toNat) = (2 ^ (B + 2).toNat * 2 ^ (-(B - 54)).toNat) * (10 ^ (17 - L).toNat * 10 ^ (-(17 - e)).toNat) := by ac_rfl
    rw [t1, t2, ← Nat.pow_add, ← Nat.pow_add, ← Nat.pow_add, ← Nat.pow_add, ← Nat.pow_add, ← Nat.pow_add]
    congr 2 <;> omega
  have b3 : (2 ^ (B + 2).toNat * 10 ^ (17 - L).toNat) * (10 ^ (-(17 - e)).toNat * 2 ^ (-(B - 54)).toNat) < 9000000000000000000 * (10 ^ (-(17 - L)).toNat * 2 ^ (-(B + 2)).toNat) * (10 ^ (-(17 - e)).toNat * 2 ^ (-(B - 54)).toNat) := Nat.mul_lt_mul_of_pos_right h1 (Nat.mul_pos (Nat.pow_pos (by decide)) (Nat.two_pow_pos _))
  have b4 : 9000000000000000000 * (10 ^ (-(17 - L)).toNat * 2 ^ (-(B + 2)).toNat) * (10 ^ (-(17 - e)).toNat * 2 ^ (-(B - 54)).toNat) ≤ 9000000000000000000 * (1 * 10 ^ (-(17 - e)).toNat * 2 ^ (-(B - 54)).toNat) * (10 ^ (-(17 - L)).toNat * 2 ^ (-(B + 2)).toNat * 10 ^ (e - L).toNat) := by
    have t1 : 9000000000000000000 * (1 * 10 ^ (-(17 - e)).toNat * 2 ^ (-(B - 54)).toNat) * (10 ^ (-(17 - L)).toNat * 2 ^ (-(B + 2)).toNat * 10 ^ (e - L).toNat) = 9000000000000000000 * (10 ^ (-(17 - L)).toNat * 2 ^ (-(B + 2)).toNat) * (10 ^ (-(17 - e)).toNat * 2 ^ (-(B - 54)).toNat) * 10 ^ (e - L).toNat := by rw [Nat.one_mul]; ac_rfl
    rw [t1]
    exact Nat.le_mul_of_pos_right _ (Nat.pow_pos (by decide))
  omega
