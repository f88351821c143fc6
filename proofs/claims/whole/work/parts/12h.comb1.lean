/-! the Model: combine -/
theorem pm_r (r : Int) : -1 ≤ (if r = 1 then (-1 : Int) else 1) ∧ (if r = 1 then (-1 : Int) else 1) ≤ 1 := by split <;> decide
theorem flS_b {r : Int} {A B : Nat} (h : r = 0 ∨ r = 1) : flS r A B = 0 ∨ flS r A B = 1 := by
  unfold flS
  split
  · exact Or.inl rfl
  · exact h
theorem flM_le0 {r : Int} {A B : Nat} : flM r A B ≤ A / B + 1 := by
  unfold flM
  split
  · exact Nat.le_refl _
  · exact Nat.le_succ _
theorem sbit_of {b s : Int} (h : (b = 1 ∧ s < 0) ∨ (b = 0 ∧ 0 ≤ s)) : sbit b s := by unfold sbit; omega
theorem sbit_neg {b s : Int} (h : (b = 1 ∧ s < 0) ∨ (b = 0 ∧ 0 ≤ s)) : (b = 0 → sbit 1 (-s)) ∧ (b ≠ 0 → sbit 0 (-s)) := by unfold sbit; omega

theorem tk_iff {op kd1 kd2 SM p : Int} (h : kd2 = 0 → (SM = p ∧ -999 ≤ p ∧ p ≤ 999) ∨ (SM = 1000 ∧ (p < -999 ∨ 999 < p))) : ((op = 6 ∧ kd2 = 0 ∧ 0 ≤ SM ∧ SM ≤ 40) ∨ op < 6 ∨ (6 < op ∧ kd1 = 0 ∧ kd2 = 0 ∧ (op < 10 ∨ (-120 ≤ SM ∧ SM ≤ 120)))) ↔ ((op = 6 ∧ kd2 = 0 ∧ 0 ≤ p ∧ p ≤ 40) ∨ op < 6 ∨ (6 < op ∧ kd1 = 0 ∧ kd2 = 0 ∧ (op < 10 ∨ (-120 ≤ p ∧ p ≤ 120)))) := by
  by_cases k : kd2 = 0
  · rcases h k with ⟨w, _⟩ | ⟨w, w2⟩
    · rw [w]
    · subst w
      constructor
      · rintro (⟨a1, a2, a3, a4⟩ | a | ⟨a1, a2, a3, a4 | a4⟩)
        · omega
        · exact Or.inr (Or.inl a)
        · exact Or.inr (Or.inr ⟨a1, a2, a3, Or.inl a4⟩)
        · omega
      · rintro (⟨a1, a2, a3, a4⟩ | a | ⟨a1, a2, a3, a4 | a4⟩)
        · omega
        · exact Or.inr (Or.inl a)
        · exact Or.inr (Or.inr ⟨a1, a2, a3, Or.inl a4⟩)
        · omega
  · constructor
    · rintro (⟨a1, a2, _⟩ | a | ⟨a1, a2, a3, _⟩)
      · exact absurd a2 k
      · exact Or.inr (Or.inl a)
      · exact absurd a3 k
    · rintro (⟨a1, a2, _⟩ | a | ⟨a1, a2, a3, _⟩)
      · exact absurd a2 k
      · exact Or.inr (Or.inl a)
      · exact absurd a3 k
/-- two operands that have met -/
def meetP (K k1 s1 : Int) (u1 d1 : Nat) (k2 s2 : Int) (u2 d2 : Nat) (b' : Int) (A B C E : Nat) : Prop :=
  (b' = 1 ∧ (meetN K k1 s1 u1 d1 = none ∨ meetN K k2 s2 u2 d2 = none)) ∨
  (b' = 0 ∧ ∃ u9 d9 v9 e9, meetN K k1 s1 u1 d1 = some (2, s1, u9, d9) ∧ meetN K k2 s2 u2 d2 = some (2, s2, v9, e9) ∧
    (A * d9 = u9 * B ∧ 0 < B ∧ 0 < d9 ∧ (u1 = 0 ↔ u9 = 0) ∧ A < 2 ^ 168 ∧ B < 2 ^ 168) ∧ (C * e9 = v9 * E ∧ 0 < E ∧ 0 < e9 ∧ (u2 = 0 ↔ v9 = 0) ∧ C < 2 ^ 168 ∧ E < 2 ^ 168) ∧ (K ≠ 2 → d9 = d1 ∧ e9 = d2))
theorem meetP_mk {kp kq K s1 s2 b' : Int} {x1 y1 U1 Y1 x2 y2 U2 Y2 A B C E : Nat} (hK : K = max kp kq) (hkp : 0 ≤ kp ∧ kp ≤ 2) (hkq : 0 ≤ kq ∧ kq ≤ 2) (hY1 : 0 < Y1) (hy1 : 0 < y1) (h1 : U1 * y1 = x1 * Y1) (hs1 : s1 = 0 ↔ x1 = 0) (hY2 : 0 < Y2) (hy2 : 0 < y2) (h2 : U2 * y2 = x2 * Y2) (hs2 : s2 = 0 ↔ x2 = 0) (hb1 : U1 < 2 ^ 168 ∧ Y1 < 2 ^ 168) (hb2 : U2 < 2 ^ 168 ∧ Y2 < 2 ^ 168)
    (hcs : (kp < 2 ∧ kq = 2 → ((b' = 1 ∧ near 1 U1 Y1 = none) ∨ (b' = 0 ∧ ∃ s' u9 d9, near 1 U1 Y1 = some (2, s', u9, d9) ∧ A * d9 = u9 * B ∧ 0 < B ∧ A < 2 ^ 168 ∧ B < 2 ^ 168)) ∧ C = U2 ∧ E = Y2) ∧ (kp = 2 ∧ kq < 2 → ((b' = 1 ∧ near 1 U2 Y2 = none) ∨ (b' = 0 ∧ ∃ s' u9 d9, near 1 U2 Y2 = some (2, s', u9, d9) ∧ C * d9 = u9 * E ∧ 0 < E ∧ C < 2 ^ 168 ∧ E < 2 ^ 168)) ∧ A = U1 ∧ B = Y1) ∧ (¬(kp < 2 ∧ kq = 2) ∧ ¬(kp = 2 ∧ kq < 2) → b' = 0 ∧ A = U1 ∧ B = Y1 ∧ C = U2 ∧ E = Y2)) :
    meetP K kp s1 x1 y1 kq s2 x2 y2 b' A B C E := by
  obtain ⟨w1, w2, w3⟩ := hcs
  by_cases q1 : kp < 2 ∧ kq = 2
  · obtain ⟨v1, rfl, rfl⟩ := w1 q1
    clear w1 w2 w3
    have hK2 : K = 2 := by clear v1; omega
    have hkn : kp ≠ 2 := by clear v1; omega
    have m1 := meet_fin (kk := K) (k := kp) (s := s1) (b' := b') (A := A) (B := B) hY1 hy1 h1 hs1 ⟨fun _ => v1, fun e => absurd ⟨hK2, hkn⟩ e⟩ hb1
    have m2 : meetN K kq s2 x2 y2 = some (2, s2, x2, y2) := by unfold meetN; rw [if_neg (fun e => e.2 q1.2)]
    rcases m1 with ⟨r1, -, -, r2⟩ | ⟨r1, u9, d9, r2, r3, r4, r5, r6, r7, r8, r9⟩
    · exact Or.inl ⟨r1, Or.inl r2⟩
    · exact Or.inr ⟨r1 ⟨hK2, hkn⟩, u9, d9, x2, y2, r2, m2, ⟨r3, r4, r5, r6, r7, r8⟩, ⟨h2, hY2, hy2, Iff.rfl, hb2⟩, fun e => absurd hK2 e⟩
  · by_cases q2 : kp = 2 ∧ kq < 2
    · obtain ⟨v1, rfl, rfl⟩ := w2 q2
      clear w1 w2 w3
      have hK2 : K = 2 := by clear v1; omega
      have hkn : kq ≠ 2 := by clear v1; omega
      have m1 := meet_fin (kk := K) (k := kq) (s := s2) (b' := b') (A := C) (B := E) hY2 hy2 h2 hs2 ⟨fun _ => v1, fun e => absurd ⟨hK2, hkn⟩ e⟩ hb2
      have m2 : meetN K kp s1 x1 y1 = some (2, s1, x1, y1) := by unfold meetN; rw [if_neg (fun e => e.2 q2.1)]
      rcases m1 with ⟨r1, -, -, r2⟩ | ⟨r1, u9, d9, r2, r3, r4, r5, r6, r7, r8, r9⟩
      · exact Or.inl ⟨r1, Or.inr r2⟩
      · exact Or.inr ⟨r1 ⟨hK2, hkn⟩, x1, y1, u9, d9, m2, r2, ⟨h1, hY1, hy1, Iff.rfl, hb1⟩, ⟨r3, r4, r5, r6, r7, r8⟩, fun e => absurd hK2 e⟩
    · obtain ⟨v1, rfl, rfl, rfl, rfl⟩ := w3 ⟨q1, q2⟩
      clear w1 w2 w3
      refine Or.inr ⟨v1, x1, y1, x2, y2, ?_, ?_, ⟨h1, hY1, hy1, Iff.rfl, hb1⟩, ⟨h2, hY2, hy2, Iff.rfl, hb2⟩, fun _ => ⟨rfl, rfl⟩⟩
      · unfold meetN; rw [if_neg (by omega)]
      · unfold meetN; rw [if_neg (by omega)]
theorem meetP_1 {K k1 s1 : Int} {u1 d1 : Nat} {k2 s2 : Int} {u2 d2 : Nat} {b' : Int} {A B C E : Nat} {op : Int} (h : meetP K k1 s1 u1 d1 k2 s2 u2 d2 b' A B C E) (hb : b' ≠ 0) (hK : K = max k1 k2) : reckF op k1 s1 u1 d1 k2 s2 u2 d2 = none := by
  subst hK
  rcases h with ⟨w1, w2⟩ | ⟨w1, -⟩
  · unfold reckF
    rcases w2 with w | w
    · rw [w]; rfl
    · cases meetN (max k1 k2) k1 s1 u1 d1 with
      | none => rfl
      | some r => rw [w]; rfl
  · exact absurd w1 hb
theorem meetP_0 {K k1 s1 : Int} {u1 d1 : Nat} {k2 s2 : Int} {u2 d2 : Nat} {b' : Int} {A B C E : Nat} (h : meetP K k1 s1 u1 d1 k2 s2 u2 d2 b' A B C E) (hb : b' = 0) (hK : K = max k1 k2) : ∃ u9 d9 v9 e9, (∀ op, reckF op k1 s1 u1 d1 k2 s2 u2 d2 = opF op K s1 u9 d9 s2 v9 e9) ∧
    (A * d9 = u9 * B ∧ 0 < B ∧ 0 < d9 ∧ (u1 = 0 ↔ u9 = 0) ∧ A < 2 ^ 168 ∧ B < 2 ^ 168) ∧ (C * e9 = v9 * E ∧ 0 < E ∧ 0 < e9 ∧ (u2 = 0 ↔ v9 = 0) ∧ C < 2 ^ 168 ∧ E < 2 ^ 168) ∧ (K ≠ 2 → d9 = d1 ∧ e9 = d2) := by
  subst hK
  rcases h with ⟨w1, -⟩ | ⟨-, u9, d9, v9, e9, r1, r2, r3, r4, r5⟩
  · omega
  · refine ⟨u9, d9, v9, e9, fun op => ?_, r3, r4, r5⟩
    unfold reckF
    rw [r1, r2]; rfl
theorem hrs_s {r : Int} (h : r = 0 ∨ r = 1) : r = if (if r = 1 then (-1 : Int) else 1) < 0 then 1 else 0 := by
  rcases h with rfl | rfl <;> rfl
theorem hrs_x {x y : Int} : (if x = y then (0 : Int) else 1) = if (if x = y then (1 : Int) else -1) < 0 then 1 else 0 := by
  by_cases q : x = y
  · rw [if_pos q, if_pos q]; rfl
  · rw [if_neg q, if_neg q]; rfl
def powQ (z kd sx : Int) (ux dx n : Nat) (W : Nat → Nat) (f' : Nat → Int) : Prop := (z = 0 ∧ powF kd sx ux dx n = none) ∨ (z = 1 ∧ ∃ s u d, powF kd sx ux dx n = some (kd, s, u, d) ∧ W 20 * d = u * W 21 ∧ 0 < W 21 ∧ W 20 < 2 ^ 224 ∧ W 21 < 2 ^ 224 ∧ 0 < d ∧ f' 7 = (if s < 0 then 1 else 0) ∧ (-1 ≤ s ∧ s ≤ 1))
theorem powQ_1 {z kd sx : Int} {ux dx n : Nat} {W : Nat → Nat} {f' : Nat → Int} (h : powQ z kd sx ux dx n W f') (hz : z ≠ 0) (hk : 0 ≤ kd ∧ kd ≤ 2) (hs : -1 ≤ sx ∧ sx ≤ 1) (hs0 : sx = 0 → ux = 0) (hd : 0 < dx) (hk0 : kd = 0 → dx = 1) :
    ∃ s, powF kd sx ux dx n = fin kd s (W 20) (W 21) ∧ 0 < W 21 ∧ W 20 < 2 ^ 224 ∧ W 21 < 2 ^ 224 ∧ f' 7 = (if s < 0 then 1 else 0) ∧ (-1 ≤ s ∧ s ≤ 1) ∧ (s = 0 → W 20 = 0) ∧ (kd = 0 → W 21 ∣ W 20) := by
  rcases h with ⟨w1, -⟩ | ⟨w1, s, u, d, w2, w3, w4, w5, w6, w7, w8, w9⟩
  · exact absurd w1 hz
  · have ho := (powF_ok hk hs hs0 hd hk0 w2).1
    obtain ⟨a1, a2, a3, a4, a5, a6, a7, a8, a9, a10⟩ := okv_b ho (by omega)
    refine ⟨s, ?_, w4, w5, w6, w8, w9, fun e => ?_, fun e => ?_⟩
    · rw [w2, fin_ratio w4 w7 w3, a4]
    · rw [a8.mp e, Nat.zero_mul] at w3
      rcases Nat.mul_eq_zero.mp w3 with q | q
      · exact q
      · omega
    · rw [a6 e, Nat.mul_one] at w3
      exact ⟨u, by rw [w3, Nat.mul_comm]⟩
theorem powQ_0 {z kd sx : Int} {ux dx n : Nat} {W : Nat → Nat} {f' : Nat → Int} (h : powQ z kd sx ux dx n W f') (hz : z = 0) : powF kd sx ux dx n = none := by
  rcases h with ⟨-, w⟩ | ⟨w, -⟩
  · exact w
  · omega
theorem dvd_pl {xs ys : Int} {A B T : Nat} (h1 : T ∣ A) (h2 : T ∣ B) : T ∣ plM xs ys A B := by
  unfold plM
  split
  · exact Nat.dvd_add h1 h2
  · split
    · exact Nat.dvd_sub h1 h2
    · exact Nat.dvd_sub h2 h1
theorem dvd_of {A B u d : Nat} (h : A * d = u * B) (hd : d = 1) : B ∣ A := by
  rw [hd, Nat.mul_one] at h
  exact ⟨u, by rw [h, Nat.mul_comm]⟩
