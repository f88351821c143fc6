/-! the shortest digits: seventeen are enough -/
theorem sc_lt {L E Y A M K : Nat} (hA : 0 < A) (hE : 0 < E) (h : Y * A = M * E * K) : (L * E < 4 * Y ↔ L * A < 4 * M * K) ∧ (L * E = 4 * Y ↔ L * A = 4 * M * K) ∧ (4 * Y < L * E ↔ 4 * M * K < L * A) := by
  have e1 : L * E * A = L * A * E := by ac_rfl
  have e2 : 4 * Y * A = 4 * M * K * E := by
    rw [Nat.mul_assoc 4 Y A, h]; ac_rfl
  refine ⟨?_, ?_, ?_⟩
  · rw [← Nat.mul_lt_mul_right hA, e1, e2, Nat.mul_lt_mul_right hE]
  · constructor
    · intro q
      have : L * E * A = 4 * Y * A := by rw [q]
      rw [e1, e2] at this
      exact Nat.eq_of_mul_eq_mul_right hE this
    · intro q
      have : L * A * E = 4 * M * K * E := by rw [q]
      rw [← e1, ← e2] at this
      exact Nat.eq_of_mul_eq_mul_right hA this
  · rw [← Nat.mul_lt_mul_right hA, e1, e2, Nat.mul_lt_mul_right hE]
/-- the lower bound, in quarters -/
def LM (M : Nat) : Nat := if M = 4503599627370496 then 4 * M - 1 else 4 * M - 2
theorem lead_iff {u d M G : Nat} {n q : Int} (hG : 0 < G) (hu : 0 < u) (hd : 0 < d) (hM : 4503599627370496 ≤ M ∧ M < 9007199254740992) (hn : -47 ≤ n ∧ n ≤ 152) (hr : su M (-n) * d = u * sd 1 (-n)) (hlu : u = lowu (su M (-n)) (sd 1 (-n))) (hld : d = lowd (su M (-n)) (sd 1 (-n))) :
    lead u d q G ↔ (LM M * (u * 10 ^ (-q).toNat) < 4 * M * (G * (d * 10 ^ q.toNat)) ∨ (LM M * (u * 10 ^ (-q).toNat) = 4 * M * (G * (d * 10 ^ q.toNat)) ∧ M % 2 = 0)) ∧ (4 * M * (G * (d * 10 ^ q.toNat)) < (4 * M + 2) * (u * 10 ^ (-q).toNat) ∨ (4 * M * (G * (d * 10 ^ q.toNat)) = (4 * M + 2) * (u * 10 ^ (-q).toNat) ∧ M % 2 = 0)) := by
  have hC : 0 < G * 10 ^ q.toNat := Nat.mul_pos hG (Nat.pow_pos (by decide))
  have hD : 0 < 1 * 10 ^ (-q).toNat := Nat.mul_pos (by decide) (Nat.pow_pos (by decide))
  have h1 := near_bnd (C := G * 10 ^ q.toNat) (D := 1 * 10 ^ (-q).toNat) (M := M) (n := n) hC hD hM hn
  rw [← hlu, ← hld] at h1
  unfold lead
  rw [h1]
  clear h1 hlu hld
  have hA : 0 < u * 10 ^ (-q).toNat := Nat.mul_pos hu (Nat.pow_pos (by decide))
  have hE : 0 < sd (1 * 10 ^ (-q).toNat) n := sd_pos hD n
  have key : su (G * 10 ^ q.toNat) n * (u * 10 ^ (-q).toNat) = M * sd (1 * 10 ^ (-q).toNat) n * (G * (d * 10 ^ q.toNat)) := by
    unfold su sd at *
    rw [Int.neg_neg, Nat.one_mul] at hr
    have a1 : G * 10 ^ q.toNat * 2 ^ n.toNat * (u * 10 ^ (-q).toNat) = G * 10 ^ q.toNat * 10 ^ (-q).toNat * (u * 2 ^ n.toNat) := by ac_rfl
    rw [a1, ← hr, Nat.one_mul]
    ac_rfl
  obtain ⟨s1, s2, -⟩ := sc_lt (L := LM M) hA hE key
  obtain ⟨-, t2, t3⟩ := sc_lt (L := 4 * M + 2) hA hE key
  have t2' : 4 * su (G * 10 ^ q.toNat) n = (4 * M + 2) * sd (1 * 10 ^ (-q).toNat) n ↔ 4 * M * (G * (d * 10 ^ q.toNat)) = (4 * M + 2) * (u * 10 ^ (-q).toNat) := by
    rw [eq_comm, t2, eq_comm]
  unfold bnd
  show ((LM M * _ < _ ∨ (LM M * _ = _ ∧ _)) ∧ _) ↔ _
  rw [s1, s2, t3, t2']
theorem rch_k {u d : Nat} {e : Int} {k : Nat} : rch u d e ↔ 10 ^ k * (d * 10 ^ (-((k : Int) - e)).toNat) ≤ u * 10 ^ ((k : Int) - e).toNat := by
  unfold rch
  have hc : (0 : Nat) < 10 ^ ((k : Int) - e).toNat := Nat.pow_pos (by decide)
  have hb : (0 : Nat) < 10 ^ (-e).toNat := Nat.pow_pos (by decide)
  have e1 : d * 10 ^ e.toNat * 10 ^ ((k : Int) - e).toNat = 10 ^ k * (d * 10 ^ (-((k : Int) - e)).toNat) * 10 ^ (-e).toNat := by
    have : 10 ^ k * (d * 10 ^ (-((k : Int) - e)).toNat) * 10 ^ (-e).toNat = d * (10 ^ k * 10 ^ (-((k : Int) - e)).toNat * 10 ^ (-e).toNat) := by ac_rfl
    rw [this, Nat.mul_assoc, ← Nat.pow_add, ← Nat.pow_add, ← Nat.pow_add]
    congr 2; omega
  have e2 : u * 10 ^ (-e).toNat * 10 ^ ((k : Int) - e).toNat = u * 10 ^ ((k : Int) - e).toNat * 10 ^ (-e).toNat := Nat.mul_right_comm _ _ _
  constructor
  · intro h
    have h2 := Nat.mul_le_mul_right (10 ^ ((k : Int) - e).toNat) h
    rw [e1, e2] at h2
    exact Nat.le_of_mul_le_mul_right h2 hb
  · intro h
    have h2 := Nat.mul_le_mul_right (10 ^ (-e).toNat) h
    rw [← e1, ← e2] at h2
    exact Nat.le_of_mul_le_mul_right h2 hc
/-- with the first m digits before the point -/
theorem isX_m {u d m : Nat} {e : Int} (hd : 0 < d) (h : isX u d e) (hm : 1 ≤ m) : 10 ^ (m - 1) ≤ u * 10 ^ ((m : Int) - 1 - e).toNat / (d * 10 ^ (-((m : Int) - 1 - e)).toNat) ∧ u * 10 ^ ((m : Int) - 1 - e).toNat / (d * 10 ^ (-((m : Int) - 1 - e)).toNat) < 10 ^ m ∧ 10 ^ (m - 1) * (d * 10 ^ (-((m : Int) - 1 - e)).toNat) ≤ u * 10 ^ ((m : Int) - 1 - e).toNat := by
  have hB : 0 < d * 10 ^ (-((m : Int) - 1 - e)).toNat := Nat.mul_pos hd (Nat.pow_pos (by decide))
  have h1 := (rch_k (k := m - 1)).mp h.1
  have h2 := mt (rch_k (k := m)).mpr h.2
  rw [show (((m - 1 : Nat) : Int) - e) = (m : Int) - 1 - e by omega] at h1
  rw [show ((m : Int) - (e + 1)) = (m : Int) - 1 - e by omega] at h2
  refine ⟨(Nat.le_div_iff_mul_le hB).mpr h1, (Nat.div_lt_iff_lt_mul hB).mpr (by omega), h1⟩
theorem shN_a {u d m : Nat} {e : Int} (h1 : lead u d (e + 1 - m) (u * 10 ^ ((m : Int) - 1 - e).toNat / (d * 10 ^ (-((m : Int) - 1 - e)).toNat)))
    (h2 : ¬ lead u d (e + 1 - m) (u * 10 ^ ((m : Int) - 1 - e).toNat / (d * 10 ^ (-((m : Int) - 1 - e)).toNat) + 1) ∨ u * 10 ^ ((m : Int) - 1 - e).toNat % (d * 10 ^ (-((m : Int) - 1 - e)).toNat) * 2 < d * 10 ^ (-((m : Int) - 1 - e)).toNat ∨ (u * 10 ^ ((m : Int) - 1 - e).toNat % (d * 10 ^ (-((m : Int) - 1 - e)).toNat) * 2 = d * 10 ^ (-((m : Int) - 1 - e)).toNat ∧ u * 10 ^ ((m : Int) - 1 - e).toNat / (d * 10 ^ (-((m : Int) - 1 - e)).toNat) % 2 = 0)) :
    shN u d e m = some (u * 10 ^ ((m : Int) - 1 - e).toNat / (d * 10 ^ (-((m : Int) - 1 - e)).toNat)) := if_pos ⟨h1, h2⟩
theorem shN_b {u d m : Nat} {e : Int} (h1 : lead u d (e + 1 - m) (u * 10 ^ ((m : Int) - 1 - e).toNat / (d * 10 ^ (-((m : Int) - 1 - e)).toNat) + 1))
    (h2 : ¬(lead u d (e + 1 - m) (u * 10 ^ ((m : Int) - 1 - e).toNat / (d * 10 ^ (-((m : Int) - 1 - e)).toNat)) ∧ (u * 10 ^ ((m : Int) - 1 - e).toNat % (d * 10 ^ (-((m : Int) - 1 - e)).toNat) * 2 < d * 10 ^ (-((m : Int) - 1 - e)).toNat ∨ (u * 10 ^ ((m : Int) - 1 - e).toNat % (d * 10 ^ (-((m : Int) - 1 - e)).toNat) * 2 = d * 10 ^ (-((m : Int) - 1 - e)).toNat ∧ u * 10 ^ ((m : Int) - 1 - e).toNat / (d * 10 ^ (-((m : Int) - 1 - e)).toNat) % 2 = 0)))) :
    shN u d e m = some (u * 10 ^ ((m : Int) - 1 - e).toNat / (d * 10 ^ (-((m : Int) - 1 - e)).toNat) + 1) := by
  refine (if_neg (fun w => h2 ⟨w.1, ?_⟩)).trans (if_pos h1)
  rcases w.2 with w2 | w2
  · exact absurd h1 w2
  · exact w2
theorem shN_n {u d m : Nat} {e : Int} (h1 : ¬ lead u d (e + 1 - m) (u * 10 ^ ((m : Int) - 1 - e).toNat / (d * 10 ^ (-((m : Int) - 1 - e)).toNat)))
    (h2 : ¬ lead u d (e + 1 - m) (u * 10 ^ ((m : Int) - 1 - e).toNat / (d * 10 ^ (-((m : Int) - 1 - e)).toNat) + 1)) : shN u d e m = none :=
  (if_neg (fun w => h1 w.1)).trans (if_neg h2)
theorem shN_17 {u d M : Nat} {n e : Int} (hu : 0 < u) (hd : 0 < d) (hM : 4503599627370496 ≤ M ∧ M < 9007199254740992) (hn : -47 ≤ n ∧ n ≤ 152) (hr : su M (-n) * d = u * sd 1 (-n)) (hlu : u = lowu (su M (-n)) (sd 1 (-n))) (hld : d = lowd (su M (-n)) (sd 1 (-n))) (hX : isX u d e) : shN u d e 17 ≠ none := by
  obtain ⟨h1, h2, h3⟩ := isX_m (m := 17) hd hX (by decide)
  have k1 := fun G hG => lead_iff (G := G) (q := e + 1 - (17 : Nat)) hG hu hd hM hn hr hlu hld
  rw [show -(e + 1 - ((17 : Nat) : Int)) = ((17 : Nat) : Int) - 1 - e by omega, show e + 1 - ((17 : Nat) : Int) = -(((17 : Nat) : Int) - 1 - e) by omega] at k1
  have hB : 0 < d * 10 ^ (-(((17 : Nat) : Int) - 1 - e)).toNat := Nat.mul_pos hd (Nat.pow_pos (by decide))
  have ha := fun x y => shN_a (u := u) (d := d) (m := 17) (e := e) x y
  have hb := fun x y => shN_b (u := u) (d := d) (m := 17) (e := e) x y
  rw [show e + 1 - ((17 : Nat) : Int) = -(((17 : Nat) : Int) - 1 - e) by omega] at ha hb
  generalize u * 10 ^ (((17 : Nat) : Int) - 1 - e).toNat = A at *
  generalize d * 10 ^ (-(((17 : Nat) : Int) - 1 - e)).toNat = B at *
  have hdm := Nat.div_add_mod A B
  have hrm := Nat.mod_lt A hB
  have hG1 : 0 < A / B := Nat.lt_of_lt_of_le (by decide) h1
  generalize A / B = G at *
  generalize A % B = r at *
  have hMB : M * B < 9007199254740992 * B := Nat.mul_lt_mul_of_pos_right hM.2 hB
  have h3' : 10000000000000000 * B ≤ A := h3
  have hA : A = G * B + r := by rw [← hdm, Nat.mul_comm B G]
  have hMA : M * A = M * (G * B) + M * r := by rw [hA, Nat.mul_add]
  have hMA1 : A ≤ M * A := Nat.le_mul_of_pos_left _ (by omega)
  rw [hMA] at hMA1
  have hLA : LM M * A = 4 * (M * A) - (if M = 4503599627370496 then 1 else 2) * A := by
    unfold LM
    split
    · rw [Nat.sub_mul, Nat.mul_assoc]
    · rw [Nat.sub_mul, Nat.mul_assoc]
  have hUA : (4 * M + 2) * A = 4 * (M * A) + 2 * A := by rw [Nat.add_mul, Nat.mul_assoc]
  by_cases c : r * 2 ≤ B
  · have hMr : M * (r * 2) ≤ M * B := Nat.mul_le_mul_left _ c
    rw [← Nat.mul_assoc] at hMr
    have hl : lead u d (-(((17 : Nat) : Int) - 1 - e)) G := by
      refine (k1 G hG1).mpr ⟨Or.inl ?_, Or.inl ?_⟩
      · rw [hLA, hMA, Nat.mul_assoc 4 M]
        split
        · rename_i e1
          rw [e1] at *
          omega
        · omega
      · rw [hUA, hMA, Nat.mul_assoc 4 M]; omega
    by_cases c2 : r * 2 < B ∨ (r * 2 = B ∧ G % 2 = 0)
    · rw [ha hl (Or.inr c2)]; simp
    · by_cases c3 : lead u d (-(((17 : Nat) : Int) - 1 - e)) (G + 1)
      · rw [hb c3 (fun w => c2 w.2)]; simp
      · rw [ha hl (Or.inl c3)]; simp
  · have hl : lead u d (-(((17 : Nat) : Int) - 1 - e)) (G + 1) := by
      have hs : M * ((B - r) * 2) ≤ M * B := Nat.mul_le_mul_left _ (by omega)
      rw [← Nat.mul_assoc, Nat.mul_sub] at hs
      have hGB : M * ((G + 1) * B) = M * (G * B) + M * B := by rw [Nat.add_mul, Nat.one_mul, Nat.mul_add]
      have hMr : M * r ≤ M * B := Nat.mul_le_mul_left _ (by omega)
      refine (k1 (G + 1) (Nat.succ_pos _)).mpr ⟨Or.inl ?_, Or.inl ?_⟩
      · rw [hLA, hMA, Nat.mul_assoc 4 M, hGB]
        have : 0 < A := by omega
        split <;> omega
      · rw [hUA, hMA, Nat.mul_assoc 4 M, hGB]; omega
    rw [hb hl (fun w => by have := w.2; omega)]; simp
theorem cmp2_ratio {a b a' b' : Nat} (hb : 0 < b) (hb' : 0 < b') (h : a * b' = a' * b) : (a % b * 2 < b ↔ a' % b' * 2 < b') ∧ (a % b * 2 = b ↔ a' % b' * 2 = b') := by
  have h2 := (div_ratio hb hb' h).2
  have e1 : a % b * 2 * b' = a' % b' * 2 * b := by rw [Nat.mul_right_comm, h2, Nat.mul_right_comm]
  have e2 : b * b' = b' * b := Nat.mul_comm _ _
  constructor
  · rw [← Nat.mul_lt_mul_right hb', e1, e2, Nat.mul_lt_mul_right hb]
  · constructor
    · intro q
      have : a % b * 2 * b' = b * b' := by rw [q]
      rw [e1, e2] at this
      exact Nat.eq_of_mul_eq_mul_right hb this
    · intro q
      have : a' % b' * 2 * b = b' * b := by rw [q]
      rw [← e1, ← e2] at this
      exact Nat.eq_of_mul_eq_mul_right hb' this
