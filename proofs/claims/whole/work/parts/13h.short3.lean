/-! bounds -/
theorem near_st {C D M : Nat} {n : Int} (hC : 0 < C) (hD : 0 < D) (hM : 4503599627370496 ≤ M ∧ M < 9007199254740992) (hn : -47 ≤ n ∧ n ≤ 152) :
    near 1 C D = some (2, 1, lowu (su M (-n)) (sd 1 (-n)), lowd (su M (-n)) (sd 1 (-n))) ↔ ((ns C D = n ∧ nq C D (ns C D) = M) ∨ (ns C D = n + 1 ∧ nq C D (ns C D) = 9007199254740992 ∧ M = 4503599627370496)) := by
  have hR := ns_inR hC hD
  obtain ⟨q1, q2⟩ := nq_rng hD hR
  rw [← bin_same (a := ns C D) (b := n) ⟨q1, q2⟩ hM, ← low_iff (sd_pos (by decide) _) (sd_pos (by decide) _)]
  unfold near
  rw [if_neg (by omega)]
  constructor
  · intro h
    split at h
    · injection h with h; injection h with h1 h; injection h with h2 h; injection h with h3 h4
      exact ⟨h3, h4⟩
    · exact absurd h (by simp)
  · rintro ⟨h3, h4⟩
    have h5 := (bin_same (a := ns C D) (b := n) ⟨q1, q2⟩ hM).mp ((low_iff (sd_pos (by decide) _) (sd_pos (by decide) _)).mp ⟨h3, h4⟩)
    rw [if_pos, h3, h4]
    have b1 : blen M ≤ 53 := blen_le.mpr (by omega)
    have b2 : ¬ blen M ≤ 52 := fun z => by have := blen_le.mp z; omega
    rcases h5 with ⟨h6, h7⟩ | ⟨h6, h7, h8⟩
    · rw [h7]; omega
    · have g1 : blen (nq C D (ns C D)) ≤ 54 := blen_le.mpr (by rw [h7]; decide)
      have g2 : ¬ blen (nq C D (ns C D)) ≤ 53 := fun z => by
        have h9 := blen_le.mp z
        rw [h7] at h9
        exact absurd h9 (by decide)
      rw [h6] at *
      omega
