/-! bounds -/
theorem bnd_p1 {K E : Nat} (hK : 1 ≤ K) : (4 * K - 1) * E = 4 * (K * E) - E := by rw [Nat.sub_mul, Nat.one_mul, Nat.mul_assoc]
theorem bnd_p2 {K E : Nat} (hK : 1 ≤ K) : (4 * K - 2) * E = 4 * (K * E) - 2 * E := by rw [Nat.sub_mul, Nat.mul_assoc]
theorem bnd_p3 {K E : Nat} : (4 * K + 2) * E = 4 * (K * E) + 2 * E := by rw [Nat.add_mul, Nat.mul_assoc]
theorem bnd_a {Y E K K2 : Nat} (h2 : K2 = 2 * K) (hp : K % 2 = 0) (h : (4 * K2 - 2) * E < 4 * (2 * Y) ∨ ((4 * K2 - 2) * E = 4 * (2 * Y) ∧ K2 % 2 = 0)) (hE : 0 < E) (hK : 1 ≤ K) (cA : ¬ K * E ≤ Y) : ((4 * K - 1) * E < 4 * Y ∨ ((4 * K - 1) * E = 4 * Y ∧ K % 2 = 0)) ∧ (4 * Y < (4 * K + 2) * E ∨ (4 * Y = (4 * K + 2) * E ∧ K % 2 = 0)) := by
  subst h2
  rw [bnd_p2 (by omega), Nat.mul_assoc 2 K E] at h
  rw [bnd_p1 hK, bnd_p3]
  have h3 : E ≤ K * E := Nat.le_mul_of_pos_left _ hK
  generalize K * E = P at *
  refine ⟨?_, Or.inl (by omega)⟩
  rcases h with h | h
  · exact Or.inl (by omega)
  · exact Or.inr ⟨by omega, hp⟩
theorem bnd_b {Y E K K2 : Nat} (h2 : K2 = 2 * K) (h : (4 * K - 1) * E < 4 * Y ∨ ((4 * K - 1) * E = 4 * Y ∧ K % 2 = 0)) (hE : 0 < E) (hK : 1 ≤ K) (cA : ¬ K * E ≤ Y) : ((4 * K2 - 2) * E < 4 * (2 * Y) ∨ ((4 * K2 - 2) * E = 4 * (2 * Y) ∧ K2 % 2 = 0)) ∧ (4 * (2 * Y) < (4 * K2 + 2) * E ∨ (4 * (2 * Y) = (4 * K2 + 2) * E ∧ K2 % 2 = 0)) := by
  subst h2
  rw [bnd_p1 hK] at h
  rw [bnd_p2 (by omega), bnd_p3, Nat.mul_assoc 2 K E]
  have h3 : E ≤ K * E := Nat.le_mul_of_pos_left _ hK
  generalize K * E = P at *
  refine ⟨?_, Or.inl (by omega)⟩
  rcases h with h | h
  · exact Or.inl (by omega)
  · exact Or.inr ⟨by omega, by omega⟩
theorem bnd_c1 {Y E K J : Nat} (h2 : K = 2 * J) (hJ : 1 ≤ J) (h : (4 * K - 1) * E ≤ 4 * Y) : J * E ≤ Y := by
  subst h2
  rw [bnd_p1 (by omega), Nat.mul_assoc 2 J E] at h
  have h3 : E ≤ J * E := Nat.le_mul_of_pos_left _ hJ
  omega
theorem bnd_e {Y E K M : Nat} (hM : K < M) (hK : 1 ≤ K) (cA : ¬ K * E ≤ Y) (h : (4 * M - 2) * E < 4 * Y ∨ ((4 * M - 2) * E = 4 * Y ∧ M % 2 = 0)) (hE : 0 < E) : False := by
  have h6 : (4 * K + 2) * E ≤ (4 * M - 2) * E := Nat.mul_le_mul_right _ (by omega)
  rw [bnd_p3] at h6
  omega
theorem bnd_c {C D : Nat} {n : Int} (hC : 0 < C) (hD : 0 < D) (cA : ¬ 4503599627370496 * sd D n ≤ su C n) (h : (4 * 4503599627370496 - 1) * sd D n ≤ 4 * su C n) : ns C D = n + 1 := by
  have pE := sd_pos hD n
  refine ns_eq hC hD ⟨?_, ?_⟩
  · have h5 := (s_half (U := C) hD (b := n + 1) (c := 2251799813685248)).mpr (by rw [show n + 1 - 1 = n by omega]; exact bnd_c1 (K := 4503599627370496) (J := 2251799813685248) rfl (by decide) h)
    rw [show 2 * 2251799813685248 = 4503599627370496 from rfl] at h5
    exact h5
  · apply Nat.lt_of_not_le
    intro q
    have h5 := (s_half (U := C) hD (b := n + 1) (c := 4503599627370496)).mp (by rw [show 2 * 4503599627370496 = 9007199254740992 from rfl]; exact q)
    rw [show n + 1 - 1 = n by omega] at h5
    exact cA h5
theorem bnd_d {C D : Nat} {n : Int} (hD : 0 < D) : nq C D (n + 1) = rnd (2 * su C n / sd D n) (2 * su C n % sd D n) (sd D n) := by
  have hc := s_cross (U := C) (D := D) (show n ≤ n + 1 by omega)
  rw [show (n + 1 - n).toNat = 1 by omega, Nat.pow_one] at hc
  show rnd _ _ _ = _
  exact rnd_ratio (sd_pos hD _) (sd_pos hD _) (by rw [hc, Nat.mul_assoc])
theorem near_bnd {C D M : Nat} {n : Int} (hC : 0 < C) (hD : 0 < D) (hM : 4503599627370496 ≤ M ∧ M < 9007199254740992) (hn : -47 ≤ n ∧ n ≤ 152) :
    near 1 C D = some (2, 1, lowu (su M (-n)) (sd 1 (-n)), lowd (su M (-n)) (sd 1 (-n))) ↔ bnd (4 * su C n) (sd D n) M := by
  have hR := ns_inR hC hD
  obtain ⟨q1, q2⟩ := nq_rng hD hR
  rw [near_st hC hD hM hn]
  have pE := sd_pos hD n
  have hnq : ∀ m, nq C D m = rnd (su C m / sd D m) (su C m % sd D m) (sd D m) := fun _ => rfl
  unfold bnd
  by_cases cA : 4503599627370496 * sd D n ≤ su C n
  · by_cases cB : su C n < 9007199254740992 * sd D n
    · have hns : ns C D = n := ns_eq hC hD ⟨cA, cB⟩
      rw [hns, hnq]
      have h1 := rnd_iff (Y := su C n) (E := sd D n) (M := M) pE (by omega)
      generalize su C n = Y at *
      generalize sd D n = E at *
      constructor
      · rintro (⟨-, h⟩ | ⟨h, -, -⟩)
        · have h2 := h1.mp h
          refine ⟨?_, h2.2⟩
          split
          · rename_i h3
            subst h3
            exact Or.inl (by omega)
          · exact h2.1
        · omega
      · intro h
        refine Or.inl ⟨rfl, h1.mpr ⟨?_, h.2⟩⟩
        by_cases h3 : M = 4503599627370496
        · subst h3
          exact Or.inl (by omega)
        · have h4 := h.1
          rw [if_neg h3] at h4
          exact h4
    · constructor
      · rintro (⟨h, -⟩ | ⟨h, -, -⟩)
        · rw [h] at hR; exact absurd hR.2 cB
        · rw [h] at hR
          have h5 := (s_half (U := C) hD (b := n + 1) (c := 9007199254740992)).mpr (by rw [show n + 1 - 1 = n by omega]; omega)
          have h6 := hR.2
          have := sd_pos hD (n + 1)
          omega
      · rintro ⟨-, h⟩
        have h6 : (4 * M + 2) * sd D n ≤ (4 * 9007199254740992 - 2) * sd D n := Nat.mul_le_mul_right _ (by omega)
        omega
  · by_cases cM : M = 4503599627370496
    · rw [cM, if_pos rfl]
      have h1 := rnd_iff (Y := 2 * su C n) (E := sd D n) (M := 9007199254740992) pE (by decide)
      constructor
      · intro w
        rcases w with ⟨h, -⟩ | ⟨h, h2, -⟩
        · rw [h] at hR; exact absurd hR.1 cA
        · rw [h, bnd_d hD] at h2
          exact bnd_a rfl rfl (h1.mp h2).1 pE (by decide) cA
      · rintro ⟨h, -⟩
        have hns : ns C D = n + 1 := bnd_c hC hD cA (by rcases h with h | h; exact Nat.le_of_lt h; exact Nat.le_of_eq h.1)
        refine Or.inr ⟨hns, ?_, rfl⟩
        rw [hns, bnd_d hD]
        exact h1.mpr (bnd_b rfl h pE (by decide) cA)
    · rw [if_neg cM]
      constructor
      · intro w
        rcases w with ⟨h, -⟩ | ⟨-, -, h⟩
        · rw [h] at hR; exact absurd hR.1 cA
        · exact absurd h cM
      · rintro ⟨h, -⟩
        exact (bnd_e (K := 4503599627370496) (by omega) (by decide) cA h pE).elim
