/-! the Model's regions: a step of the long division -/
theorem sg_same {a n : Nat} {A h : Nat → Int} (hs : ∀ k, k < n → h (26 * a + k) = A k) : h = sg a 0 n A h := by
  funext x
  simp only [sg]
  by_cases q : 26 * a + 0 ≤ x ∧ x < 26 * a + n
  · rw [if_pos q, ← hs (x - 26 * a) (by omega)]; congr 1; omega
  · rw [if_neg q]
theorem kn_up {W d Q : Nat} (hQ : 0 < Q) (hf : 0 < d / Q) : W / d ≤ W / Q / (d / Q) := by
  have hd : 0 < d := Nat.lt_of_lt_of_le hf (Nat.div_le_self _ _)
  rw [Nat.le_div_iff_mul_le hf, Nat.le_div_iff_mul_le hQ, Nat.mul_assoc]
  exact Nat.le_trans (Nat.mul_le_mul_left _ (Nat.div_mul_le_self d Q)) (Nat.div_mul_le_self W d)
theorem kn_lo {W d P H f s u q r B : Nat} (hP : 0 < P) (hd : d / P = f * B + s) (hW : W / P = H * B + u) (hq : q * f + r = H) (hc : r * B + u < q * s) : W / d < q := by
  have h1 : W / P < q * (d / P) := by
    rw [hW, hd, ← hq, Nat.add_mul, Nat.mul_add, Nat.mul_assoc]; omega
  rw [Nat.div_lt_iff_lt_mul hP, Nat.mul_assoc] at h1
  have h2 : W < q * d := Nat.lt_of_lt_of_le h1 (Nat.mul_le_mul_left _ (Nat.div_mul_le_self d P))
  have h3 : 0 < d := by
    apply Nat.pos_of_ne_zero
    rintro rfl
    rw [Nat.mul_zero] at h2
    omega
  rw [Nat.div_lt_iff_lt_mul h3]
  exact h2
theorem kn_hi {W d P H f s u q r B : Nat} (hP : 0 < P) (hd : d / P = f * B + s) (hW : W / P = H * B + u) (hq : q * f + r = H) (hs : s < B) (hf : 1 ≤ f) (hH : H < (f + 1) * B) (hc : B ≤ r ∨ (q < B ∧ q * s ≤ r * B + u)) : q < B ∧ q ≤ W / d + 1 := by
  have hqB : q < B := by
    rcases hc with h1 | h1
    · apply Nat.lt_of_not_le
      intro h2
      have h3 := Nat.mul_le_mul_right f h2
      rw [Nat.succ_mul, Nat.mul_comm f] at hH
      omega
    · exact h1.1
  have hqs : q * s ≤ r * B + u := by
    rcases hc with h1 | h1
    · exact Nat.le_trans (Nat.mul_le_mul (Nat.le_of_lt hqB) (Nat.le_of_lt hs)) (Nat.le_trans (Nat.mul_le_mul_right B h1) (Nat.le_add_right _ _))
    · exact h1.2
  have h1 : q * (d / P) ≤ W / P := by
    rw [hW, hd, ← hq, Nat.add_mul, Nat.mul_add, Nat.mul_assoc]; omega
  have hBd : B ≤ d / P := by
    rw [hd]
    have := Nat.mul_le_mul_right B hf
    omega
  have hd0 : 0 < d := Nat.lt_of_lt_of_le (by omega : 0 < d / P) (Nat.div_le_self _ _)
  have h2 : q * d ≤ W + d := by
    have e1 : d < (d / P + 1) * P := by rw [← Nat.div_lt_iff_lt_mul hP]; omega
    have e2 : q * d ≤ q * ((d / P + 1) * P) := Nat.mul_le_mul_left _ (Nat.le_of_lt e1)
    have e3 : q * ((d / P + 1) * P) = q * (d / P) * P + q * P := by rw [Nat.succ_mul, Nat.mul_add, Nat.mul_assoc]
    have e4 : q * (d / P) * P ≤ W / P * P := Nat.mul_le_mul_right _ h1
    have e5 : W / P * P ≤ W := Nat.div_mul_le_self _ _
    have e6 : q * P ≤ d / P * P := Nat.mul_le_mul_right _ (by omega)
    have e7 : d / P * P ≤ d := Nat.div_mul_le_self _ _
    omega
  refine ⟨hqB, ?_⟩
  apply Nat.le_of_not_lt
  intro h3
  have h4 : W < (W / d + 1) * d := by rw [← Nat.div_lt_iff_lt_mul hd0]; omega
  have h5 : (W / d + 1 + 1) * d ≤ q * d := Nat.mul_le_mul_right _ h3
  rw [Nat.succ_mul] at h5
  omega
set_option maxRecDepth 100000 in
set_option maxHeartbeats 4000000 in
theorem c_M_step {l : Launch} (hfl : l.flags = flags0) {D : va_G} {g : Nat → ClassId} {ad : Nat → Nat} {N : Nat} {F : Nat → va_E} {j n d X : Nat} {hh ll : Nat → Int} {vs : List Value}
    (hN : 109 ≤ N) (hO : F 98 = .inr (8, .ref (ad 99) :: .ref (ad 100) :: vs)) (hB : F 99 = aB g hh) (hL : F 100 = aL g ll) (hn : n = lnw 28 d) (h1n : 1 ≤ n) (hjn : j + n ≤ 25) (hA : ∀ k, k ≤ j + n → hh (650 + k) = dg8 X k) (hD : ∀ k, k < n → hh (676 + k) = dg8 d k) (hno : 134217728 ≤ dgt 28 d (n - 1)) (hX : X / 2 ^ (28 * j) < d * 2 ^ 28) :
    JC l y_M_step b_M_step 19 (Option.some Jvm.ClassFile.FieldType.int) rm_M_step (0, 0) D jCl (jTys g) ad N F [.ref (ad 98), .int (iI (j : Int)), .int (iI (n : Int))] (ji ad N (fun z F' => z = ((X / 2 ^ (28 * j) / d : Nat) : Int) ∧ F' = va_up F 99 (aB g (sg 25 0 (j + n + 1) (dg8 (X - X / 2 ^ (28 * j) / d * d * 2 ^ (28 * j))) hh)))) := by
  have hnl : d < 2 ^ (28 * n) := by rw [hn]; exact lnw_lt (by decide)
  have hd0 : 0 < d := by
    apply Nat.pos_of_ne_zero
    rintro rfl
    rw [lnw_0] at hn; omega
  have hff : dgt 28 d (n - 1) = d / 2 ^ (28 * (n - 1)) := by
    unfold dgt
    rw [Nat.mod_eq_of_lt]
    rw [Nat.div_lt_iff_lt_mul (Nat.two_pow_pos _), Nat.mul_comm, ← pw_succ, show n - 1 + 1 = n by omega]; exact hnl
  have hXt : X < 2 ^ (28 * (j + n + 1)) := by
    have h1 : X / 2 ^ (28 * j) < 2 ^ (28 * (n + 1)) := by
      rw [pw_succ]; exact Nat.lt_of_lt_of_le hX (Nat.mul_le_mul_right _ (Nat.le_of_lt hnl))
    rw [Nat.div_lt_iff_lt_mul (Nat.two_pow_pos _), ← Nat.pow_add] at h1
    rw [show 28 * (j + n + 1) = 28 * (n + 1) + 28 * j by omega]; exact h1
  have hH : X / 2 ^ (28 * (j + (n - 1))) = X / 2 ^ (28 * j) / 2 ^ (28 * (n - 1)) := by rw [Nat.div_div_eq_div_mul, ← Nat.pow_add, ← Nat.mul_add]
  have hH56 : X / 2 ^ (28 * (j + (n - 1))) < 72057594037927936 := by
    rw [Nat.div_lt_iff_lt_mul (Nat.two_pow_pos _), show (72057594037927936 : Nat) = 2 ^ 56 by decide, ← Nat.pow_add, show 56 + 28 * (j + (n - 1)) = 28 * (j + n + 1) by omega]
    exact hXt
  have hHd : dgt 28 X (j + n) * 268435456 + dgt 28 X (j + n - 1) = X / 2 ^ (28 * (j + (n - 1))) := by
    rw [show j + n - 1 = j + (n - 1) by omega, show j + n = j + (n - 1) + 1 by omega]
    generalize j + (n - 1) = m at *
    unfold dgt
    rw [pw_succ, ← Nat.div_div_eq_div_mul]
    generalize X / 2 ^ (28 * m) = r at *
    omega
  have bX1 := dgt_b8 X (j + n - 1)
  have bX2 := dgt_b8 X (j + n)
  have bX3 := dgt_b8 X (j + n - 2)
  have bf := dgt_b8 d (n - 1)
  have bf2 := dgt_b8 d (n - 2)
  have hwq0 : (0 : Int) ≤ ((X / 2 ^ (28 * j) / d : Nat) : Int) := Int.natCast_nonneg _
  have hwq : X / 2 ^ (28 * j) / d < 268435456 := by
    rw [Nat.div_lt_iff_lt_mul hd0, Nat.mul_comm 268435456]; exact hX
  have hHf : X / 2 ^ (28 * (j + (n - 1))) < (dgt 28 d (n - 1) + 1) * 268435456 := by
    rw [hH, hff, Nat.div_lt_iff_lt_mul (Nat.two_pow_pos _)]
    have h1 : d < (d / 2 ^ (28 * (n - 1)) + 1) * 2 ^ (28 * (n - 1)) := by rw [← Nat.div_lt_iff_lt_mul (Nat.two_pow_pos _)]; omega
    have h2 : d * 268435456 ≤ (d / 2 ^ (28 * (n - 1)) + 1) * 2 ^ (28 * (n - 1)) * 268435456 := Nat.mul_le_mul_right _ (Nat.le_of_lt h1)
    rw [Nat.mul_right_comm]
    exact Nat.lt_of_lt_of_le hX h2
  obtain ⟨se, hse⟩ : ∃ se : Nat, se = if 1 < n then dgt 28 d (n - 2) else 0 := ⟨_, rfl⟩
  have hseb : se < 268435456 := by rw [hse]; split; exact dgt_b8 _ _; decide
  have hdP : 1 < n → d / 2 ^ (28 * (n - 2)) = dgt 28 d (n - 1) * 268435456 + se := by
    intro h1
    rw [hse, if_pos h1, hff, show n - 1 = n - 2 + 1 by omega, pw_succ, ← Nat.div_div_eq_div_mul]
    unfold dgt
    generalize d / 2 ^ (28 * (n - 2)) = r
    omega
  have hWP : 1 < n → X / 2 ^ (28 * j) / 2 ^ (28 * (n - 2)) = X / 2 ^ (28 * (j + (n - 1))) * 268435456 + dgt 28 X (j + n - 2) := by
    intro h1
    rw [hH, show n - 1 = n - 2 + 1 by omega, pw_succ, ← Nat.div_div_eq_div_mul _ (2 ^ (28 * (n - 2)))]
    unfold dgt
    rw [show 28 * (j + n - 2) = 28 * j + 28 * (n - 2) by omega, Nat.pow_add, ← Nat.div_div_eq_div_mul]
    generalize X / 2 ^ (28 * j) / 2 ^ (28 * (n - 2)) = r
    omega
  have hPj := pz_pos8 j
  have hdpz : (d : Int) * pz8 j * 2 ≤ pz8 (j + n + 1) := by
    have h1 : (d : Int) ≤ pz8 n := by rw [pz_n8]; omega
    rw [pz_s8, pz_a8, Int.mul_comm (pz8 j)]
    have h2 : (d : Int) * pz8 j ≤ pz8 n * pz8 j := Int.mul_le_mul_of_nonneg_right h1 (by omega)
    have h3 : 0 ≤ (d : Int) * pz8 j := Int.mul_nonneg (by omega) (by omega)
    omega
  have hXz : (X : Int) < pz8 (j + n + 1) := by rw [pz_n8]; omega
  have hhX : hh = sg 25 0 (j + n + 1) (za8 (X : Int) (j + n + 1)) hh := sg_same (fun k hk => by rw [za_lo8 hk, zdg_n8, show 26 * 25 + k = 650 + k by omega]; exact hA k (by omega))
  refine JC.go hfl (own := "NumberTowerModel") (lv := [(0, .ref (ad 98)), (1, .int (iI (j : Int))), (2, .int (iI (n : Int)))]) rfl (by decide +kernel) (Nat.le_of_ble_eq_true rfl) rfl (fun A => ?_)
  refine J_sipush d_M_step_0 (i16_ok (by decide)) ?_
  refine J_iload_n 1 d_M_step_3 rfl rfl ?_
  refine J_iadd d_M_step_4 ?_
  refine J_istore_n (lv' := [(3, .int (iI (650 + (j : Int)))), (0, .ref (ad 98)), (1, .int (iI (j : Int))), (2, .int (iI (n : Int)))]) d_M_step_5 rfl (by decide) rfl ?_
  refine J_aload_n 1 d_M_step_6 rfl rfl ?_
  refine gf_M_7 (by omega) hO rfl d_M_step_7 ?_
  refine J_sipush d_M_step_10 (i16_ok (by decide)) ?_
  refine J_iload_n 3 d_M_step_13 rfl rfl ?_
  refine J_iadd d_M_step_14 ?_
  refine J_iconst d_M_step_15 ?_
  refine J_isub d_M_step_16 ?_
  refine J_iaload 0 rfl (by omega) hB (by omega) d_M_step_17 ?_
  refine J_topi (r := hh ((676 + n) - 1)) (congrArg (fun q => iI (hh q)) (by omega)) ?_
  refine J_topi (r := (dgt 28 d (n - 1) : Int)) (congrArg iI (by rw [show 676 + n - 1 = 676 + (n - 1) by omega, hD _ (by omega)]; rfl)) ?_
  refine J_i2l d_M_step_18 ⟨by omega, by omega⟩ ?_
  refine J_lstore (lv' := [(4, .long (lI (dgt 28 d (n - 1) : Int))), (3, .int (iI (650 + (j : Int)))), (0, .ref (ad 98)), (1, .int (iI (j : Int))), (2, .int (iI (n : Int)))]) d_M_step_19 (by decide) rfl ?_
  have lab43 : J l rm_M_step (0, 0) "NumberTowerModel" b_M_step 19 (Option.some Jvm.ClassFile.FieldType.int) D jCl (jTys g) A (fun _ me => me.name = y_M_step.name) (ji ad N (fun z F' => z = ((X / 2 ^ (28 * j) / d : Nat) : Int) ∧ F' = va_up F 99 (aB g (sg 25 0 (j + n + 1) (dg8 (X - X / 2 ^ (28 * j) / d * d * 2 ^ (28 * j))) hh)))) ad N 0 0 43 [(0, .ref (ad 98)), (1, .int (iI (j : Int))), (2, .int (iI (n : Int))), (3, .int (iI (650 + (j : Int)))), (4, .long (lI (dgt 28 d (n - 1) : Int)))] [.long (lI (se : Int))] F := by
    refine J_lstore (lv' := [(6, .long (lI (se : Int))), (0, .ref (ad 98)), (1, .int (iI (j : Int))), (2, .int (iI (n : Int))), (3, .int (iI (650 + (j : Int)))), (4, .long (lI (dgt 28 d (n - 1) : Int)))]) d_M_step_43 (by decide) rfl ?_
    refine J_aload_n 1 d_M_step_45 rfl rfl ?_
    refine gf_M_7 (by omega) hO rfl d_M_step_46 ?_
    refine J_iload_n 4 d_M_step_49 rfl rfl ?_
    refine J_iload_n 3 d_M_step_50 rfl rfl ?_
    refine J_iadd d_M_step_51 ?_
    refine J_iaload 0 rfl (by omega) hB (by omega) d_M_step_52 ?_
    refine J_topi (r := hh ((650 + j) + n)) (congrArg (fun q => iI (hh q)) (by omega)) ?_
    refine J_topi (r := (dgt 28 X (j + n) : Int)) (congrArg iI (by rw [show 650 + j + n = 650 + (j + n) by omega, hA _ (by omega)]; rfl)) ?_
    refine J_i2l d_M_step_53 ⟨by omega, by omega⟩ ?_
    refine J_bipush d_M_step_54 (i8_ok (by decide)) ?_
    refine J_lshl (r := (((dgt 28 X (j + n)) * 268435456 : Nat) : Int)) d_M_step_56 (lI_shln 28 (by decide)) ?_
    refine J_aload_n 1 d_M_step_57 rfl rfl ?_
    refine gf_M_7 (by omega) hO rfl d_M_step_58 ?_
    refine J_iload_n 4 d_M_step_61 rfl rfl ?_
    refine J_iload_n 3 d_M_step_62 rfl rfl ?_
    refine J_iadd d_M_step_63 ?_
    refine J_iconst d_M_step_64 ?_
    refine J_isub d_M_step_65 ?_
    refine J_topi (r := (650 + (j : Int)) + (n : Int) - 1) (congrArg iI (by omega)) ?_
    refine J_iaload 0 rfl (by omega) hB (by omega) d_M_step_66 ?_
    refine J_topi (r := hh (((650 + j) + n) - 1)) (congrArg (fun q => iI (hh q)) (by omega)) ?_
    refine J_topi (r := (dgt 28 X (j + n - 1) : Int)) (congrArg iI (by rw [show 650 + j + n - 1 = 650 + (j + n - 1) by omega, hA _ (by omega)]; rfl)) ?_
    refine J_i2l d_M_step_67 ⟨by omega, by omega⟩ ?_
    refine J_lor (r := ((X / 2 ^ (28 * (j + (n - 1))) : Nat) : Int)) d_M_step_68 (by rw [lI_orn (by omega) (by omega), or28 (dgt_b8 _ _), hHd]) ?_
    refine J_lstore (lv' := [(8, .long (lI ((X / 2 ^ (28 * (j + (n - 1))) : Nat) : Int))), (6, .long (lI (se : Int))), (0, .ref (ad 98)), (1, .int (iI (j : Int))), (2, .int (iI (n : Int))), (3, .int (iI (650 + (j : Int)))), (4, .long (lI (dgt 28 d (n - 1) : Int)))]) d_M_step_69 (by decide) rfl ?_
    refine J_lload 0 d_M_step_71 rfl ?_
    refine J_lload 6 d_M_step_73 rfl ?_
    refine J_ldivn d_M_step_75 (by omega) (by omega) ?_
    refine J_topl (r := (((X / 2 ^ (28 * (j + (n - 1)))) / (dgt 28 d (n - 1)) : Nat) : Int)) (congrArg lI (by omega)) ?_
    refine J_lstore (lv' := [(10, .long (lI (((X / 2 ^ (28 * (j + (n - 1)))) / (dgt 28 d (n - 1)) : Nat) : Int))), (8, .long (lI ((X / 2 ^ (28 * (j + (n - 1))) : Nat) : Int))), (6, .long (lI (se : Int))), (0, .ref (ad 98)), (1, .int (iI (j : Int))), (2, .int (iI (n : Int))), (3, .int (iI (650 + (j : Int)))), (4, .long (lI (dgt 28 d (n - 1) : Int)))]) d_M_step_76 (by decide) rfl ?_
    refine J_lload 1 d_M_step_78 rfl ?_
    refine J_lload 7 d_M_step_80 rfl ?_
    refine J_lremn d_M_step_82 (by omega) (by omega) ?_
    refine J_topl (r := (((X / 2 ^ (28 * (j + (n - 1)))) % (dgt 28 d (n - 1)) : Nat) : Int)) (congrArg lI (by omega)) ?_
    refine J_lstore (lv' := [(12, .long (lI (((X / 2 ^ (28 * (j + (n - 1)))) % (dgt 28 d (n - 1)) : Nat) : Int))), (10, .long (lI (((X / 2 ^ (28 * (j + (n - 1)))) / (dgt 28 d (n - 1)) : Nat) : Int))), (8, .long (lI ((X / 2 ^ (28 * (j + (n - 1))) : Nat) : Int))), (6, .long (lI (se : Int))), (0, .ref (ad 98)), (1, .int (iI (j : Int))), (2, .int (iI (n : Int))), (3, .int (iI (650 + (j : Int)))), (4, .long (lI (dgt 28 d (n - 1) : Int)))]) d_M_step_83 (by decide) rfl ?_
    have lab150 : ∀ (qh : Nat) (hqh : qh < 268435456 ∧ X / 2 ^ (28 * j) / d ≤ qh ∧ qh ≤ X / 2 ^ (28 * j) / d + 1) , J l rm_M_step (0, 0) "NumberTowerModel" b_M_step 19 (Option.some Jvm.ClassFile.FieldType.int) D jCl (jTys g) A (fun _ me => me.name = y_M_step.name) (ji ad N (fun z F' => z = ((X / 2 ^ (28 * j) / d : Nat) : Int) ∧ F' = va_up F 99 (aB g (sg 25 0 (j + n + 1) (dg8 (X - X / 2 ^ (28 * j) / d * d * 2 ^ (28 * j))) hh)))) ad N 0 0 150 [(0, .ref (ad 98)), (1, .int (iI (j : Int))), (2, .int (iI (n : Int))), (3, .int (iI (650 + (j : Int)))), (10, .long (lI (qh : Int)))] [] F := by
      intro qh hqh
      refine J_lconst (v := 0) d_M_step_150 rfl ?_
      refine J_lstore (lv' := [(14, .long (lI 0)), (0, .ref (ad 98)), (1, .int (iI (j : Int))), (2, .int (iI (n : Int))), (3, .int (iI (650 + (j : Int)))), (10, .long (lI (qh : Int)))]) d_M_step_151 (by decide) rfl ?_
      refine J_iconst d_M_step_153 ?_
      refine J_istore (lv' := [(16, .int (iI 0)), (14, .long (lI 0)), (0, .ref (ad 98)), (1, .int (iI (j : Int))), (2, .int (iI (n : Int))), (3, .int (iI (650 + (j : Int)))), (10, .long (lI (qh : Int)))]) d_M_step_154 (by decide) rfl ?_
      refine J_pick (lv' := [(0, .ref (ad 98)), (1, .int (iI (j : Int))), (2, .int (iI (n : Int))), (3, .int (iI (650 + (j : Int)))), (10, .long (lI (qh : Int))), (14, .long (lI 0)), (16, .int (iI 0))]) [2, 3, 4, 5, 6, 1, 0] rfl ?_
      have loop156 : ∀ (fuel : Nat) (i : Nat) (c : Int) (f : Nat → Int) (h1 : i ≤ n + 1) (hc : c = -zc8 (X : Int) (-(qh : Int) * dl8 d i * pz8 j) (j + i)) (hf : f = sg 25 0 (j + n + 1) (mix (j + i) (za8 ((X : Int) + -(qh : Int) * d * pz8 j) (j + n + 1)) (za8 (X : Int) (j + n + 1))) hh) (hfu : n + 1 - i < fuel), J l rm_M_step (0, 0) "NumberTowerModel" b_M_step 19 (Option.some Jvm.ClassFile.FieldType.int) D jCl (jTys g) A (fun _ me => me.name = y_M_step.name) (ji ad N (fun z F' => z = ((X / 2 ^ (28 * j) / d : Nat) : Int) ∧ F' = va_up F 99 (aB g (sg 25 0 (j + n + 1) (dg8 (X - X / 2 ^ (28 * j) / d * d * 2 ^ (28 * j))) hh)))) ad N 0 0 156 [(0, .ref (ad 98)), (1, .int (iI (j : Int))), (2, .int (iI (n : Int))), (3, .int (iI (650 + (j : Int)))), (10, .long (lI (qh : Int))), (14, .long (lI c)), (16, .int (iI (i : Int)))] [] (va_up F 99 (.inl (g 0, 858, .inl (aI f)))) := by
        intro fuel
        induction fuel with
        | zero => intro i c f h1 hc hf hfu; exact absurd hfu (Nat.not_lt_zero _)
        | succ fuel ih =>
          intro i c f h1 hc hf hfu
          have hqr : (0 : Int) ≤ qh ∧ (qh : Int) ≤ 268435455 := by omega
          have hdl := dl_b8 d i
          have hc2 := zc_rng8 (X := (X : Int)) (Y := -(qh : Int) * dl8 d i * pz8 j) (m := qh) (t := j + i) (by
            rw [pz_a8, Int.neg_mul, Int.neg_mul, Int.mul_comm (pz8 j), ← Int.mul_assoc]
            exact Int.neg_le_neg (Int.mul_le_mul_of_nonneg_right (Int.mul_le_mul_of_nonneg_left hdl.2 hqr.1) (by omega))) (by
            rw [Int.neg_mul, Int.neg_mul]
            have := Int.mul_nonneg (Int.mul_nonneg hqr.1 hdl.1) (Int.le_of_lt hPj)
            omega)
          have hcr : 0 ≤ c ∧ c ≤ 268435455 := by omega
          refine J_iload 6 d_M_step_156 rfl ?_
          refine J_iload_n 2 d_M_step_158 rfl rfl ?_
          refine J_if_icmpgt (tgt := 233) d_M_step_159 (by decide) ⟨by omega, by omega⟩ ⟨by omega, by omega⟩ (fun c159 => ?_) (fun c159 => ?_)
          · have hin : i = n + 1 := by omega
            have hend : f = sg 25 0 (j + n + 1) (za8 ((X : Int) + -(qh : Int) * d * pz8 j) (j + n + 1)) hh := by
              rw [hf]
              exact congrArg (fun q => sg 25 0 (j + n + 1) q hh) (mix_all (fun k hk => by rw [za_hi8 (by omega), za_hi8 (by omega)]))
            refine J_eqF (F2 := va_up F 99 (.inl (g 0, 858, .inl (aI (sg 25 0 (j + n + 1) (za8 ((X : Int) + -(qh : Int) * d * pz8 j) (j + n + 1)) hh))))) (congrArg (fun qq => va_up F 99 (.inl (g 0, 858, .inl (aI qq)))) hend) ?_
            have hce : c = -(((X : Int) + -(qh : Int) * d * pz8 j) / pz8 (j + n + 1)) := by
              rw [hc, hin, dl_e8 (by omega)]
              unfold zc8
              rw [show j + (n + 1) = j + n + 1 by omega, Int.emod_eq_of_lt (by omega) hXz]
            have hT0 : c = 0 → 0 ≤ ((X : Int) + -(qh : Int) * d * pz8 j) := by
              intro h3
              apply Int.not_lt.mp
              intro h5
              have := Int.ediv_neg_of_neg_of_pos h5 (pz_pos8 (j + n + 1))
              omega
            have hT0' : 0 ≤ ((X : Int) + -(qh : Int) * d * pz8 j) → c = 0 := by
              intro h3
              rw [hce, Int.ediv_eq_zero_of_lt h3 (by
                have h6 : 0 ≤ (qh : Int) * d * pz8 j := Int.mul_nonneg (Int.mul_nonneg (by omega) (by omega)) (by omega)
                rw [Int.neg_mul, Int.neg_mul]; omega)]; rfl
            have hwd : ((X / 2 ^ (28 * j) / d * d * 2 ^ (28 * j) : Nat) : Int) = ((X / 2 ^ (28 * j) / d : Nat) : Int) * d * pz8 j := by rw [Int.natCast_mul, Int.natCast_mul, pz_n8]
            have hwX : X / 2 ^ (28 * j) / d * d * 2 ^ (28 * j) ≤ X := by
              rw [← Nat.le_div_iff_mul_le (Nat.two_pow_pos _)]; exact Nat.div_mul_le_self _ _
            have hqv : (c = 0 → qh = X / 2 ^ (28 * j) / d) ∧ (c ≠ 0 → qh = X / 2 ^ (28 * j) / d + 1) := by
              constructor
              · intro h3
                have h4 := hT0 h3
                have h5 : qh * d * 2 ^ (28 * j) ≤ X := by
                  have h6 : ((qh * d * 2 ^ (28 * j) : Nat) : Int) = (qh : Int) * d * pz8 j := by rw [Int.natCast_mul, Int.natCast_mul, pz_n8]
                  rw [Int.neg_mul, Int.neg_mul] at h4
                  omega
                have h6 : qh ≤ X / 2 ^ (28 * j) / d := by rw [Nat.le_div_iff_mul_le hd0, Nat.le_div_iff_mul_le (Nat.two_pow_pos _)]; exact h5
                omega
              · intro h3
                have h4 : qh ≠ X / 2 ^ (28 * j) / d := by
                  intro h5
                  apply h3
                  apply hT0'
                  rw [h5, Int.neg_mul, Int.neg_mul]
                  omega
                omega
            have hRR : ∀ v : Nat, v = X / 2 ^ (28 * j) / d → za8 ((X : Int) + -(v : Int) * d * pz8 j) (j + n + 1) = dg8 (X - X / 2 ^ (28 * j) / d * d * 2 ^ (28 * j)) := by
              intro v hv
              subst hv
              have h1 : X / 2 ^ (28 * j) / d * d * 2 ^ (28 * j) ≤ X := by
                rw [← Nat.le_div_iff_mul_le (Nat.two_pow_pos _)]; exact Nat.div_mul_le_self _ _
              rw [← za_n8 (n := X - X / 2 ^ (28 * j) / d * d * 2 ^ (28 * j)) (t := j + n + 1) (by omega)]
              congr 1
              rw [Int.neg_mul, Int.neg_mul, pz_n8, Int.natCast_sub h1]
              push_cast
              rfl
            refine J_lload 5 d_M_step_233 rfl ?_
            refine J_lconst (v := 0) d_M_step_235 rfl ?_
            refine J_lcmpne (tgt := 244) d_M_step_236 d_M_step_237 (by decide) ⟨by omega, by omega⟩ ⟨by omega, by omega⟩ (fun c236 => ?_) (fun c236 => ?_)
            · refine J_iconst d_M_step_244 ?_
              refine J_istore (lv' := [(16, .int (iI 0)), (0, .ref (ad 98)), (1, .int (iI (j : Int))), (2, .int (iI (n : Int))), (3, .int (iI (650 + (j : Int)))), (10, .long (lI (qh : Int))), (14, .long (lI c))]) d_M_step_245 (by decide) rfl ?_
              refine J_iconst d_M_step_247 ?_
              refine J_istore (lv' := [(17, .int (iI 0)), (16, .int (iI 0)), (0, .ref (ad 98)), (1, .int (iI (j : Int))), (2, .int (iI (n : Int))), (3, .int (iI (650 + (j : Int)))), (10, .long (lI (qh : Int))), (14, .long (lI c))]) d_M_step_248 (by decide) rfl ?_
              refine J_pick (lv' := [(0, .ref (ad 98)), (1, .int (iI (j : Int))), (2, .int (iI (n : Int))), (3, .int (iI (650 + (j : Int)))), (10, .long (lI (qh : Int))), (16, .int (iI 0)), (17, .int (iI 0))]) [2, 3, 4, 5, 6, 1, 0] rfl ?_
              have loop250 : ∀ (fuel : Nat) (i : Nat) (e : Int) (f : Nat → Int) (h2 : i ≤ n + 1) (he : e = zc8 ((X : Int) + -(qh : Int) * d * pz8 j) (1 * dl8 d i * pz8 j) (j + i)) (hf : f = sg 25 0 (j + n + 1) (mix (j + i) (za8 ((X : Int) + -((qh : Int) - 1) * d * pz8 j) (j + n + 1)) (za8 ((X : Int) + -(qh : Int) * d * pz8 j) (j + n + 1))) hh) (hfu : n + 1 - i < fuel), J l rm_M_step (0, 0) "NumberTowerModel" b_M_step 19 (Option.some Jvm.ClassFile.FieldType.int) D jCl (jTys g) A (fun _ me => me.name = y_M_step.name) (ji ad N (fun z F' => z = ((X / 2 ^ (28 * j) / d : Nat) : Int) ∧ F' = va_up F 99 (aB g (sg 25 0 (j + n + 1) (dg8 (X - X / 2 ^ (28 * j) / d * d * 2 ^ (28 * j))) hh)))) ad N 0 0 250 [(0, .ref (ad 98)), (1, .int (iI (j : Int))), (2, .int (iI (n : Int))), (3, .int (iI (650 + (j : Int)))), (10, .long (lI (qh : Int))), (16, .int (iI e)), (17, .int (iI (i : Int)))] [] (va_up F 99 (.inl (g 0, 858, .inl (aI f)))) := by
                intro fuel
                induction fuel with
                | zero => intro i e f h2 he hf hfu; exact absurd hfu (Nat.not_lt_zero _)
                | succ fuel ih =>
                  intro i e f h2 he hf hfu
                  have hZ2 : ((X : Int) + -((qh : Int) - 1) * d * pz8 j) = ((X : Int) + -(qh : Int) * d * pz8 j) + 1 * (d : Int) * pz8 j := by
                    rw [show -((qh : Int) - 1) = -(qh : Int) + 1 by omega, Int.add_mul, Int.add_mul, Int.add_assoc]
                  refine J_iload 6 d_M_step_250 rfl ?_
                  refine J_iload_n 2 d_M_step_252 rfl rfl ?_
                  refine J_if_icmpgt (tgt := 319) d_M_step_253 (by decide) ⟨by omega, by omega⟩ ⟨by omega, by omega⟩ (fun c253 => ?_) (fun c253 => ?_)
                  · have hin : i = n + 1 := by omega
                    have hend : f = sg 25 0 (j + n + 1) (za8 ((X : Int) + -((qh : Int) - 1) * d * pz8 j) (j + n + 1)) hh := by
                      rw [hf]
                      exact congrArg (fun q => sg 25 0 (j + n + 1) q hh) (mix_all (fun k hk => by rw [za_hi8 (by omega), za_hi8 (by omega)]))
                    refine J_eqF (F2 := va_up F 99 (.inl (g 0, 858, .inl (aI (sg 25 0 (j + n + 1) (za8 ((X : Int) + -((qh : Int) - 1) * d * pz8 j) (j + n + 1)) hh))))) (congrArg (fun qq => va_up F 99 (.inl (g 0, 858, .inl (aI qq)))) hend) ?_
                    refine J_lload 4 d_M_step_319 rfl ?_
                    refine J_l2i d_M_step_321 ?_
                    refine J_iconst d_M_step_322 ?_
                    refine J_isub d_M_step_323 ?_
                    refine J_iret rfl rfl d_M_step_324 ⟨by decide, by decide⟩ ?_
                    have hv := hqv.2 (by omega)
                    exact ⟨_, rfl, rfl, rfl, by rw [hv, Int.natCast_add]; exact Int.add_sub_cancel _ _, by rw [← hRR (qh - 1) (by omega), show ((qh - 1 : Nat) : Int) = (qh : Int) - 1 by omega]⟩
                  · have fi : f (650 + j + i) = zdg8 ((X : Int) + -(qh : Int) * d * pz8 j) (j + i) := by rw [hf, show 650 + j + i = 26 * 25 + (j + i) by omega, sg_in (by omega) (by omega), mix_at, za_lo8 (by omega)]
                    have fd : i < n → f (676 + i) = dg8 d i := fun hk => by rw [hf, sg_out (by omega)]; exact hD _ hk
                    have zb := zdg_b8 ((X : Int) + -(qh : Int) * d * pz8 j) (j + i)
                    have hdd := dg_nat8 d i
                    have bd := dgt_b8 d i
                    have hdl := dl_b8 d i
                    have hc2 := zc_rng18 (X := ((X : Int) + -(qh : Int) * d * pz8 j)) (Y := 1 * dl8 d i * pz8 j) (t := j + i) (by
                      rw [Int.one_mul]; exact Int.mul_nonneg hdl.1 (by omega)) (by
                      rw [pz_a8, Int.one_mul, Int.mul_comm (pz8 j)]
                      exact Int.mul_le_mul_of_nonneg_right hdl.2 (by omega))
                    refine J_aload_n 0 d_M_step_256 rfl rfl ?_
                    have lab286 : J l rm_M_step (0, 0) "NumberTowerModel" b_M_step 19 (Option.some Jvm.ClassFile.FieldType.int) D jCl (jTys g) A (fun _ me => me.name = y_M_step.name) (ji ad N (fun z F' => z = ((X / 2 ^ (28 * j) / d : Nat) : Int) ∧ F' = va_up F 99 (aB g (sg 25 0 (j + n + 1) (dg8 (X - X / 2 ^ (28 * j) / d * d * 2 ^ (28 * j))) hh)))) ad N 0 0 286 [(0, .ref (ad 98)), (1, .int (iI (j : Int))), (2, .int (iI (n : Int))), (3, .int (iI (650 + (j : Int)))), (10, .long (lI (qh : Int))), (16, .int (iI e)), (17, .int (iI (i : Int)))] [.int (iI (dg8 d i)), .int (iI (f (650 + j + i)))] (va_up F 99 (.inl (g 0, 858, .inl (aI f)))) := by
                      refine J_iadd d_M_step_286 ?_
                      refine J_iload 5 d_M_step_287 rfl ?_
                      refine J_iadd d_M_step_289 ?_
                      refine J_istore (lv' := [(18, .int (iI (((f (650 + j + i)) + (dg8 d i)) + e))), (0, .ref (ad 98)), (1, .int (iI (j : Int))), (2, .int (iI (n : Int))), (3, .int (iI (650 + (j : Int)))), (10, .long (lI (qh : Int))), (16, .int (iI e)), (17, .int (iI (i : Int)))]) d_M_step_290 (by decide) rfl ?_
                      refine J_aload_n 1 d_M_step_292 rfl rfl ?_
                      refine gf_M_7 (by omega) (by rw [va_up_ne _ _ (by decide)]; exact hO) rfl d_M_step_293 ?_
                      refine J_iload_n 4 d_M_step_296 rfl rfl ?_
                      refine J_iload 7 d_M_step_297 rfl ?_
                      refine J_iadd d_M_step_299 ?_
                      refine J_iload 0 d_M_step_300 rfl ?_
                      refine J_ldc (z := 268435455) d_M_step_302 wd_1142 (by decide) ?_
                      refine J_iand (r := (((f (650 + j + i)) + (dg8 d i)) + e) % 268435456) d_M_step_304 (iI_and 28 (by decide)) ?_
                      refine J_iastore 0 rfl (by omega) (by rw [va_up_self]) (by omega) d_M_step_305 ?_
                      refine J_eqF (F2 := va_up (va_up F 99 (.inl (g 0, 858, .inl (aI f)))) 99 (.inl (g 0, 858, .inl (aI (va_up f ((650 + j) + i) ((((f (650 + j + i)) + (dg8 d i)) + e) % 268435456)))))) (congrArg (fun q => va_up (va_up F 99 (.inl (g 0, 858, .inl (aI f)))) 99 (.inl (g 0, 858, .inl (aI (va_up f q ((((f (650 + j + i)) + (dg8 d i)) + e) % 268435456)))))) (by omega : ((650 + (j : Int)) + (i : Int)).toNat = (650 + j) + i)) ?_
                      refine J_eqF (F2 := va_up F 99 (.inl (g 0, 858, .inl (aI (va_up f ((650 + j) + i) ((((f (650 + j + i)) + (dg8 d i)) + e) % 268435456)))))) (up_in0) ?_
                      refine J_iload 0 d_M_step_306 rfl ?_
                      refine J_bipush d_M_step_308 (i8_ok (by decide)) ?_
                      refine J_ishr (r := (((f (650 + j + i)) + (dg8 d i)) + e) / 268435456) d_M_step_310 (iI_shr ⟨by omega, by omega⟩ 28 (by decide)) ?_
                      refine J_istore (lv' := [(16, .int (iI ((((f (650 + j + i)) + (dg8 d i)) + e) / 268435456))), (18, .int (iI (((f (650 + j + i)) + (dg8 d i)) + e))), (0, .ref (ad 98)), (1, .int (iI (j : Int))), (2, .int (iI (n : Int))), (3, .int (iI (650 + (j : Int)))), (10, .long (lI (qh : Int))), (17, .int (iI (i : Int)))]) d_M_step_311 (by decide) rfl ?_
                      refine J_iinc (j := 7) (b := (i : Int) + 1) (lv' := [(17, .int (iI ((i : Int) + 1))), (16, .int (iI ((((f (650 + j + i)) + (dg8 d i)) + e) / 268435456))), (18, .int (iI (((f (650 + j + i)) + (dg8 d i)) + e))), (0, .ref (ad 98)), (1, .int (iI (j : Int))), (2, .int (iI (n : Int))), (3, .int (iI (650 + (j : Int)))), (10, .long (lI (qh : Int)))]) d_M_step_313 rfl (by omega) (by decide) rfl ?_
                      refine J_goto (tgt := 250) d_M_step_316 (by decide) ?_
                      refine J_pick (lv' := [(0, .ref (ad 98)), (1, .int (iI (j : Int))), (2, .int (iI (n : Int))), (3, .int (iI (650 + (j : Int)))), (10, .long (lI (qh : Int))), (16, .int (iI ((((f (650 + j + i)) + (dg8 d i)) + e) / 268435456))), (17, .int (iI ((i : Int) + 1)))]) [3, 4, 5, 6, 7, 1, 0] rfl ?_
                      refine ih (i + 1) ((((f (650 + j + i)) + (dg8 d i)) + e) / 268435456) (va_up f ((650 + j) + i) ((((f (650 + j + i)) + (dg8 d i)) + e) % 268435456)) (by omega) ?_ ?_ (by omega)
                      · have e1 := zc_step8 (X := ((X : Int) + -(qh : Int) * d * pz8 j)) (zY8 1 d j i)
                        rw [show j + (i + 1) = j + i + 1 by omega, e1, fi, Int.one_mul, ← he]
                      · have e1 := zc_dig8 (zT8 ((X : Int) + -(qh : Int) * d * pz8 j) 1 d j i)
                        rw [← hZ2] at e1
                        rw [fi, hf, show 650 + j + i = 26 * 25 + (j + i) by omega, sg_st (by omega)]
                        refine congrArg (fun q => sg 25 0 (j + n + 1) q hh) (mix_up ?_)
                        rw [za_lo8 (by omega), e1, Int.one_mul, ← he]
                    refine gf_M_7 (by omega) (by rw [va_up_ne _ _ (by decide)]; exact hO) rfl d_M_step_257 ?_
                    refine J_iload_n 3 d_M_step_260 rfl rfl ?_
                    refine J_iload 6 d_M_step_261 rfl ?_
                    refine J_iadd d_M_step_263 ?_
                    refine J_iaload 0 rfl (by omega) (by rw [va_up_self]) (by omega) d_M_step_264 ?_
                    refine J_topi (r := f ((650 + j) + i)) (congrArg (fun q => iI (f q)) (by omega)) ?_
                    refine J_iload 6 d_M_step_265 rfl ?_
                    refine J_iload_n 2 d_M_step_267 rfl rfl ?_
                    refine J_if_icmpge (tgt := 285) d_M_step_268 (by decide) ⟨by omega, by omega⟩ ⟨by omega, by omega⟩ (fun c268 => ?_) (fun c268 => ?_)
                    · refine J_iconst d_M_step_285 ?_
                      refine J_topi (r := dg8 d i) (congrArg iI (by rw [dg_zero8 (n := d) (by omega)])) ?_
                      exact lab286  
                    · refine J_aload_n 0 d_M_step_271 rfl rfl ?_
                      refine gf_M_7 (by omega) (by rw [va_up_ne _ _ (by decide)]; exact hO) rfl d_M_step_272 ?_
                      refine J_sipush d_M_step_275 (i16_ok (by decide)) ?_
                      refine J_iload 6 d_M_step_278 rfl ?_
                      refine J_iadd d_M_step_280 ?_
                      refine J_iaload 0 rfl (by omega) (by rw [va_up_self]) (by omega) d_M_step_281 ?_
                      refine J_topi (r := f (676 + i)) (congrArg (fun q => iI (f q)) (by omega)) ?_
                      refine J_goto (tgt := 286) d_M_step_282 (by decide) ?_
                      refine J_topi (r := dg8 d i) (congrArg iI (by rw [fd (by omega)])) ?_
                      exact lab286  
              exact loop250 ((n + 1 - 0) + 1) 0 (0 : Int) (sg 25 0 (j + n + 1) (za8 ((X : Int) + -(qh : Int) * d * pz8 j) (j + n + 1)) hh) (by omega) (by rw [dl_08, Int.mul_zero, Int.zero_mul, zc_z8]) (congrArg (fun q => sg 25 0 (j + n + 1) q hh) (mix_low (fun jj hj => by rw [za_lo8 (by omega), za_lo8 (by omega), show -((qh : Int) - 1) = -(qh : Int) + 1 by omega, Int.add_mul, Int.add_mul, ← Int.add_assoc, zdg_low8 (by omega)]))) (Nat.lt_succ_self _)
            · refine J_lload 4 d_M_step_240 rfl ?_
              refine J_l2i d_M_step_242 ?_
              refine J_iret rfl rfl d_M_step_243 ⟨by decide, by decide⟩ ?_
              have hv := hqv.1 (by omega)
              exact ⟨_, rfl, rfl, rfl, by rw [hv], by rw [hRR qh hv]⟩
          · have fi : f (650 + j + i) = zdg8 (X : Int) (j + i) := by rw [hf, show 650 + j + i = 26 * 25 + (j + i) by omega, sg_in (by omega) (by omega), mix_at, za_lo8 (by omega)]
            have fd : i < n → f (676 + i) = dg8 d i := fun hk => by rw [hf, sg_out (by omega)]; exact hD _ hk
            have zb := zdg_b8 (X : Int) (j + i)
            have hdd := dg_nat8 d i
            have bd := dgt_b8 d i
            have hdl := dl_b8 d i
            have hpr : 0 ≤ (qh : Int) * dg8 d i ∧ (qh : Int) * dg8 d i ≤ 72057593501057025 := by
              have h1 := dprod8 (x := dgt 28 d i) (f := qh) rfl (by omega)
              have h2 : (qh : Int) * dg8 d i = ((dgt 28 d i * qh : Nat) : Int) := by
                rw [hdd]; push_cast; rw [Int.mul_comm]
              omega
            refine J_aload_n 0 d_M_step_162 rfl rfl ?_
            have lab200 : J l rm_M_step (0, 0) "NumberTowerModel" b_M_step 19 (Option.some Jvm.ClassFile.FieldType.int) D jCl (jTys g) A (fun _ me => me.name = y_M_step.name) (ji ad N (fun z F' => z = ((X / 2 ^ (28 * j) / d : Nat) : Int) ∧ F' = va_up F 99 (aB g (sg 25 0 (j + n + 1) (dg8 (X - X / 2 ^ (28 * j) / d * d * 2 ^ (28 * j))) hh)))) ad N 0 0 200 [(0, .ref (ad 98)), (1, .int (iI (j : Int))), (2, .int (iI (n : Int))), (3, .int (iI (650 + (j : Int)))), (10, .long (lI (qh : Int))), (14, .long (lI c)), (16, .int (iI (i : Int)))] [.long (lI ((qh : Int) * dg8 d i)), .long (lI (f (650 + j + i) - c))] (va_up F 99 (.inl (g 0, 858, .inl (aI f)))) := by
              refine J_lsub d_M_step_200 ?_
              refine J_lstore (lv' := [(17, .long (lI ((f (650 + j + i) - c) - ((qh : Int) * dg8 d i)))), (0, .ref (ad 98)), (1, .int (iI (j : Int))), (2, .int (iI (n : Int))), (3, .int (iI (650 + (j : Int)))), (10, .long (lI (qh : Int))), (14, .long (lI c)), (16, .int (iI (i : Int)))]) d_M_step_201 (by decide) rfl ?_
              refine J_aload_n 1 d_M_step_203 rfl rfl ?_
              refine gf_M_7 (by omega) (by rw [va_up_ne _ _ (by decide)]; exact hO) rfl d_M_step_204 ?_
              refine J_iload_n 4 d_M_step_207 rfl rfl ?_
              refine J_iload 7 d_M_step_208 rfl ?_
              refine J_iadd d_M_step_210 ?_
              refine J_lload 0 d_M_step_211 rfl ?_
              refine J_ldc2 (z := 268435455) d_M_step_213 wd_1093 (by decide) ?_
              refine J_land (r := ((f (650 + j + i) - c) - ((qh : Int) * dg8 d i)) % 268435456) d_M_step_216 (lI_and 28 (by decide)) ?_
              refine J_l2i d_M_step_217 ?_
              refine J_iastore 0 rfl (by omega) (by rw [va_up_self]) (by omega) d_M_step_218 ?_
              refine J_eqF (F2 := va_up (va_up F 99 (.inl (g 0, 858, .inl (aI f)))) 99 (.inl (g 0, 858, .inl (aI (va_up f ((650 + j) + i) (((f (650 + j + i) - c) - ((qh : Int) * dg8 d i)) % 268435456)))))) (congrArg (fun q => va_up (va_up F 99 (.inl (g 0, 858, .inl (aI f)))) 99 (.inl (g 0, 858, .inl (aI (va_up f q (((f (650 + j + i) - c) - ((qh : Int) * dg8 d i)) % 268435456)))))) (by omega : ((650 + (j : Int)) + (i : Int)).toNat = (650 + j) + i)) ?_
              refine J_eqF (F2 := va_up F 99 (.inl (g 0, 858, .inl (aI (va_up f ((650 + j) + i) (((f (650 + j + i) - c) - ((qh : Int) * dg8 d i)) % 268435456)))))) (up_in0) ?_
              refine J_lload 0 d_M_step_219 rfl ?_
              refine J_bipush d_M_step_221 (i8_ok (by decide)) ?_
              refine J_lshr (r := ((f (650 + j + i) - c) - ((qh : Int) * dg8 d i)) / 268435456) d_M_step_223 (lI_shr ⟨by omega, by omega⟩ 28 (by decide)) ?_
              refine J_lneg d_M_step_224 ?_
              refine J_lstore (lv' := [(14, .long (lI (-(((f (650 + j + i) - c) - ((qh : Int) * dg8 d i)) / 268435456)))), (17, .long (lI ((f (650 + j + i) - c) - ((qh : Int) * dg8 d i)))), (0, .ref (ad 98)), (1, .int (iI (j : Int))), (2, .int (iI (n : Int))), (3, .int (iI (650 + (j : Int)))), (10, .long (lI (qh : Int))), (16, .int (iI (i : Int)))]) d_M_step_225 (by decide) rfl ?_
              refine J_iinc (j := 7) (b := (i : Int) + 1) (lv' := [(16, .int (iI ((i : Int) + 1))), (14, .long (lI (-(((f (650 + j + i) - c) - ((qh : Int) * dg8 d i)) / 268435456)))), (17, .long (lI ((f (650 + j + i) - c) - ((qh : Int) * dg8 d i)))), (0, .ref (ad 98)), (1, .int (iI (j : Int))), (2, .int (iI (n : Int))), (3, .int (iI (650 + (j : Int)))), (10, .long (lI (qh : Int)))]) d_M_step_227 rfl (by omega) (by decide) rfl ?_
              refine J_goto (tgt := 156) d_M_step_230 (by decide) ?_
              refine J_pick (lv' := [(0, .ref (ad 98)), (1, .int (iI (j : Int))), (2, .int (iI (n : Int))), (3, .int (iI (650 + (j : Int)))), (10, .long (lI (qh : Int))), (14, .long (lI (-(((f (650 + j + i) - c) - ((qh : Int) * dg8 d i)) / 268435456)))), (16, .int (iI ((i : Int) + 1)))]) [3, 4, 5, 6, 7, 1, 0] rfl ?_
              refine ih (i + 1) (-(((f (650 + j + i) - c) - ((qh : Int) * dg8 d i)) / 268435456)) (va_up f ((650 + j) + i) (((f (650 + j + i) - c) - ((qh : Int) * dg8 d i)) % 268435456)) (by omega) ?_ ?_ (by omega)
              · have e1 := zc_step8 (X := (X : Int)) (zY8 (-(qh : Int)) d j i)
                rw [show j + (i + 1) = j + i + 1 by omega, e1, fi, Int.neg_mul, show zc8 (X : Int) (-(qh : Int) * dl8 d i * pz8 j) (j + i) = -c by omega]
                congr 2
                omega
              · have e1 := zc_dig8 (zT8 (X : Int) (-(qh : Int)) d j i)
                rw [fi, hf, show 650 + j + i = 26 * 25 + (j + i) by omega, sg_st (by omega)]
                refine congrArg (fun q => sg 25 0 (j + n + 1) q hh) (mix_up ?_)
                rw [za_lo8 (by omega), e1, Int.neg_mul, show zc8 (X : Int) (-(qh : Int) * dl8 d i * pz8 j) (j + i) = -c by omega]
                congr 1
                omega
            refine gf_M_7 (by omega) (by rw [va_up_ne _ _ (by decide)]; exact hO) rfl d_M_step_163 ?_
            refine J_iload_n 3 d_M_step_166 rfl rfl ?_
            refine J_iload 6 d_M_step_167 rfl ?_
            refine J_iadd d_M_step_169 ?_
            refine J_iaload 0 rfl (by omega) (by rw [va_up_self]) (by omega) d_M_step_170 ?_
            refine J_topi (r := f ((650 + j) + i)) (congrArg (fun q => iI (f q)) (by omega)) ?_
            refine J_i2l d_M_step_171 ⟨by omega, by omega⟩ ?_
            refine J_lload 5 d_M_step_172 rfl ?_
            refine J_lsub d_M_step_174 ?_
            refine J_iload 6 d_M_step_175 rfl ?_
            refine J_iload_n 2 d_M_step_177 rfl rfl ?_
            refine J_if_icmpge (tgt := 199) d_M_step_178 (by decide) ⟨by omega, by omega⟩ ⟨by omega, by omega⟩ (fun c178 => ?_) (fun c178 => ?_)
            · refine J_lconst (v := 0) d_M_step_199 rfl ?_
              refine J_topl (r := (qh : Int) * dg8 d i) (congrArg lI (by rw [dg_zero8 (n := d) (by omega), Int.mul_zero])) ?_
              exact lab200  
            · refine J_lload 4 d_M_step_181 rfl ?_
              refine J_aload_n 0 d_M_step_183 rfl rfl ?_
              refine gf_M_7 (by omega) (by rw [va_up_ne _ _ (by decide)]; exact hO) rfl d_M_step_184 ?_
              refine J_sipush d_M_step_187 (i16_ok (by decide)) ?_
              refine J_iload 6 d_M_step_190 rfl ?_
              refine J_iadd d_M_step_192 ?_
              refine J_iaload 0 rfl (by omega) (by rw [va_up_self]) (by omega) d_M_step_193 ?_
              refine J_topi (r := f (676 + i)) (congrArg (fun q => iI (f q)) (by omega)) ?_
              refine J_i2l d_M_step_194 ⟨by omega, by omega⟩ ?_
              refine J_lmul d_M_step_195 ?_
              refine J_goto (tgt := 200) d_M_step_196 (by decide) ?_
              refine J_topl (r := (qh : Int) * dg8 d i) (congrArg lI (by rw [fd (by omega)])) ?_
              exact lab200  
      refine J_eqF (F2 := va_up F 99 (.inl (g 0, 858, .inl (aI hh)))) (up_same1 hB) ?_
      exact loop156 ((n + 1 - 0) + 1) 0 (0 : Int) hh (by omega) (by rw [dl_08, Int.mul_zero, Int.zero_mul, zc_z8]; rfl) (by
        refine hhX.trans (congrArg (fun q => sg 25 0 (j + n + 1) q hh) ?_)
        exact mix_low (fun jj hj => by rw [za_lo8 (by omega), za_lo8 (by omega), zdg_low8 (by omega)])) (Nat.lt_succ_self _)
    refine J_pick (lv' := [(0, .ref (ad 98)), (1, .int (iI (j : Int))), (2, .int (iI (n : Int))), (3, .int (iI (650 + (j : Int)))), (4, .long (lI (dgt 28 d (n - 1) : Int))), (6, .long (lI (se : Int))), (8, .long (lI ((X / 2 ^ (28 * (j + (n - 1))) : Nat) : Int))), (10, .long (lI (((X / 2 ^ (28 * (j + (n - 1)))) / (dgt 28 d (n - 1)) : Nat) : Int))), (12, .long (lI (((X / 2 ^ (28 * (j + (n - 1)))) % (dgt 28 d (n - 1)) : Nat) : Int)))]) [4, 5, 6, 7, 8, 3, 2, 1, 0] rfl ?_
    have loop85 : ∀ (fuel : Nat) (qh : Nat) (rs : Nat) (hq1 : X / 2 ^ (28 * j) / d ≤ qh) (hq2 : qh * dgt 28 d (n - 1) + rs = X / 2 ^ (28 * (j + (n - 1)))) (hq3 : n ≤ 1 → qh = X / 2 ^ (28 * j) / d) (hq4 : rs < 2 * 268435456) (hfu : qh < fuel), J l rm_M_step (0, 0) "NumberTowerModel" b_M_step 19 (Option.some Jvm.ClassFile.FieldType.int) D jCl (jTys g) A (fun _ me => me.name = y_M_step.name) (ji ad N (fun z F' => z = ((X / 2 ^ (28 * j) / d : Nat) : Int) ∧ F' = va_up F 99 (aB g (sg 25 0 (j + n + 1) (dg8 (X - X / 2 ^ (28 * j) / d * d * 2 ^ (28 * j))) hh)))) ad N 0 0 85 [(0, .ref (ad 98)), (1, .int (iI (j : Int))), (2, .int (iI (n : Int))), (3, .int (iI (650 + (j : Int)))), (4, .long (lI (dgt 28 d (n - 1) : Int))), (6, .long (lI (se : Int))), (8, .long (lI ((X / 2 ^ (28 * (j + (n - 1))) : Nat) : Int))), (10, .long (lI (qh : Int))), (12, .long (lI (rs : Int)))] [] F := by
      intro fuel
      induction fuel with
      | zero => intro qh rs hq1 hq2 hq3 hq4 hfu; exact absurd hfu (Nat.not_lt_zero _)
      | succ fuel ih =>
        intro qh rs hq1 hq2 hq3 hq4 hfu
        have hqH : qh ≤ X / 2 ^ (28 * (j + (n - 1))) := Nat.le_trans (Nat.le_mul_of_pos_right _ (by omega)) (Nat.le_trans (Nat.le_add_right _ _) (Nat.le_of_eq hq2))
        refine J_lload 8 d_M_step_85 rfl ?_
        have lab134 : ∀  (hdec : X / 2 ^ (28 * j) / d < qh ∧ 1 < n) (hrs : rs ≤ 268435455) , J l rm_M_step (0, 0) "NumberTowerModel" b_M_step 19 (Option.some Jvm.ClassFile.FieldType.int) D jCl (jTys g) A (fun _ me => me.name = y_M_step.name) (ji ad N (fun z F' => z = ((X / 2 ^ (28 * j) / d : Nat) : Int) ∧ F' = va_up F 99 (aB g (sg 25 0 (j + n + 1) (dg8 (X - X / 2 ^ (28 * j) / d * d * 2 ^ (28 * j))) hh)))) ad N 0 0 134 [(0, .ref (ad 98)), (1, .int (iI (j : Int))), (2, .int (iI (n : Int))), (3, .int (iI (650 + (j : Int)))), (4, .long (lI (dgt 28 d (n - 1) : Int))), (6, .long (lI (se : Int))), (8, .long (lI ((X / 2 ^ (28 * (j + (n - 1))) : Nat) : Int))), (10, .long (lI (qh : Int))), (12, .long (lI (rs : Int)))] [] F := by
          intro  hdec hrs
          refine J_lload 7 d_M_step_134 rfl ?_
          refine J_lconst (v := 1) d_M_step_136 rfl ?_
          refine J_lsub d_M_step_137 ?_
          refine J_topl (r := ((qh - 1 : Nat) : Int)) (congrArg lI (by omega)) ?_
          refine J_lstore (lv' := [(10, .long (lI ((qh - 1 : Nat) : Int))), (0, .ref (ad 98)), (1, .int (iI (j : Int))), (2, .int (iI (n : Int))), (3, .int (iI (650 + (j : Int)))), (4, .long (lI (dgt 28 d (n - 1) : Int))), (6, .long (lI (se : Int))), (8, .long (lI ((X / 2 ^ (28 * (j + (n - 1))) : Nat) : Int))), (12, .long (lI (rs : Int)))]) d_M_step_138 (by decide) rfl ?_
          refine J_lload 8 d_M_step_140 rfl ?_
          refine J_lload 5 d_M_step_142 rfl ?_
          refine J_ladd d_M_step_144 ?_
          refine J_topl (r := ((rs + dgt 28 d (n - 1) : Nat) : Int)) (congrArg lI (by omega)) ?_
          refine J_lstore (lv' := [(12, .long (lI ((rs + dgt 28 d (n - 1) : Nat) : Int))), (10, .long (lI ((qh - 1 : Nat) : Int))), (0, .ref (ad 98)), (1, .int (iI (j : Int))), (2, .int (iI (n : Int))), (3, .int (iI (650 + (j : Int)))), (4, .long (lI (dgt 28 d (n - 1) : Int))), (6, .long (lI (se : Int))), (8, .long (lI ((X / 2 ^ (28 * (j + (n - 1))) : Nat) : Int)))]) d_M_step_145 (by decide) rfl ?_
          refine J_goto (tgt := 85) d_M_step_147 (by decide) ?_
          refine J_pick (lv' := [(0, .ref (ad 98)), (1, .int (iI (j : Int))), (2, .int (iI (n : Int))), (3, .int (iI (650 + (j : Int)))), (4, .long (lI (dgt 28 d (n - 1) : Int))), (6, .long (lI (se : Int))), (8, .long (lI ((X / 2 ^ (28 * (j + (n - 1))) : Nat) : Int))), (10, .long (lI ((qh - 1 : Nat) : Int))), (12, .long (lI ((rs + dgt 28 d (n - 1) : Nat) : Int)))]) [2, 3, 4, 5, 6, 7, 8, 1, 0] rfl ?_
          refine ih (qh - 1) (rs + dgt 28 d (n - 1)) (by omega) ?_ (fun h1 => by omega) (by omega) (by omega)
          · have e1 : qh = qh - 1 + 1 := by omega
            have e2 : qh * dgt 28 d (n - 1) = (qh - 1) * dgt 28 d (n - 1) + dgt 28 d (n - 1) := by conv => lhs; rw [e1, Nat.succ_mul]
            omega
        refine J_ldc2 (z := 268435455) d_M_step_87 wd_1093 (by decide) ?_
        refine J_lcmpgt (tgt := 150) d_M_step_90 d_M_step_91 (by decide) ⟨by omega, by omega⟩ ⟨by omega, by omega⟩ (fun c90 => ?_) (fun c90 => ?_)
        · refine J_pick (lv' := [(0, .ref (ad 98)), (1, .int (iI (j : Int))), (2, .int (iI (n : Int))), (3, .int (iI (650 + (j : Int)))), (10, .long (lI (qh : Int)))]) [0, 1, 2, 3, 7] rfl ?_
          exact lab150 qh (by
            by_cases h1 : n ≤ 1
            · have := hq3 h1; omega
            · obtain ⟨k1, k2⟩ := kn_hi (Nat.two_pow_pos (28 * (n - 2))) (hdP (by omega)) (hWP (by omega)) hq2 hseb (by omega) hHf (by first | (left; omega) | (right; omega))
              exact ⟨k1, hq1, k2⟩)
        · refine J_lload 7 d_M_step_94 rfl ?_
          refine J_ldc2 (z := 268435455) d_M_step_96 wd_1093 (by decide) ?_
          refine J_lcmpgt (tgt := 134) d_M_step_99 d_M_step_100 (by decide) ⟨by omega, by omega⟩ ⟨by omega, by omega⟩ (fun c99 => ?_) (fun c99 => ?_)
          · exact lab134  (by
              constructor
              · first
                | omega
                | exact kn_lo (Nat.two_pow_pos (28 * (n - 2))) (hdP (by omega)) (hWP (by omega)) hq2 (by omega)
              · first
                | omega
                | exact Nat.lt_of_not_le (fun h1 => by have := hq3 h1; omega)) (by omega)
          · refine J_iload_n 2 d_M_step_103 rfl rfl ?_
            refine J_iconst d_M_step_104 ?_
            refine J_if_icmple (tgt := 150) d_M_step_105 (by decide) ⟨by omega, by omega⟩ ⟨by omega, by omega⟩ (fun c105 => ?_) (fun c105 => ?_)
            · refine J_pick (lv' := [(0, .ref (ad 98)), (1, .int (iI (j : Int))), (2, .int (iI (n : Int))), (3, .int (iI (650 + (j : Int)))), (10, .long (lI (qh : Int)))]) [0, 1, 2, 3, 7] rfl ?_
              exact lab150 qh (by
                by_cases h1 : n ≤ 1
                · have := hq3 h1; omega
                · obtain ⟨k1, k2⟩ := kn_hi (Nat.two_pow_pos (28 * (n - 2))) (hdP (by omega)) (hWP (by omega)) hq2 hseb (by omega) hHf (by first | (left; omega) | (right; omega))
                  exact ⟨k1, hq1, k2⟩)
            · have hpq : qh * se ≤ 72057593501057025 := Nat.le_trans (Nat.mul_le_mul (by omega : qh ≤ 268435455) (by omega : se ≤ 268435455)) (by decide)
              refine J_lload 7 d_M_step_108 rfl ?_
              refine J_lload 5 d_M_step_110 rfl ?_
              refine J_lmul d_M_step_112 ?_
              refine J_lload 8 d_M_step_113 rfl ?_
              refine J_bipush d_M_step_115 (i8_ok (by decide)) ?_
              refine J_lshl (r := ((rs * 268435456 : Nat) : Int)) d_M_step_117 (lI_shln 28 (by decide)) ?_
              refine J_aload_n 0 d_M_step_118 rfl rfl ?_
              refine gf_M_7 (by omega) hO rfl d_M_step_119 ?_
              refine J_iload_n 3 d_M_step_122 rfl rfl ?_
              refine J_iload_n 2 d_M_step_123 rfl rfl ?_
              refine J_iadd d_M_step_124 ?_
              refine J_iconst d_M_step_125 ?_
              refine J_isub d_M_step_126 ?_
              refine J_topi (r := (650 + (j : Int)) + (n : Int) - 2) (congrArg iI (by omega)) ?_
              refine J_iaload 0 rfl (by omega) hB (by omega) d_M_step_127 ?_
              refine J_topi (r := hh (((650 + j) + n) - 2)) (congrArg (fun q => iI (hh q)) (by omega)) ?_
              refine J_topi (r := (dgt 28 X (j + n - 2) : Int)) (congrArg iI (by rw [show 650 + j + n - 2 = 650 + (j + n - 2) by omega, hA _ (by omega)]; rfl)) ?_
              refine J_i2l d_M_step_128 ⟨by omega, by omega⟩ ?_
              refine J_lor (r := ((rs * 268435456 + dgt 28 X (j + n - 2) : Nat) : Int)) d_M_step_129 (by rw [lI_orn (by omega) (by omega), or28 (dgt_b8 _ _)]) ?_
              refine J_lcmple (tgt := 150) d_M_step_130 d_M_step_131 (by decide) ⟨by omega, by omega⟩ ⟨by omega, by omega⟩ (fun c130 => ?_) (fun c130 => ?_)
              · refine J_pick (lv' := [(0, .ref (ad 98)), (1, .int (iI (j : Int))), (2, .int (iI (n : Int))), (3, .int (iI (650 + (j : Int)))), (10, .long (lI (qh : Int)))]) [0, 1, 2, 3, 7] rfl ?_
                exact lab150 qh (by
                  by_cases h1 : n ≤ 1
                  · have := hq3 h1; omega
                  · obtain ⟨k1, k2⟩ := kn_hi (Nat.two_pow_pos (28 * (n - 2))) (hdP (by omega)) (hWP (by omega)) hq2 hseb (by omega) hHf (by first | (left; omega) | (right; omega))
                    exact ⟨k1, hq1, k2⟩)
              · exact lab134  (by
                  constructor
                  · first
                    | omega
                    | exact kn_lo (Nat.two_pow_pos (28 * (n - 2))) (hdP (by omega)) (hWP (by omega)) hq2 (by omega)
                  · first
                    | omega
                    | exact Nat.lt_of_not_le (fun h1 => by have := hq3 h1; omega)) (by omega)
    exact loop85 (((X / 2 ^ (28 * (j + (n - 1)))) / (dgt 28 d (n - 1))) + 1) ((X / 2 ^ (28 * (j + (n - 1)))) / (dgt 28 d (n - 1))) ((X / 2 ^ (28 * (j + (n - 1)))) % (dgt 28 d (n - 1))) (by rw [hH, hff]; exact kn_up (Nat.two_pow_pos _) (by omega)) (by rw [Nat.mul_comm]; exact Nat.div_add_mod _ _) (fun h1 => by rw [hff, show n - 1 = 0 by omega, Nat.add_zero, Nat.mul_zero, Nat.pow_zero, Nat.div_one]) (Nat.lt_trans (Nat.mod_lt _ (by omega)) (by omega)) (Nat.lt_succ_self _)
  refine J_iload_n 4 d_M_step_21 rfl rfl ?_
  refine J_iconst d_M_step_22 ?_
  refine J_if_icmple (tgt := 42) d_M_step_23 (by decide) ⟨by omega, by omega⟩ ⟨by omega, by omega⟩ (fun c23 => ?_) (fun c23 => ?_)
  · refine J_lconst (v := 0) d_M_step_42 rfl ?_
    refine J_pick (lv' := [(0, .ref (ad 98)), (1, .int (iI (j : Int))), (2, .int (iI (n : Int))), (3, .int (iI (650 + (j : Int)))), (4, .long (lI (dgt 28 d (n - 1) : Int)))]) [2, 3, 4, 1, 0] rfl ?_
    refine J_topl (r := (se : Int)) (congrArg lI (by rw [hse, if_neg (by omega)]; rfl)) ?_
    exact lab43  
  · refine J_aload_n 2 d_M_step_26 rfl rfl ?_
    refine gf_M_7 (by omega) hO rfl d_M_step_27 ?_
    refine J_sipush d_M_step_30 (i16_ok (by decide)) ?_
    refine J_iload_n 4 d_M_step_33 rfl rfl ?_
    refine J_iadd d_M_step_34 ?_
    refine J_iconst d_M_step_35 ?_
    refine J_isub d_M_step_36 ?_
    refine J_iaload 0 rfl (by omega) hB (by omega) d_M_step_37 ?_
    refine J_topi (r := hh ((676 + n) - 2)) (congrArg (fun q => iI (hh q)) (by omega)) ?_
    refine J_topi (r := (dgt 28 d (n - 2) : Int)) (congrArg iI (by rw [show 676 + n - 2 = 676 + (n - 2) by omega, hD _ (by omega)]; rfl)) ?_
    refine J_i2l d_M_step_38 ⟨by omega, by omega⟩ ?_
    refine J_goto (tgt := 43) d_M_step_39 (by decide) ?_
    refine J_pick (lv' := [(0, .ref (ad 98)), (1, .int (iI (j : Int))), (2, .int (iI (n : Int))), (3, .int (iI (650 + (j : Int)))), (4, .long (lI (dgt 28 d (n - 1) : Int)))]) [2, 3, 4, 1, 0] rfl ?_
    refine J_topl (r := (se : Int)) (congrArg lI (by rw [hse, if_pos (by omega)])) ?_
    exact lab43  
