/-! the Model: a result takes its kind and goes to its register -/
theorem near_val {s : Int} {X Y : Nat} {z : UInt64} (hY : 0 < Y) (h : (X = 0 ∧ z = fd false 0 0) ∨ (X ≠ 0 ∧ isR (nq X Y (ns X Y)) (-ns X Y) ∧ z = fd false (nq X Y (ns X Y)) (-ns X Y))) :
    ∃ m e0, z = fd false m e0 ∧ ((m = 0 ∧ e0 = 0) ∨ (4503599627370496 ≤ m ∧ m < 9007199254740992)) ∧ -160 ≤ e0 ∧ e0 ≤ 60 ∧ ∃ s' u d, near s X Y = some (2, s', u, d) ∧ su m e0 * d = u * sd 1 e0 ∧ z = fd false u (1 - (blen d : Int)) := by
  rcases h with ⟨h1, h2⟩ | ⟨h1, h2, h3⟩
  · exact ⟨0, 0, h2, Or.inl ⟨rfl, rfl⟩, by decide, by decide, 0, 0, 1, by unfold near; rw [if_pos h1], rfl, h2⟩
  · have hX : 0 < X := by omega
    have hn := (near_isR (s := s) hX hY).1 h2
    obtain ⟨q1, q2⟩ := nq_rng hY (ns_inR hX hY)
    have b1 : blen (nq X Y (ns X Y)) ≤ 54 := blen_le.mpr (by omega)
    have b2 : ¬ blen (nq X Y (ns X Y)) ≤ 52 := fun z => by have := blen_le.mp z; omega
    unfold isR at h2
    generalize ns X Y = n at *
    generalize nq X Y n = q at *
    obtain ⟨m, e0, g1, g2, g3, g4, g5, g6⟩ := fd_norm (e := -n) q1 q2
    obtain ⟨⟨k, k1, k2⟩, r1⟩ := pow_of_low (m := q) (e := -n) (by omega) (by omega) (by omega) q2
    obtain ⟨m1, m2⟩ := low_mul (U := su q (-n)) (D := sd 1 (-n))
    have hs1 := sd_pos (show 0 < 1 by decide) (-n)
    have hr : su q (-n) * lowd (su q (-n)) (sd 1 (-n)) = lowu (su q (-n)) (sd 1 (-n)) * sd 1 (-n) := by
      generalize lowd (su q (-n)) (sd 1 (-n)) = d at *
      generalize lowu (su q (-n)) (sd 1 (-n)) = u at *
      generalize Nat.gcd (su q (-n)) (sd 1 (-n)) = G at *
      rw [← m1, ← m2]; ac_rfl
    have hr2 : su m e0 * lowd (su q (-n)) (sd 1 (-n)) = lowu (su q (-n)) (sd 1 (-n)) * sd 1 e0 := by
      apply Nat.eq_of_mul_eq_mul_right hs1
      generalize lowd (su q (-n)) (sd 1 (-n)) = d at *
      generalize lowu (su q (-n)) (sd 1 (-n)) = u at *
      have a1 : su m e0 * d * sd 1 (-n) = (su m e0 * sd 1 (-n)) * d := by ac_rfl
      have a2 : u * sd 1 e0 * sd 1 (-n) = u * sd 1 (-n) * sd 1 e0 := by ac_rfl
      rw [a1, a2, g6, ← hr]; ac_rfl
    refine ⟨m, e0, h3.trans g1, Or.inr ⟨g2, g3⟩, by omega, by omega, s, _, _, hn, hr2, h3.trans (fd_same ?_)⟩
    have hb : sd 1 (1 - (blen (lowd (su q (-n)) (sd 1 (-n))) : Int)) = lowd (su q (-n)) (sd 1 (-n)) := by
      unfold sd at k1 ⊢
      rw [k1, blen_pw, show (-(1 - ((k + 1 : Nat) : Int))).toNat = k by omega, Nat.one_mul]
    have hl : 0 < lowd (su q (-n)) (sd 1 (-n)) := lowd_pos hs1
    have hb2 : su (lowu (su q (-n)) (sd 1 (-n))) (1 - (blen (lowd (su q (-n)) (sd 1 (-n))) : Int)) = lowu (su q (-n)) (sd 1 (-n)) := by
      have : 0 < blen (lowd (su q (-n)) (sd 1 (-n))) := blen_pos (by omega)
      show _ * 2 ^ _ = _
      rw [show (1 - (blen (lowd (su q (-n)) (sd 1 (-n))) : Int)).toNat = 0 by omega, Nat.pow_zero, Nat.mul_one]
    rw [hb, hb2, hr]
theorem sus_c {m : Nat} {e : Int} (h : m < 9007199254740993) (he : e ≤ 60) : su m e < 2 ^ 168 := by
  unfold su
  have h1 : 2 ^ e.toNat ≤ 2 ^ 60 := Nat.pow_le_pow_right (by decide) (by omega)
  exact Nat.lt_of_le_of_lt (Nat.mul_le_mul (show m ≤ 9007199254740992 by omega) h1) (by decide)
theorem sds_c {e : Int} (he : -160 ≤ e) : sd 1 e < 2 ^ 168 := by
  unfold sd
  rw [Nat.one_mul]
  exact Nat.pow_lt_pow_right (by decide) (by omega)
theorem sus_b {m : Nat} {e : Int} (h : m < 9007199254740993) (he : e ≤ 110) : su m e < 2 ^ 224 := by
  unfold su
  have h1 : 2 ^ e.toNat ≤ 2 ^ 110 := Nat.pow_le_pow_right (by decide) (by omega)
  exact Nat.lt_of_le_of_lt (Nat.mul_le_mul (show m ≤ 9007199254740992 by omega) h1) (by decide)
theorem sds_b {e : Int} (he : -200 ≤ e) : sd 1 e < 2 ^ 224 := by
  unfold sd
  rw [Nat.one_mul]
  exact Nat.pow_lt_pow_right (by decide) (by omega)
theorem reg_zero {br : Nat → Nat} {hh ll : Nat → Int} {V : Nat → Nat} (h : reg br hh ll V) (a : Nat) : reg (va_up br a 0) hh (va_up ll a 0) (va_up V a 0) := by
  have := reg_set (a := a) (T := 0) h (by rw [lnw_0]; omega) (fun j hj => by rw [lnw_0] at hj; omega) (fun x hx => rfl)
  rw [lnw_0] at this
  exact this
set_option maxRecDepth 100000 in
set_option maxHeartbeats 4000000 in
theorem c_M_form {l : Launch} (hfl : l.flags = flags0) {D : va_G} {g : Nat → ClassId} {ad : Nat → Nat} {N : Nat} {F : Nat → va_E} {hh ll f : Nat → Int} {v : UInt64} {V : Nat → Nat} {br : Nat → Nat} {X Y : Nat} {kd s : Int}
    (hN : 109 ≤ N) (hO : F 98 = oM ad f v) (hB : F 99 = aB g hh) (hL : F 100 = aL g ll) (hR : reg br hh ll V) (hzz : okB br) (hX : V 20 = X) (hY : V 21 = Y) (hY0 : 0 < Y) (hlX : lnw 28 X ≤ 18) (hlY : lnw 28 Y ≤ 18) (hbX : blen X ≤ 504) (hbY : blen Y ≤ 504) (hkd : 0 ≤ kd ∧ kd ≤ 2) (hrs : f 7 = if s < 0 then 1 else 0) (hs : -1 ≤ s ∧ s ≤ 1) :
    JC l y_M_form b_M_form 2 (Option.none : Option Jvm.ClassFile.FieldType) rm_M_form (0, 0) D jCl (jTys g) ad N F [.ref (ad 98), .int (iI kd)] (jv ad N (fun F' => ∃ (hh' ll' : Nat → Int) (W1 : Nat → Nat) (b rs1 : Int) (v1 : UInt64), reg br hh' ll' W1 ∧ (∀ k, k ≠ 20 → k ≠ 21 → ¬(24 ≤ k ∧ k ≤ 30) → W1 k = V k) ∧ (b = 0 ∨ b = 1) ∧ ((b = 1 ∧ fin kd s X Y = none) ∨ (b = 0 ∧ ∃ s' u d, fin kd s X Y = some (kd, s', u, d) ∧ (kd ≠ 2 → W1 20 = u ∧ W1 21 = d) ∧ (kd = 2 → v1 = fd false u (1 - (blen d : Int)) ∧ W1 20 * d = u * W1 21 ∧ 0 < W1 21 ∧ W1 20 < 2 ^ 224 ∧ W1 21 < 2 ^ 224) ∧ rs1 = (if s' < 0 then 1 else 0))) ∧ F' = va_up (va_up (va_up F 98 (oM ad (va_up (va_up f 8 b) 7 rs1) v1)) 99 (aB g hh')) 100 (aL g ll'))) := by
  have hr7 : (f 7 = 1 ∧ s < 0) ∨ (f 7 = 0 ∧ ¬ s < 0) := by rw [hrs]; split <;> omega
  have hbu : blen (lowu X Y) ≤ 504 := blen_le.mpr (Nat.lt_of_le_of_lt (Nat.div_le_self _ _) (blen_le.mp hbX))
  have hbd : blen (lowd X Y) ≤ 504 := blen_le.mpr (Nat.lt_of_le_of_lt (Nat.div_le_self _ _) (blen_le.mp hbY))
  refine JC.go hfl (own := "NumberTowerModel") (lv := [(0, .ref (ad 98)), (1, .int (iI kd))]) rfl (by decide +kernel) (Nat.le_of_ble_eq_true rfl) rfl (fun A => ?_)
  refine J_aload_n 0 d_M_form_0 rfl rfl ?_
  refine J_iconst d_M_form_1 ?_
  refine pf_M_94 (by omega) hO (Nat.le_of_ble_eq_true rfl) (nb01 (by omega)) d_M_form_2 ?_
  refine J_eqF (F2 := va_up F 98 (oM ad (va_up f 8 0) v)) rfl ?_
  refine J_iload_n 1 d_M_form_5 rfl rfl ?_
  refine J_iconst d_M_form_6 ?_
  have lab83 : ∀ (W1 : Nat → Nat) (b : Int) (v1 : UInt64) (e1 : Nat → Int) (e2 : Nat → Int) (hR1 : reg br e1 e2 W1) (hf1 : ∀ k, k ≠ 20 → k ≠ 21 → ¬(24 ≤ k ∧ k ≤ 30) → W1 k = V k) (hb : b = 0 ∨ b = 1) (hcase : ((b = 1 ∧ fin kd s X Y = none) ∨ (b = 0 ∧ ∃ s' u d, fin kd s X Y = some (kd, s', u, d) ∧ (kd ≠ 2 → W1 20 = u ∧ W1 21 = d) ∧ (kd = 2 → v1 = fd false u (1 - (blen d : Int)) ∧ W1 20 * d = u * W1 21 ∧ 0 < W1 21 ∧ W1 20 < 2 ^ 224 ∧ W1 21 < 2 ^ 224) ∧ (W1 20 = 0 ↔ u = 0)))) , J l rm_M_form (0, 0) "NumberTowerModel" b_M_form 2 (Option.none : Option Jvm.ClassFile.FieldType) D jCl (jTys g) A (fun _ me => me.name = y_M_form.name) (jv ad N (fun F' => ∃ (hh' ll' : Nat → Int) (W1 : Nat → Nat) (b rs1 : Int) (v1 : UInt64), reg br hh' ll' W1 ∧ (∀ k, k ≠ 20 → k ≠ 21 → ¬(24 ≤ k ∧ k ≤ 30) → W1 k = V k) ∧ (b = 0 ∨ b = 1) ∧ ((b = 1 ∧ fin kd s X Y = none) ∨ (b = 0 ∧ ∃ s' u d, fin kd s X Y = some (kd, s', u, d) ∧ (kd ≠ 2 → W1 20 = u ∧ W1 21 = d) ∧ (kd = 2 → v1 = fd false u (1 - (blen d : Int)) ∧ W1 20 * d = u * W1 21 ∧ 0 < W1 21 ∧ W1 20 < 2 ^ 224 ∧ W1 21 < 2 ^ 224) ∧ rs1 = (if s' < 0 then 1 else 0))) ∧ F' = va_up (va_up (va_up F 98 (oM ad (va_up (va_up f 8 b) 7 rs1) v1)) 99 (aB g hh')) 100 (aL g ll'))) ad N 0 0 83 [(0, .ref (ad 98))] [] (va_up (va_up (va_up F 98 (oM ad (va_up f 8 b) v1)) 99 (.inl (g 0, 858, .inl (aI e1)))) 100 (.inl (g 0, 33, .inl (aI e2)))) := by
    intro W1 b v1 e1 e2 hR1 hf1 hb hcase
    refine J_aload_n 0 d_M_form_83 rfl rfl ?_
    refine J_aload_n 0 d_M_form_84 rfl rfl ?_
    have lab105 : ∀ (rs1 : Int) (hrs1 : (rs1 = 1 ∧ f 7 = 1 ∧ W1 20 ≠ 0) ∨ (rs1 = 0 ∧ ¬(f 7 = 1 ∧ W1 20 ≠ 0))) , J l rm_M_form (0, 0) "NumberTowerModel" b_M_form 2 (Option.none : Option Jvm.ClassFile.FieldType) D jCl (jTys g) A (fun _ me => me.name = y_M_form.name) (jv ad N (fun F' => ∃ (hh' ll' : Nat → Int) (W1 : Nat → Nat) (b rs1 : Int) (v1 : UInt64), reg br hh' ll' W1 ∧ (∀ k, k ≠ 20 → k ≠ 21 → ¬(24 ≤ k ∧ k ≤ 30) → W1 k = V k) ∧ (b = 0 ∨ b = 1) ∧ ((b = 1 ∧ fin kd s X Y = none) ∨ (b = 0 ∧ ∃ s' u d, fin kd s X Y = some (kd, s', u, d) ∧ (kd ≠ 2 → W1 20 = u ∧ W1 21 = d) ∧ (kd = 2 → v1 = fd false u (1 - (blen d : Int)) ∧ W1 20 * d = u * W1 21 ∧ 0 < W1 21 ∧ W1 20 < 2 ^ 224 ∧ W1 21 < 2 ^ 224) ∧ rs1 = (if s' < 0 then 1 else 0))) ∧ F' = va_up (va_up (va_up F 98 (oM ad (va_up (va_up f 8 b) 7 rs1) v1)) 99 (aB g hh')) 100 (aL g ll'))) ad N 0 0 105 [(0, .ref (ad 98))] [.int (iI rs1), .ref (ad 98)] (va_up (va_up (va_up F 98 (oM ad (va_up f 8 b) v1)) 99 (.inl (g 0, 858, .inl (aI e1)))) 100 (.inl (g 0, 33, .inl (aI e2)))) := by
      intro rs1 hrs1
      refine pf_M_129 (by omega) (by rw [va_up_ne _ _ (by decide), va_up_ne _ _ (by decide), va_up_self]) (Nat.le_of_ble_eq_true rfl) (nb01 (by omega)) d_M_form_105 ?_
      refine J_eqF (F2 := va_up (va_up (va_up (va_up F 98 (oM ad (va_up f 8 b) v1)) 99 (.inl (g 0, 858, .inl (aI e1)))) 100 (.inl (g 0, 33, .inl (aI e2)))) 98 (oM ad (va_up (va_up f 8 b) 7 rs1) v1)) rfl ?_
      refine J_eqF (F2 := va_up (va_up (va_up F 98 (oM ad (va_up (va_up f 8 b) 7 rs1) v1)) 99 (.inl (g 0, 858, .inl (aI e1)))) 100 (.inl (g 0, 33, .inl (aI e2)))) (up_in2 (by decide) (by decide)) ?_
      refine J_vret rfl d_M_form_108 ⟨by decide, by decide⟩ ?_
      refine ⟨rfl, rfl, rfl, e1, e2, W1, b, rs1, v1, hR1, hf1, hb, ?_, rfl⟩
      rcases hcase with ⟨w1, w2⟩ | ⟨w1, s', u, d, w2, w3, w4, w5⟩
      · exact Or.inl ⟨w1, w2⟩
      · refine Or.inr ⟨w1, s', u, d, w2, w3, w4, ?_⟩
        obtain ⟨-, -, -, -, x1, x2, -⟩ := fin_out w2 hY0
        have hsx : s' < 0 ↔ X ≠ 0 ∧ s < 0 := by rw [x2]; split <;> omega
        by_cases q : s' < 0
        · rw [if_pos q]; omega
        · rw [if_neg q]; omega
    refine gf_M_129 (by omega) (by rw [va_up_ne _ _ (by decide), va_up_ne _ _ (by decide), va_up_self]) rfl d_M_form_85 ?_
    refine J_topi (r := f 7) (congrArg iI (va_up_ne _ _ (by decide))) ?_
    refine J_ifeq (tgt := 104) d_M_form_88 (by decide) ⟨by omega, by omega⟩ (fun c88 => ?_) (fun c88 => ?_)
    · refine J_iconst d_M_form_104 ?_
      exact lab105 (0 : Int) (by clear hcase; omega)
    · refine J_aload_n 0 d_M_form_91 rfl rfl ?_
      refine J_bipush d_M_form_92 (i8_ok (by decide)) ?_
      refine J_callVi cw_M_75 nh_M_zero pn_M_zero rfl rfl (by omega) (by rw [va_up_ne _ _ (by decide), va_up_ne _ _ (by decide), va_up_self]) (As := [.int (iI 20)]) (rest := [.ref (ad 98)]) rfl (Nat.le_of_ble_eq_true rfl) ⟨by decide, by decide⟩ rfl ⟨by decide, by decide⟩ d_M_form_94 (k_M_zero hfl (a := 20) (hh := e1) (ll := e2) (V := W1) (br := br) (hN := hN) (hO := (by rw [va_up_ne _ _ (by decide), va_up_ne _ _ (by decide), va_up_self])) (hB := (by rw [va_up_ne _ _ (by decide), va_up_self])) (hL := (by rw [va_up_self])) (hR := hR1) (ha := by omega) (hxa := rfl) (bra := (hzz.2 20 (by decide) (by decide)))) (fun z1 F1 hq => ?_)
      obtain ⟨hz1, eF1⟩ := hq
      refine J_eqF eF1 ?_
      refine J_ifne (tgt := 104) d_M_form_97 (by decide) ⟨by omega, by omega⟩ (fun c97 => ?_) (fun c97 => ?_)
      · refine J_iconst d_M_form_104 ?_
        exact lab105 (0 : Int) (by clear hcase; omega)
      · refine J_iconst d_M_form_100 ?_
        refine J_goto (tgt := 105) d_M_form_101 (by decide) ?_
        exact lab105 (1 : Int) (by clear hcase; omega)
  refine J_if_icmpne (tgt := 44) d_M_form_7 (by decide) ⟨by omega, by omega⟩ ⟨by omega, by omega⟩ (fun c7 => ?_) (fun c7 => ?_)
  · refine J_aload_n 0 d_M_form_44 rfl rfl ?_
    refine J_bipush d_M_form_45 (i8_ok (by decide)) ?_
    refine J_bipush d_M_form_47 (i8_ok (by decide)) ?_
    refine J_callVv cw_M_126 nh_M_lowest pn_M_lowest rfl rfl (by omega) (by rw [va_up_self]) (As := [.int (iI 20), .int (iI 21)]) (rest := []) rfl (Nat.le_of_ble_eq_true rfl) ⟨by decide, by decide⟩ rfl ⟨by decide, by decide⟩ d_M_form_49 (c_M_lowest hfl (u := 20) (d := 21) (hh := hh) (ll := ll) (V := V) (br := br) hN (by rw [va_up_self]) (by rw [va_up_ne _ _ (by decide)]; exact hB) (by rw [va_up_ne _ _ (by decide)]; exact hL) hR (by omega) (by omega) (hzz.2 20 (by decide) (by decide)) (hzz.2 21 (by decide) (by decide)) hzz (by omega) (by omega) (by omega) (by rw [hY]; omega) (by rw [hX]; omega) (by rw [hY]; omega)) (fun  F2 hq => ?_)
    obtain ⟨bh2, bl3, W4, hf5, hu6, hd7, hR8, eF2⟩ := hq
    refine J_eqF (F2 := va_up (va_up (va_up F 98 (oM ad (va_up f 8 0) v)) 99 (.inl (g 0, 858, .inl (aI bh2)))) 100 (.inl (g 0, 33, .inl (aI bl3)))) eF2 ?_
    rw [hX, hY] at hu6 hd7
    refine J_aload_n 0 d_M_form_52 rfl rfl ?_
    have lab80 : ∀ (bb : Int) (hbb : (bb = 1 ∧ ¬(blen (lowu X Y) ≤ 120 ∧ blen (lowd X Y) ≤ 120)) ∨ (bb = 0 ∧ (blen (lowu X Y) ≤ 120 ∧ blen (lowd X Y) ≤ 120))) , J l rm_M_form (0, 0) "NumberTowerModel" b_M_form 2 (Option.none : Option Jvm.ClassFile.FieldType) D jCl (jTys g) A (fun _ me => me.name = y_M_form.name) (jv ad N (fun F' => ∃ (hh' ll' : Nat → Int) (W1 : Nat → Nat) (b rs1 : Int) (v1 : UInt64), reg br hh' ll' W1 ∧ (∀ k, k ≠ 20 → k ≠ 21 → ¬(24 ≤ k ∧ k ≤ 30) → W1 k = V k) ∧ (b = 0 ∨ b = 1) ∧ ((b = 1 ∧ fin kd s X Y = none) ∨ (b = 0 ∧ ∃ s' u d, fin kd s X Y = some (kd, s', u, d) ∧ (kd ≠ 2 → W1 20 = u ∧ W1 21 = d) ∧ (kd = 2 → v1 = fd false u (1 - (blen d : Int)) ∧ W1 20 * d = u * W1 21 ∧ 0 < W1 21 ∧ W1 20 < 2 ^ 224 ∧ W1 21 < 2 ^ 224) ∧ rs1 = (if s' < 0 then 1 else 0))) ∧ F' = va_up (va_up (va_up F 98 (oM ad (va_up (va_up f 8 b) 7 rs1) v1)) 99 (aB g hh')) 100 (aL g ll'))) ad N 0 0 80 [(0, .ref (ad 98)), (1, .int (iI kd))] [.int (iI bb), .ref (ad 98)] (va_up (va_up (va_up F 98 (oM ad (va_up f 8 0) v)) 99 (.inl (g 0, 858, .inl (aI bh2)))) 100 (.inl (g 0, 33, .inl (aI bl3)))) := by
      intro bb hbb
      refine pf_M_94 (by omega) (by rw [va_up_ne _ _ (by decide), va_up_ne _ _ (by decide), va_up_self]) (Nat.le_of_ble_eq_true rfl) (nb01 (by omega)) d_M_form_80 ?_
      refine J_eqF (F2 := va_up (va_up (va_up (va_up F 98 (oM ad (va_up f 8 0) v)) 99 (.inl (g 0, 858, .inl (aI bh2)))) 100 (.inl (g 0, 33, .inl (aI bl3)))) 98 (oM ad (va_up f 8 bb) v)) rfl ?_
      refine J_eqF (F2 := va_up (va_up (va_up F 98 (oM ad (va_up f 8 bb) v)) 99 (.inl (g 0, 858, .inl (aI bh2)))) 100 (.inl (g 0, 33, .inl (aI bl3)))) (up_in2 (by decide) (by decide)) ?_
      refine J_pick (lv' := [(0, .ref (ad 98))]) [0] rfl ?_
      exact lab83 W4 bb v bh2 bl3 hR8 (fun k k1 k2 k3 => (show (W4) k = W4 k from by rfl).trans (hf5 k (by omega) k1 k2)) (by omega) (by rcases hbb with ⟨z1, z2⟩ | ⟨z1, z2⟩; exact Or.inl ⟨z1, by unfold fin; rw [if_neg (by omega), if_neg z2]⟩; exact Or.inr ⟨z1, (if X = 0 then 0 else s), lowu X Y, lowd X Y, by unfold fin; rw [if_neg (by omega), if_pos z2], fun _ => ⟨hu6, hd7⟩, fun e => absurd e (by omega), by rw [show (W4) 20 = lowu X Y from hu6]⟩)
    refine J_aload_n 0 d_M_form_53 rfl rfl ?_
    refine J_bipush d_M_form_54 (i8_ok (by decide)) ?_
    refine J_callVi cw_M_62 nh_M_bits pn_M_bits rfl rfl (by omega) (by rw [va_up_ne _ _ (by decide), va_up_ne _ _ (by decide), va_up_self]) (As := [.int (iI 20)]) (rest := [.ref (ad 98)]) rfl (Nat.le_of_ble_eq_true rfl) ⟨by decide, by decide⟩ rfl ⟨by decide, by decide⟩ d_M_form_56 (k_M_bits hfl (a := 20) (hh := bh2) (ll := bl3) (V := W4) (br := br) (hN := hN) (hO := (by rw [va_up_ne _ _ (by decide), va_up_ne _ _ (by decide), va_up_self])) (hB := (by rw [va_up_ne _ _ (by decide), va_up_self])) (hL := (by rw [va_up_self])) (hR := hR8) (ha := by omega) (hxa := hu6) (bra := (hzz.2 20 (by decide) (by decide)))) (fun z9 F3 hq => ?_)
    obtain ⟨hz9, eF3⟩ := hq
    refine J_eqF eF3 ?_
    refine J_topi (r := (((blen (lowu X Y) : Nat)) : Int)) (congrArg iI hz9) ?_
    refine J_bipush d_M_form_59 (i8_ok (by decide)) ?_
    refine J_if_icmpgt (tgt := 75) d_M_form_61 (by decide) ⟨by omega, by omega⟩ ⟨by omega, by omega⟩ (fun c61 => ?_) (fun c61 => ?_)
    · refine J_iconst d_M_form_75 ?_
      refine J_goto (tgt := 80) d_M_form_76 (by decide) ?_
      exact lab80 (1 : Int) (by omega)
    · refine J_aload_n 0 d_M_form_64 rfl rfl ?_
      refine J_bipush d_M_form_65 (i8_ok (by decide)) ?_
      refine J_callVi cw_M_62 nh_M_bits pn_M_bits rfl rfl (by omega) (by rw [va_up_ne _ _ (by decide), va_up_ne _ _ (by decide), va_up_self]) (As := [.int (iI 21)]) (rest := [.ref (ad 98)]) rfl (Nat.le_of_ble_eq_true rfl) ⟨by decide, by decide⟩ rfl ⟨by decide, by decide⟩ d_M_form_67 (k_M_bits hfl (a := 21) (hh := bh2) (ll := bl3) (V := W4) (br := br) (hN := hN) (hO := (by rw [va_up_ne _ _ (by decide), va_up_ne _ _ (by decide), va_up_self])) (hB := (by rw [va_up_ne _ _ (by decide), va_up_self])) (hL := (by rw [va_up_self])) (hR := hR8) (ha := by omega) (hxa := hd7) (bra := (hzz.2 21 (by decide) (by decide)))) (fun z10 F4 hq => ?_)
      obtain ⟨hz10, eF4⟩ := hq
      refine J_eqF eF4 ?_
      refine J_topi (r := (((blen (lowd X Y) : Nat)) : Int)) (congrArg iI hz10) ?_
      refine J_bipush d_M_form_70 (i8_ok (by decide)) ?_
      refine J_if_icmple (tgt := 79) d_M_form_72 (by decide) ⟨by omega, by omega⟩ ⟨by omega, by omega⟩ (fun c72 => ?_) (fun c72 => ?_)
      · refine J_iconst d_M_form_79 ?_
        exact lab80 (0 : Int) (by omega)
      · refine J_iconst d_M_form_75 ?_
        refine J_goto (tgt := 80) d_M_form_76 (by decide) ?_
        exact lab80 (1 : Int) (by omega)
  · refine J_aload_n 0 d_M_form_10 rfl rfl ?_
    refine J_aload_n 0 d_M_form_11 rfl rfl ?_
    refine J_bipush d_M_form_12 (i8_ok (by decide)) ?_
    refine J_bipush d_M_form_14 (i8_ok (by decide)) ?_
    refine J_callVd cw_M_118 nh_M_nearest pn_M_nearest rfl rfl (by omega) (by rw [va_up_self]) (As := [.int (iI 20), .int (iI 21)]) (rest := [.ref (ad 98)]) rfl (Nat.le_of_ble_eq_true rfl) ⟨by decide, by decide⟩ rfl ⟨by decide, by decide⟩ d_M_form_16 (c_M_nearest hfl (u := 20) (d := 21) (X := X) (Y := Y) (hh := hh) (ll := ll) (f := va_up f 8 0) (v := v) (V := V) (br := br) hN (by rw [va_up_self]) (by rw [va_up_ne _ _ (by decide)]; exact hB) (by rw [va_up_ne _ _ (by decide)]; exact hL) hR hzz (by omega) (by omega) (hzz.2 20 (by decide) (by decide)) (hzz.2 21 (by decide) (by decide)) (hX) (hY) hY0 hlX hlY hbX hbY) (fun z15 F5 hq => ?_)
    obtain ⟨bh11, bl12, W13, b14, hR16, hf17, hz18, eF5⟩ := hq
    refine J_eqF (F2 := va_up (va_up (va_up F 98 (oM ad (va_up f 8 b14) v)) 99 (.inl (g 0, 858, .inl (aI bh11)))) 100 (.inl (g 0, 33, .inl (aI bl12)))) (eF5.trans (congrArg (fun q : Nat → va_E => va_up q 100 (.inl (g 0, 33, .inl (aI bl12)))) (congrArg (fun q : Nat → va_E => va_up q 99 (.inl (g 0, 858, .inl (aI bh11)))) (up_in0)))) ?_
    refine pf_M_122 (by omega) (by rw [va_up_ne _ _ (by decide), va_up_ne _ _ (by decide), va_up_self]) (Nat.le_of_ble_eq_true rfl) d_M_form_19 ?_
    refine J_eqF (F2 := va_up (va_up (va_up (va_up F 98 (oM ad (va_up f 8 b14) v)) 99 (.inl (g 0, 858, .inl (aI bh11)))) 100 (.inl (g 0, 33, .inl (aI bl12)))) 98 (oM ad (va_up f 8 b14) z15)) rfl ?_
    refine J_eqF (F2 := va_up (va_up (va_up F 98 (oM ad (va_up f 8 b14) z15)) 99 (.inl (g 0, 858, .inl (aI bh11)))) 100 (.inl (g 0, 33, .inl (aI bl12)))) (up_in2 (by decide) (by decide)) ?_
    refine J_aload_n 0 d_M_form_22 rfl rfl ?_
    refine gf_M_94 (by omega) (by rw [va_up_ne _ _ (by decide), va_up_ne _ _ (by decide), va_up_self]) rfl d_M_form_23 ?_
    refine J_topi (r := b14) (congrArg iI (va_up_self ..)) ?_
    refine J_ifne (tgt := 83) d_M_form_26 (by decide) ⟨by omega, by omega⟩ (fun c26 => ?_) (fun c26 => ?_)
    · refine J_pick (lv' := [(0, .ref (ad 98))]) [0] rfl ?_
      exact lab83 W13 b14 z15 bh11 bl12 hR16 (fun k k1 k2 k3 => (show (W13) k = W13 k from by rfl).trans (hf17 k k3)) (by rcases hz18 with ⟨w1, w2, w3, w4⟩ | ⟨w1, w2, w3⟩ | ⟨w1, w2, w3, w4⟩ <;> omega) (Or.inl ⟨by rcases hz18 with ⟨w1, w2, w3, w4⟩ | ⟨w1, w2, w3⟩ | ⟨w1, w2, w3, w4⟩ <;> omega, by rcases hz18 with ⟨w1, w2, w3, w4⟩ | ⟨w1, w2, w3⟩ | ⟨w1, w2, w3, w4⟩; (unfold fin; rw [if_pos (by omega)]; exact (near_isR (by omega) hY0).2 w2); omega; omega⟩)
    · obtain ⟨m, e0, y1, y2, y3, y4, s', u, d, y5, y6, y7⟩ := near_val (s := s) (X := X) hY0 (show (X = 0 ∧ z15 = fd false 0 0) ∨ (X ≠ 0 ∧ isR (nq X Y (ns X Y)) (-ns X Y) ∧ z15 = fd false (nq X Y (ns X Y)) (-ns X Y)) by
        rcases hz18 with ⟨w1, w2, w3, w4⟩ | ⟨w1, w2, w3⟩ | ⟨w1, w2, w3, w4⟩
        · omega
        · exact Or.inl ⟨w1, w3⟩
        · exact Or.inr ⟨w1, w2, w4⟩)
      have hk2 : kd = 2 := by omega
      refine J_aload_n 0 d_M_form_29 rfl rfl ?_
      refine J_aload_n 0 d_M_form_30 rfl rfl ?_
      refine gf_M_122 (by omega) (by rw [va_up_ne _ _ (by decide), va_up_ne _ _ (by decide), va_up_self]) rfl d_M_form_31 ?_
      refine J_topd (y := (fd false m e0)) y1 ?_
      refine J_bipush d_M_form_34 (i8_ok (by decide)) ?_
      refine J_bipush d_M_form_36 (i8_ok (by decide)) ?_
      refine J_callVv cw_M_114 nh_M_split pn_M_split rfl rfl (by omega) (by rw [va_up_ne _ _ (by decide), va_up_ne _ _ (by decide), va_up_self]) (As := [.double (fd false m e0), .int (iI 20), .int (iI 21)]) (rest := []) rfl (Nat.le_of_ble_eq_true rfl) ⟨by decide, by decide⟩ rfl ⟨by decide, by decide⟩ d_M_form_38 (c_M_split hfl (u := 20) (d := 21) (m := m) (e0 := e0) (hh := bh11) (ll := bl12) (V := W13) (br := br) hN (by rw [va_up_ne _ _ (by decide), va_up_ne _ _ (by decide), va_up_self]) (by rw [va_up_ne _ _ (by decide), va_up_self]) (by rw [va_up_self]) hR16 hzz (by omega) (by omega) (hzz.2 20 (by decide) (by decide)) (hzz.2 21 (by decide) (by decide)) (by omega) y2 ⟨by omega, by omega⟩) (fun  F6 hq => ?_)
      obtain ⟨bh19, bl20, hR21, eF6⟩ := hq
      refine J_eqF (F2 := va_up (va_up (va_up F 98 (oM ad (va_up f 8 b14) z15)) 99 (.inl (g 0, 858, .inl (aI bh19)))) 100 (.inl (g 0, 33, .inl (aI bl20)))) (eF6.trans (Eq.trans (congrArg (fun q : Nat → va_E => va_up q 100 (.inl (g 0, 33, .inl (aI bl20)))) (up_in1 (by decide))) (up_in0))) ?_
      refine J_goto (tgt := 83) d_M_form_41 (by decide) ?_
      refine J_pick (lv' := [(0, .ref (ad 98))]) [0] rfl ?_
      exact lab83 (va_up (va_up W13 21 (sd 1 e0)) 20 (su m e0)) b14 z15 bh19 bl20 hR21 (fun k k1 k2 k3 => (show (va_up (va_up W13 21 (sd 1 e0)) 20 (su m e0)) k = W13 k from by rw [va_up_ne _ _ (by omega), va_up_ne _ _ (by omega)]).trans (hf17 k k3)) (by rcases hz18 with ⟨w1, w2, w3, w4⟩ | ⟨w1, w2, w3⟩ | ⟨w1, w2, w3, w4⟩ <;> omega) (Or.inr ⟨by omega, s', u, d, by unfold fin; rw [if_pos hk2, hk2]; exact y5, fun e => absurd hk2 e, fun _ => ⟨y7, by rw [show (va_up (va_up W13 21 (sd 1 e0)) 20 (su m e0)) 20 = su m e0 from (va_up_self ..), show (va_up (va_up W13 21 (sd 1 e0)) 20 (su m e0)) 21 = sd 1 e0 from ((va_up_ne _ _ (by decide)).trans (va_up_self ..))]; exact ⟨y6, sd_pos (by decide) e0, sus_b (by omega) (by omega), sds_b (by omega)⟩⟩, by rw [show (va_up (va_up W13 21 (sd 1 e0)) 20 (su m e0)) 20 = su m e0 from (va_up_self ..)]; exact z_ratio (sd_pos (by decide) e0) (near_out y5 hY0).2.1 y6⟩)
