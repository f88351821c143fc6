/-! naturals: the small methods -/
abbrev upN (ad : Nat → Nat) (g : Nat → ClassId) (F : Nat → va_E) (k n : Nat) : Nat → va_E := va_up (va_up F (k + 1) (aN g (dg n))) k (oN ad k (lnw 30 n : Int))
theorem upN_0 {ad : Nat → Nat} {g : Nat → ClassId} {F : Nat → va_E} {k : Nat} : va_up (va_up F (k + 1) (.inl (g 0, 16, .inl (aI (fun _ => 0))))) k (oN ad k 0) = upN ad g F k 0 := by
  rw [upN, dg_0, lnw_0]; rfl
theorem dg_nat (n i : Nat) : dg n i = ((dgt 30 n i : Nat) : Int) := rfl
theorem dgt_b (n i : Nat) : dgt 30 n i < 1073741824 := dgt_lt 30 n i
theorem dg_16 {n j : Nat} (h : n < 2 ^ 480) (hj : 16 ≤ j) : dg n j = 0 := dg_zero (Nat.le_trans (cn_16 h) hj)
theorem cpy_dg {a b : Nat} (ha : a < 2 ^ 480) (hb : b < 2 ^ 480) : va_cpy (dg b) (dg a) 0 0 16 = dg b := by
  funext j
  simp only [va_cpy]
  split
  · simp
  · rw [dg_16 ha (by omega), dg_16 hb (by omega)]
theorem dgt_00 (n : Nat) : dgt 30 n 0 = n % 1073741824 := by simp [dgt]
theorem dgt_1 (n : Nat) : dgt 30 n 1 = n / 1073741824 % 1073741824 := by simp [dgt]
theorem dgt_2 (n : Nat) : dgt 30 n 2 = n / 1152921504606846976 % 1073741824 := by simp [dgt]
theorem dgt_3' (n : Nat) : dgt 30 n 3 = n / 1152921504606846976 / 1073741824 % 1073741824 := by simp [dgt, Nat.div_div_eq_div_mul]
theorem lnw_1 {n : Nat} : (lnw 30 n = 1 ∧ dgt 30 n 0 = 1) ↔ n = 1 := by
  constructor
  · rintro ⟨h1, h2⟩
    have := (lnw_le (w := 30) (n := n) (m := 1) (by decide)).mp (by omega)
    rw [dgt_00] at h2
    omega
  · rintro rfl
    decide
theorem or30 {a b : Nat} (ha : a < 1073741824) : a ||| b * 1073741824 = a + b * 1073741824 := by
  rw [Nat.mul_comm b, Nat.or_comm, Nat.add_comm]
  exact (Nat.two_pow_add_eq_or_of_lt (i := 30) ha b).symm
theorem or60 {a b : Nat} (ha : a < 1152921504606846976) : a ||| b * 1152921504606846976 = a + b * 1152921504606846976 := by
  rw [Nat.mul_comm b, Nat.or_comm, Nat.add_comm]
  exact (Nat.two_pow_add_eq_or_of_lt (i := 60) ha b).symm
theorem lnw_blen {n : Nat} (h : n ≠ 0) : ((lnw 30 n : Int) - 1) * 30 + (blen (dgt 30 n (lnw 30 n - 1)) : Int) = blen n := by
  obtain ⟨q, hq⟩ : ∃ q, lnw 30 n = q + 1 := ⟨lnw 30 n - 1, by have : lnw 30 n ≠ 0 := fun z => h (cn_eq0.mp z); omega⟩
  have h1 : n < 2 ^ (30 * (q + 1)) := (lnw_le (by decide)).mp (by omega)
  have h2 := dgt_top (by decide) hq
  rw [hq, Nat.add_sub_cancel]
  have h3 : dgt 30 n q = n / 2 ^ (30 * q) := by
    unfold dgt
    rw [Nat.mod_eq_of_lt]
    rw [Nat.div_lt_iff_lt_mul (Nat.two_pow_pos _), Nat.mul_comm, ← pw_succ]; exact h1
  have h4 : blen n = 30 * q + blen (dgt 30 n q) := by
    rw [h3] at h2 ⊢
    apply Nat.le_antisymm
    · rw [blen_le, Nat.pow_add, Nat.mul_comm, ← Nat.div_lt_iff_lt_mul (Nat.two_pow_pos _)]
      exact blen_lt _
    · have h5 := blen_ge h2
      have h6 := blen_pos h2
      have h7 : ¬ blen n ≤ 30 * q + (blen (n / 2 ^ (30 * q)) - 1) := by
        rw [blen_le, Nat.pow_add, Nat.mul_comm, ← Nat.div_lt_iff_lt_mul (Nat.two_pow_pos _)]
        omega
      omega
  rw [h4]
  push_cast
  omega
set_option maxRecDepth 100000 in
set_option maxHeartbeats 4000000 in
theorem c_N_clear {l : Launch} (hfl : l.flags = flags0) {D : va_G} {g : Nat → ClassId} {ad : Nat → Nat} {N : Nat} {F : Nat → va_E} {k a : Nat}
    (hk : k + 1 < N) (hF : F k = oN ad k (lnw 30 a : Int)) (hA : F (k + 1) = aN g (dg a)) :
    JC l y_N_clear b_N_clear 1 (Option.none : Option Jvm.ClassFile.FieldType) rm_N_clear (0, 0) D jCl (jTys g) ad N F [.ref (ad k)] (jv ad N (fun F' => F' = upN ad g F k 0)) := by
  refine JC.go hfl (own := "NumberTower$Natural") (lv := [(0, .ref (ad k))]) rfl (by decide +kernel) (Nat.le_of_ble_eq_true rfl) rfl (fun A => ?_)
  refine J_aload_n 0 d_N_clear_0 rfl rfl ?_
  refine gf_N_9 (by omega) hF rfl d_N_clear_1 ?_
  refine J_iconst d_N_clear_4 ?_
  refine J_callSv cw_N_13 nh_JArrays_fill pn_JArrays_fill rfl (As := [.ref (ad (k + 1)), .int (iI 0)]) (rest := []) rfl (Nat.le_of_ble_eq_true rfl) ⟨by decide, by decide⟩ rfl ⟨by decide, by decide⟩ d_N_clear_5 (c_JArrays_fill hfl (by omega) hA (by decide)) (fun  F1 hq => ?_)
  have eF1 := hq
  refine J_eqF eF1 ?_
  refine J_aload_n 0 d_N_clear_8 rfl rfl ?_
  refine J_iconst d_N_clear_9 ?_
  refine pf_N_19 (by omega) (by rw [va_up_ne _ _ (by omega)]; exact hF) (Nat.le_of_ble_eq_true rfl) d_N_clear_10 ?_
  refine J_eqF (F2 := va_up (va_up F (k + 1) (.inl (g 0, 16, .inl (aI (fun _ => 0))))) k (.inr (2, [.ref (ad (k + 1)), .int (iI 0)]))) rfl ?_
  refine J_vret rfl d_N_clear_13 ⟨by decide, by decide⟩ ?_
  exact ⟨rfl, rfl, rfl, upN_0⟩
set_option maxRecDepth 100000 in
set_option maxHeartbeats 4000000 in
theorem c_N_set {l : Launch} (hfl : l.flags = flags0) {D : va_G} {g : Nat → ClassId} {ad : Nat → Nat} {N : Nat} {F : Nat → va_E} {k a n : Nat}
    (hk : k + 1 < N) (hF : F k = oN ad k (lnw 30 a : Int)) (hA : F (k + 1) = aN g (dg a)) (hn : n < 18446744073709551616) :
    JC l y_N_set b_N_set 3 (Option.none : Option Jvm.ClassFile.FieldType) rm_N_set (0, 0) D jCl (jTys g) ad N F [.ref (ad k), .long (lI (n : Int))] (jv ad N (fun F' => F' = upN ad g F k n)) := by
  refine JC.go hfl (own := "NumberTower$Natural") (lv := [(0, .ref (ad k)), (1, .long (lI (n : Int)))]) rfl (by decide +kernel) (Nat.le_of_ble_eq_true rfl) rfl (fun A => ?_)
  refine J_aload_n 0 d_N_set_0 rfl rfl ?_
  refine J_callVv cw_N_23 nh_N_clear pn_N_clear rfl rfl (by omega) hF (As := []) (rest := []) rfl (Nat.le_of_ble_eq_true rfl) ⟨by decide, by decide⟩ rfl ⟨by decide, by decide⟩ d_N_set_1 (c_N_clear hfl (by omega) hF hA) (fun  F1 hq => ?_)
  have eF1 := hq
  refine J_eqF eF1 ?_
  refine J_eqF (F2 := va_up (va_up F (k + 1) (.inl (g 0, 16, .inl (aI (fun _ => 0))))) k (.inr (2, [.ref (ad (k + 1)), .int (iI (lnw 30 0 : Int))]))) (congrArg (fun qq => va_up (va_up F (k + 1) (.inl (g 0, 16, .inl (aI qq)))) k (.inr (2, [.ref (ad (k + 1)), .int (iI (lnw 30 0 : Int))]))) dg_0) ?_
  refine J_aload_n 0 d_N_set_4 rfl rfl ?_
  refine gf_N_9 (by omega) (by rw [va_up_self]) rfl d_N_set_5 ?_
  refine J_iconst d_N_set_8 ?_
  refine J_lload_n 1 d_N_set_9 rfl rfl ?_
  refine J_ldc2 (z := 1073741823) d_N_set_10 wd_310 (by decide) ?_
  refine J_land (r := ((n % 1073741824 : Nat) : Int)) d_N_set_13 (lI_andn 30 (by decide)) ?_
  refine J_l2i d_N_set_14 ?_
  refine J_iastore 0 rfl (by omega) (by rw [va_up_ne _ _ (by omega), va_up_self]) (by omega) d_N_set_15 ?_
  refine J_eqF (F2 := va_up (va_up (va_up F (k + 1) (.inl (g 0, 16, .inl (aI (fun _ => 0))))) k (.inr (2, [.ref (ad (k + 1)), .int (iI (lnw 30 0 : Int))]))) (k + 1) (.inl (g 0, 16, .inl (aI (va_up (fun _ => 0) 0 ((n % 1073741824 : Nat) : Int)))))) (congrArg (fun q => va_up (va_up (va_up F (k + 1) (.inl (g 0, 16, .inl (aI (fun _ => 0))))) k (.inr (2, [.ref (ad (k + 1)), .int (iI (lnw 30 0 : Int))]))) (k + 1) (.inl (g 0, 16, .inl (aI (va_up (fun _ => 0) q ((n % 1073741824 : Nat) : Int)))))) (by omega : (0 : Int).toNat = 0)) ?_
  refine J_eqF (F2 := va_up (va_up F (k + 1) (.inl (g 0, 16, .inl (aI (va_up (fun _ => 0) 0 ((n % 1073741824 : Nat) : Int)))))) k (.inr (2, [.ref (ad (k + 1)), .int (iI (lnw 30 0 : Int))]))) (up_in1 (by omega)) ?_
  refine J_aload_n 0 d_N_set_16 rfl rfl ?_
  refine gf_N_9 (by omega) (by rw [va_up_self]) rfl d_N_set_17 ?_
  refine J_iconst d_N_set_20 ?_
  refine J_lload_n 1 d_N_set_21 rfl rfl ?_
  refine J_bipush d_N_set_22 (i8_ok (by decide)) ?_
  refine J_lushr (r := ((n / 1073741824 : Nat) : Int)) d_N_set_24 (lI_ushrn (by omega) 30 (by decide)) ?_
  refine J_ldc2 (z := 1073741823) d_N_set_25 wd_310 (by decide) ?_
  refine J_land (r := (((n / 1073741824) % 1073741824 : Nat) : Int)) d_N_set_28 (lI_andn 30 (by decide)) ?_
  refine J_l2i d_N_set_29 ?_
  refine J_iastore 0 rfl (by omega) (by rw [va_up_ne _ _ (by omega), va_up_self]) (by omega) d_N_set_30 ?_
  refine J_eqF (F2 := va_up (va_up (va_up F (k + 1) (.inl (g 0, 16, .inl (aI (va_up (fun _ => 0) 0 ((n % 1073741824 : Nat) : Int)))))) k (.inr (2, [.ref (ad (k + 1)), .int (iI (lnw 30 0 : Int))]))) (k + 1) (.inl (g 0, 16, .inl (aI (va_up (va_up (fun _ => 0) 0 ((n % 1073741824 : Nat) : Int)) 1 (((n / 1073741824) % 1073741824 : Nat) : Int)))))) (congrArg (fun q => va_up (va_up (va_up F (k + 1) (.inl (g 0, 16, .inl (aI (va_up (fun _ => 0) 0 ((n % 1073741824 : Nat) : Int)))))) k (.inr (2, [.ref (ad (k + 1)), .int (iI (lnw 30 0 : Int))]))) (k + 1) (.inl (g 0, 16, .inl (aI (va_up (va_up (fun _ => 0) 0 ((n % 1073741824 : Nat) : Int)) q (((n / 1073741824) % 1073741824 : Nat) : Int)))))) (by omega : (1 : Int).toNat = 1)) ?_
  refine J_eqF (F2 := va_up (va_up F (k + 1) (.inl (g 0, 16, .inl (aI (va_up (va_up (fun _ => 0) 0 ((n % 1073741824 : Nat) : Int)) 1 (((n / 1073741824) % 1073741824 : Nat) : Int)))))) k (.inr (2, [.ref (ad (k + 1)), .int (iI (lnw 30 0 : Int))]))) (up_in1 (by omega)) ?_
  refine J_aload_n 0 d_N_set_31 rfl rfl ?_
  refine gf_N_9 (by omega) (by rw [va_up_self]) rfl d_N_set_32 ?_
  refine J_iconst d_N_set_35 ?_
  refine J_lload_n 1 d_N_set_36 rfl rfl ?_
  refine J_bipush d_N_set_37 (i8_ok (by decide)) ?_
  refine J_lushr (r := ((n / 1152921504606846976 : Nat) : Int)) d_N_set_39 (lI_ushrn (by omega) 60 (by decide)) ?_
  refine J_l2i d_N_set_40 ?_
  refine J_iastore 0 rfl (by omega) (by rw [va_up_ne _ _ (by omega), va_up_self]) (by omega) d_N_set_41 ?_
  refine J_eqF (F2 := va_up (va_up (va_up F (k + 1) (.inl (g 0, 16, .inl (aI (va_up (va_up (fun _ => 0) 0 ((n % 1073741824 : Nat) : Int)) 1 (((n / 1073741824) % 1073741824 : Nat) : Int)))))) k (.inr (2, [.ref (ad (k + 1)), .int (iI (lnw 30 0 : Int))]))) (k + 1) (.inl (g 0, 16, .inl (aI (va_up (va_up (va_up (fun _ => 0) 0 ((n % 1073741824 : Nat) : Int)) 1 (((n / 1073741824) % 1073741824 : Nat) : Int)) 2 ((n / 1152921504606846976 : Nat) : Int)))))) (congrArg (fun q => va_up (va_up (va_up F (k + 1) (.inl (g 0, 16, .inl (aI (va_up (va_up (fun _ => 0) 0 ((n % 1073741824 : Nat) : Int)) 1 (((n / 1073741824) % 1073741824 : Nat) : Int)))))) k (.inr (2, [.ref (ad (k + 1)), .int (iI (lnw 30 0 : Int))]))) (k + 1) (.inl (g 0, 16, .inl (aI (va_up (va_up (va_up (fun _ => 0) 0 ((n % 1073741824 : Nat) : Int)) 1 (((n / 1073741824) % 1073741824 : Nat) : Int)) q ((n / 1152921504606846976 : Nat) : Int)))))) (by omega : (2 : Int).toNat = 2)) ?_
  refine J_eqF (F2 := va_up (va_up F (k + 1) (.inl (g 0, 16, .inl (aI (va_up (va_up (va_up (fun _ => 0) 0 ((n % 1073741824 : Nat) : Int)) 1 (((n / 1073741824) % 1073741824 : Nat) : Int)) 2 ((n / 1152921504606846976 : Nat) : Int)))))) k (.inr (2, [.ref (ad (k + 1)), .int (iI (lnw 30 0 : Int))]))) (up_in1 (by omega)) ?_
  refine J_aload_n 0 d_N_set_42 rfl rfl ?_
  refine J_iconst d_N_set_43 ?_
  refine J_eqF (F2 := va_up (va_up F (k + 1) (.inl (g 0, 16, .inl (aI (dg n))))) k (.inr (2, [.ref (ad (k + 1)), .int (iI (lnw 30 0 : Int))]))) (congrArg (fun qq => va_up (va_up F (k + 1) (.inl (g 0, 16, .inl (aI qq)))) k (.inr (2, [.ref (ad (k + 1)), .int (iI (lnw 30 0 : Int))]))) (dg_3 hn)) ?_
  refine J_callVv cw_N_28 nh_N_trim pn_N_trim rfl rfl (by omega) (by rw [va_up_self]) (As := [.int (iI 3)]) (rest := []) rfl (Nat.le_of_ble_eq_true rfl) ⟨by decide, by decide⟩ rfl ⟨by decide, by decide⟩ d_N_set_44 (c_N_trimC hfl (n := n) (by omega) (by rw [va_up_self]) (by rw [va_up_ne _ _ (by omega), va_up_self]) (Nat.lt_of_lt_of_le hn (by decide)) ⟨by have := (lnw_le (w := 30) (n := n) (m := 3) (by decide)).mpr (Nat.lt_of_lt_of_le hn (by decide)); omega, by decide⟩) (fun  F2 hq => ?_)
  have eF2 := hq
  refine J_eqF (F2 := va_up (va_up F (k + 1) (.inl (g 0, 16, .inl (aI (dg n))))) k (.inr (2, [.ref (ad (k + 1)), .int (iI (lnw 30 n : Int))]))) (eF2.trans (up_in0)) ?_
  refine J_vret rfl d_N_set_47 ⟨by decide, by decide⟩ ?_
  exact ⟨rfl, rfl, rfl, rfl⟩
set_option maxRecDepth 100000 in
set_option maxHeartbeats 4000000 in
theorem c_N_copyFrom {l : Launch} (hfl : l.flags = flags0) {D : va_G} {g : Nat → ClassId} {ad : Nat → Nat} {N : Nat} {F : Nat → va_E} {k m a b : Nat}
    (hk : k + 1 < N) (hF : F k = oN ad k (lnw 30 a : Int)) (hA : F (k + 1) = aN g (dg a)) (h : a < 2 ^ 480) (yhk : m + 1 < N) (yhF : F m = oN ad m (lnw 30 b : Int)) (yhA : F (m + 1) = aN g (dg b)) (yh : b < 2 ^ 480) (hd : k + 1 < m ∨ m + 1 < k) :
    JC l y_N_copyFrom b_N_copyFrom 2 (Option.none : Option Jvm.ClassFile.FieldType) rm_N_copyFrom (0, 0) D jCl (jTys g) ad N F [.ref (ad k), .ref (ad m)] (jv ad N (fun F' => F' = upN ad g F k b)) := by
  refine JC.go hfl (own := "NumberTower$Natural") (lv := [(0, .ref (ad k)), (1, .ref (ad m))]) rfl (by decide +kernel) (Nat.le_of_ble_eq_true rfl) rfl (fun A => ?_)
  refine J_aload_n 1 d_N_copyFrom_0 rfl rfl ?_
  refine gf_N_9 (by omega) yhF rfl d_N_copyFrom_1 ?_
  refine J_iconst d_N_copyFrom_4 ?_
  refine J_aload_n 0 d_N_copyFrom_5 rfl rfl ?_
  refine gf_N_9 (by omega) hF rfl d_N_copyFrom_6 ?_
  refine J_iconst d_N_copyFrom_9 ?_
  refine J_bipush d_N_copyFrom_10 (i8_ok (by decide)) ?_
  refine J_copyI (idx := 32) (k0 := m + 1) (k1 := k + 1) (f := dg b) (h := dg a) 0 0 rfl rfl wd_327 wd_329 wd_328 wd_19 (by omega) (by omega) yhA hA (by omega) (by decide) d_N_copyFrom_12 ?_
  refine J_eqF (F2 := va_up F (k + 1) (.inl (g 0, 16, .inl (aI (dg b))))) (congrArg (fun qq => va_up F (k + 1) (.inl (g 0, 16, .inl (aI qq)))) (cpy_dg h yh)) ?_
  refine J_aload_n 0 d_N_copyFrom_15 rfl rfl ?_
  refine J_aload_n 1 d_N_copyFrom_16 rfl rfl ?_
  refine gf_N_19 (by omega) (by rw [va_up_ne _ _ (by omega)]; exact yhF) rfl d_N_copyFrom_17 ?_
  refine pf_N_19 (by omega) (by rw [va_up_ne _ _ (by omega)]; exact hF) (Nat.le_of_ble_eq_true rfl) d_N_copyFrom_20 ?_
  refine J_eqF (F2 := va_up (va_up F (k + 1) (.inl (g 0, 16, .inl (aI (dg b))))) k (.inr (2, [.ref (ad (k + 1)), .int (iI (lnw 30 b : Int))]))) rfl ?_
  refine J_vret rfl d_N_copyFrom_23 ⟨by decide, by decide⟩ ?_
  exact ⟨rfl, rfl, rfl, rfl⟩
set_option maxRecDepth 100000 in
set_option maxHeartbeats 4000000 in
theorem c_N_isZero {l : Launch} (hfl : l.flags = flags0) {D : va_G} {g : Nat → ClassId} {ad : Nat → Nat} {N : Nat} {F : Nat → va_E} {k a : Nat}
    (hk : k + 1 < N) (hF : F k = oN ad k (lnw 30 a : Int)) (hA : F (k + 1) = aN g (dg a)) (h : a < 2 ^ 480) :
    JC l y_N_isZero b_N_isZero 1 (Option.some Jvm.ClassFile.FieldType.boolean) rm_N_isZero (0, 0) D jCl (jTys g) ad N F [.ref (ad k)] (ji ad N (fun z F' => ((z = 1 ∧ a = 0) ∨ (z = 0 ∧ a ≠ 0)) ∧ F' = F)) := by
  have l1 := cn_16 h
  have l2 := cn_eq0 (n := a)
  refine JC.go hfl (own := "NumberTower$Natural") (lv := [(0, .ref (ad k))]) rfl (by decide +kernel) (Nat.le_of_ble_eq_true rfl) rfl (fun A => ?_)
  refine J_aload_n 0 d_N_isZero_0 rfl rfl ?_
  refine gf_N_19 (by omega) hF rfl d_N_isZero_1 ?_
  refine J_ifne (tgt := 11) d_N_isZero_4 (by decide) ⟨by omega, by omega⟩ (fun c4 => ?_) (fun c4 => ?_)
  · refine J_iconst d_N_isZero_11 ?_
    refine J_iret rfl (nb01 (by omega)).1 d_N_isZero_12 ⟨by decide, by decide⟩ ?_
    exact ⟨_, rfl, rfl, rfl, by omega, rfl⟩
  · refine J_iconst d_N_isZero_7 ?_
    refine J_goto (tgt := 12) d_N_isZero_8 (by decide) ?_
    refine J_iret rfl (nb01 (by omega)).1 d_N_isZero_12 ⟨by decide, by decide⟩ ?_
    exact ⟨_, rfl, rfl, rfl, by omega, rfl⟩
set_option maxRecDepth 100000 in
set_option maxHeartbeats 4000000 in
theorem c_N_isOne {l : Launch} (hfl : l.flags = flags0) {D : va_G} {g : Nat → ClassId} {ad : Nat → Nat} {N : Nat} {F : Nat → va_E} {k a : Nat}
    (hk : k + 1 < N) (hF : F k = oN ad k (lnw 30 a : Int)) (hA : F (k + 1) = aN g (dg a)) (h : a < 2 ^ 480) :
    JC l y_N_isOne b_N_isOne 1 (Option.some Jvm.ClassFile.FieldType.boolean) rm_N_isOne (0, 0) D jCl (jTys g) ad N F [.ref (ad k)] (ji ad N (fun z F' => ((z = 1 ∧ a = 1) ∨ (z = 0 ∧ a ≠ 1)) ∧ F' = F)) := by
  have l1 := cn_16 h
  have l2 := lnw_1 (n := a)
  have l3 := dg_nat a 0
  have l4 := dgt_b a 0
  refine JC.go hfl (own := "NumberTower$Natural") (lv := [(0, .ref (ad k))]) rfl (by decide +kernel) (Nat.le_of_ble_eq_true rfl) rfl (fun A => ?_)
  refine J_aload_n 0 d_N_isOne_0 rfl rfl ?_
  refine gf_N_19 (by omega) hF rfl d_N_isOne_1 ?_
  refine J_iconst d_N_isOne_4 ?_
  refine J_if_icmpne (tgt := 22) d_N_isOne_5 (by decide) ⟨by omega, by omega⟩ ⟨by omega, by omega⟩ (fun c5 => ?_) (fun c5 => ?_)
  · refine J_iconst d_N_isOne_22 ?_
    refine J_iret rfl (nb01 (by omega)).1 d_N_isOne_23 ⟨by decide, by decide⟩ ?_
    exact ⟨_, rfl, rfl, rfl, by omega, rfl⟩
  · refine J_aload_n 0 d_N_isOne_8 rfl rfl ?_
    refine gf_N_9 (by omega) hF rfl d_N_isOne_9 ?_
    refine J_iconst d_N_isOne_12 ?_
    refine J_iaload 0 rfl (by omega) hA (by omega) d_N_isOne_13 ?_
    refine J_topi (r := (dg a) 0) (congrArg (fun q => iI ((dg a) q)) (by omega)) ?_
    refine J_iconst d_N_isOne_14 ?_
    refine J_if_icmpne (tgt := 22) d_N_isOne_15 (by decide) ⟨by omega, by omega⟩ ⟨by omega, by omega⟩ (fun c15 => ?_) (fun c15 => ?_)
    · refine J_iconst d_N_isOne_22 ?_
      refine J_iret rfl (nb01 (by omega)).1 d_N_isOne_23 ⟨by decide, by decide⟩ ?_
      exact ⟨_, rfl, rfl, rfl, by omega, rfl⟩
    · refine J_iconst d_N_isOne_18 ?_
      refine J_goto (tgt := 23) d_N_isOne_19 (by decide) ?_
      refine J_iret rfl (nb01 (by omega)).1 d_N_isOne_23 ⟨by decide, by decide⟩ ?_
      exact ⟨_, rfl, rfl, rfl, by omega, rfl⟩
set_option maxRecDepth 100000 in
set_option maxHeartbeats 4000000 in
theorem c_N_isOdd {l : Launch} (hfl : l.flags = flags0) {D : va_G} {g : Nat → ClassId} {ad : Nat → Nat} {N : Nat} {F : Nat → va_E} {k a : Nat}
    (hk : k + 1 < N) (hF : F k = oN ad k (lnw 30 a : Int)) (hA : F (k + 1) = aN g (dg a)) (h : a < 2 ^ 480) :
    JC l y_N_isOdd b_N_isOdd 1 (Option.some Jvm.ClassFile.FieldType.boolean) rm_N_isOdd (0, 0) D jCl (jTys g) ad N F [.ref (ad k)] (ji ad N (fun z F' => ((z = 1 ∧ a % 2 = 1) ∨ (z = 0 ∧ a % 2 = 0)) ∧ F' = F)) := by
  have l3 := dg_nat a 0
  have l4 := dgt_00 a
  refine JC.go hfl (own := "NumberTower$Natural") (lv := [(0, .ref (ad k))]) rfl (by decide +kernel) (Nat.le_of_ble_eq_true rfl) rfl (fun A => ?_)
  refine J_aload_n 0 d_N_isOdd_0 rfl rfl ?_
  refine gf_N_9 (by omega) hF rfl d_N_isOdd_1 ?_
  refine J_iconst d_N_isOdd_4 ?_
  refine J_iaload 0 rfl (by omega) hA (by omega) d_N_isOdd_5 ?_
  refine J_topi (r := (dg a) 0) (congrArg (fun q => iI ((dg a) q)) (by omega)) ?_
  refine J_iconst d_N_isOdd_6 ?_
  refine J_iand (r := dg a 0 % 2) d_N_isOdd_7 (iI_and 1 (by decide)) ?_
  refine J_ifeq (tgt := 15) d_N_isOdd_8 (by decide) ⟨by omega, by omega⟩ (fun c8 => ?_) (fun c8 => ?_)
  · refine J_iconst d_N_isOdd_15 ?_
    refine J_iret rfl (nb01 (by omega)).1 d_N_isOdd_16 ⟨by decide, by decide⟩ ?_
    exact ⟨_, rfl, rfl, rfl, by omega, rfl⟩
  · refine J_iconst d_N_isOdd_11 ?_
    refine J_goto (tgt := 16) d_N_isOdd_12 (by decide) ?_
    refine J_iret rfl (nb01 (by omega)).1 d_N_isOdd_16 ⟨by decide, by decide⟩ ?_
    exact ⟨_, rfl, rfl, rfl, by omega, rfl⟩
set_option maxRecDepth 100000 in
set_option maxHeartbeats 4000000 in
theorem c_N_sixtyBits {l : Launch} (hfl : l.flags = flags0) {D : va_G} {g : Nat → ClassId} {ad : Nat → Nat} {N : Nat} {F : Nat → va_E} {k a : Nat}
    (hk : k + 1 < N) (hF : F k = oN ad k (lnw 30 a : Int)) (hA : F (k + 1) = aN g (dg a)) (h : a < 2 ^ 480) (q : Nat) (z : Int) (hq : (q = 1 ∧ z = 1) ∨ (q = 0 ∧ z ≠ 1)) (hz : inI z) :
    JC l y_N_sixtyBits b_N_sixtyBits 3 (Option.some Jvm.ClassFile.FieldType.long) rm_N_sixtyBits (0, 0) D jCl (jTys g) ad N F [.ref (ad k), .int (iI z)] (jl ad N (fun r F' => r = ((a / 2 ^ (60 * q) % 2 ^ 60 : Nat) : Int) ∧ F' = F)) := by
  refine JC.go hfl (own := "NumberTower$Natural") (lv := [(0, .ref (ad k)), (1, .int (iI z))]) rfl (by decide +kernel) (Nat.le_of_ble_eq_true rfl) rfl (fun A => ?_)
  refine J_iload_n 1 d_N_sixtyBits_0 rfl rfl ?_
  refine J_iconst d_N_sixtyBits_1 ?_
  refine J_if_icmpne (tgt := 9) d_N_sixtyBits_2 (by decide) ⟨by omega, by omega⟩ ⟨by omega, by omega⟩ (fun c2 => ?_) (fun c2 => ?_)
  · refine J_iconst d_N_sixtyBits_9 ?_
    refine J_istore_n (lv' := [(2, .int (iI 0)), (0, .ref (ad k)), (1, .int (iI z))]) d_N_sixtyBits_10 rfl (by decide) rfl ?_
    refine J_aload_n 1 d_N_sixtyBits_11 rfl rfl ?_
    refine gf_N_9 (by omega) hF rfl d_N_sixtyBits_12 ?_
    refine J_iload_n 0 d_N_sixtyBits_15 rfl rfl ?_
    refine J_iaload 0 rfl (by omega) hA (by omega) d_N_sixtyBits_16 ?_
    refine J_topi (r := (dg a) 0) (congrArg (fun q => iI ((dg a) q)) (by omega)) ?_
    refine J_i2l d_N_sixtyBits_17 (inh (dgh a) _) ?_
    refine J_aload_n 1 d_N_sixtyBits_18 rfl rfl ?_
    refine gf_N_9 (by omega) hF rfl d_N_sixtyBits_19 ?_
    refine J_iload_n 0 d_N_sixtyBits_22 rfl rfl ?_
    refine J_iconst d_N_sixtyBits_23 ?_
    refine J_iadd d_N_sixtyBits_24 ?_
    refine J_topi (r := 1) (congrArg iI (by omega)) ?_
    refine J_iaload 0 rfl (by omega) hA (by omega) d_N_sixtyBits_25 ?_
    refine J_topi (r := (dg a) 1) (congrArg (fun q => iI ((dg a) q)) (by omega)) ?_
    refine J_i2l d_N_sixtyBits_26 (inh (dgh a) _) ?_
    refine J_bipush d_N_sixtyBits_27 (i8_ok (by decide)) ?_
    refine J_lshl (r := ((dg a) 1) * 1073741824) d_N_sixtyBits_29 (lI_shl 30 (by decide)) ?_
    have hq1 : q = 0 := by omega
    subst hq1
    refine J_lor (r := ((a / 2 ^ (60 * 0) % 2 ^ 60 : Nat) : Int)) d_N_sixtyBits_30 (by
      have e1 : dg a 0 = ((dgt 30 a 0 : Nat) : Int) := rfl
      have e2 : dg a 1 = ((dgt 30 a 1 : Nat) : Int) := rfl
      have b1 := dgt_b a 0
      have b2 := dgt_b a 1
      rw [show (((dg a) 1) * 1073741824 : Int) = ((dgt 30 a 1 * 1073741824 : Nat) : Int) by omega, e1, lI_orn (by omega) (by omega), or30 b1]
      congr 2
      simp only [dgt_00, dgt_1, dgt_2, dgt_3']
      omega) ?_
    refine J_lret rfl d_N_sixtyBits_31 ⟨by decide, by decide⟩ ?_
    exact ⟨_, rfl, rfl, rfl, rfl, rfl⟩
  · refine J_iconst d_N_sixtyBits_5 ?_
    refine J_goto (tgt := 10) d_N_sixtyBits_6 (by decide) ?_
    refine J_istore_n (lv' := [(2, .int (iI 2)), (0, .ref (ad k)), (1, .int (iI z))]) d_N_sixtyBits_10 rfl (by decide) rfl ?_
    refine J_aload_n 1 d_N_sixtyBits_11 rfl rfl ?_
    refine gf_N_9 (by omega) hF rfl d_N_sixtyBits_12 ?_
    refine J_iload_n 0 d_N_sixtyBits_15 rfl rfl ?_
    refine J_iaload 0 rfl (by omega) hA (by omega) d_N_sixtyBits_16 ?_
    refine J_topi (r := (dg a) 2) (congrArg (fun q => iI ((dg a) q)) (by omega)) ?_
    refine J_i2l d_N_sixtyBits_17 (inh (dgh a) _) ?_
    refine J_aload_n 1 d_N_sixtyBits_18 rfl rfl ?_
    refine gf_N_9 (by omega) hF rfl d_N_sixtyBits_19 ?_
    refine J_iload_n 0 d_N_sixtyBits_22 rfl rfl ?_
    refine J_iconst d_N_sixtyBits_23 ?_
    refine J_iadd d_N_sixtyBits_24 ?_
    refine J_topi (r := 3) (congrArg iI (by omega)) ?_
    refine J_iaload 0 rfl (by omega) hA (by omega) d_N_sixtyBits_25 ?_
    refine J_topi (r := (dg a) 3) (congrArg (fun q => iI ((dg a) q)) (by omega)) ?_
    refine J_i2l d_N_sixtyBits_26 (inh (dgh a) _) ?_
    refine J_bipush d_N_sixtyBits_27 (i8_ok (by decide)) ?_
    refine J_lshl (r := ((dg a) 3) * 1073741824) d_N_sixtyBits_29 (lI_shl 30 (by decide)) ?_
    have hq1 : q = 1 := by omega
    subst hq1
    refine J_lor (r := ((a / 2 ^ (60 * 1) % 2 ^ 60 : Nat) : Int)) d_N_sixtyBits_30 (by
      have e1 : dg a 2 = ((dgt 30 a 2 : Nat) : Int) := rfl
      have e2 : dg a 3 = ((dgt 30 a 3 : Nat) : Int) := rfl
      have b1 := dgt_b a 2
      have b2 := dgt_b a 3
      rw [show (((dg a) 3) * 1073741824 : Int) = ((dgt 30 a 3 * 1073741824 : Nat) : Int) by omega, e1, lI_orn (by omega) (by omega), or30 b1]
      congr 2
      simp only [dgt_00, dgt_1, dgt_2, dgt_3']
      omega) ?_
    refine J_lret rfl d_N_sixtyBits_31 ⟨by decide, by decide⟩ ?_
    exact ⟨_, rfl, rfl, rfl, rfl, rfl⟩
set_option maxRecDepth 100000 in
set_option maxHeartbeats 4000000 in
theorem c_N_toLong {l : Launch} (hfl : l.flags = flags0) {D : va_G} {g : Nat → ClassId} {ad : Nat → Nat} {N : Nat} {F : Nat → va_E} {k a : Nat}
    (hk : k + 1 < N) (hF : F k = oN ad k (lnw 30 a : Int)) (hA : F (k + 1) = aN g (dg a)) (h : a < 2 ^ 480) (h63 : a < 9223372036854775808) :
    JC l y_N_toLong b_N_toLong 1 (Option.some Jvm.ClassFile.FieldType.long) rm_N_toLong (0, 0) D jCl (jTys g) ad N F [.ref (ad k)] (jl ad N (fun r F' => r = (a : Int) ∧ F' = F)) := by
  refine JC.go hfl (own := "NumberTower$Natural") (lv := [(0, .ref (ad k))]) rfl (by decide +kernel) (Nat.le_of_ble_eq_true rfl) rfl (fun A => ?_)
  refine J_aload_n 0 d_N_toLong_0 rfl rfl ?_
  refine J_iconst d_N_toLong_1 ?_
  refine J_callVl cw_N_38 nh_N_sixtyBits pn_N_sixtyBits rfl rfl (by omega) hF (As := [.int (iI 0)]) (rest := []) rfl (Nat.le_of_ble_eq_true rfl) ⟨by decide, by decide⟩ rfl ⟨by decide, by decide⟩ d_N_toLong_2 (c_N_sixtyBits hfl (a := a) (by omega) hF hA h 0 0 (by omega) ⟨by omega, by omega⟩) (fun z2 F1 hq => ?_)
  obtain ⟨h60, eF1⟩ := hq
  refine J_eqF eF1 ?_
  refine J_aload_n 0 d_N_toLong_5 rfl rfl ?_
  refine gf_N_9 (by omega) hF rfl d_N_toLong_6 ?_
  refine J_iconst d_N_toLong_9 ?_
  refine J_iaload 0 rfl (by omega) hA (by omega) d_N_toLong_10 ?_
  refine J_topi (r := (dg a) 2) (congrArg (fun q => iI ((dg a) q)) (by omega)) ?_
  refine J_i2l d_N_toLong_11 (inh (dgh a) _) ?_
  refine J_bipush d_N_toLong_12 (i8_ok (by decide)) ?_
  refine J_lshl (r := ((dg a) 2) * 1152921504606846976) d_N_toLong_14 (lI_shl 60 (by decide)) ?_
  refine J_lor (r := (a : Int)) d_N_toLong_15 (by
    have e1 : dg a 2 = ((dgt 30 a 2 : Nat) : Int) := rfl
    have b1 := dgt_2 a
    rw [show (((dg a) 2) * 1152921504606846976 : Int) = ((dgt 30 a 2 * 1152921504606846976 : Nat) : Int) by omega, h60, lI_orn (by omega) (by omega), or60 (by omega)]
    congr 2
    omega) ?_
  refine J_lret rfl d_N_toLong_16 ⟨by decide, by decide⟩ ?_
  exact ⟨_, rfl, rfl, rfl, rfl, rfl⟩
set_option maxRecDepth 100000 in
set_option maxHeartbeats 4000000 in
theorem c_JLong_bitCount {l : Launch} (hfl : l.flags = flags0) {D : va_G} {g : Nat → ClassId} {ad : Nat → Nat} {N : Nat} {F : Nat → va_E} {b : Nat}
    (hb : b < 64) :
    JC l y_JLong_bitCount b_JLong_bitCount 2 (Option.some Jvm.ClassFile.FieldType.int) rm_JLong_bitCount (0, 0) D jCl (jTys g) ad N F [.long (lI ((2 ^ b - 1 : Nat) : Int))] (ji ad N (fun z F' => z = (b : Int) ∧ F' = F)) := by
  refine JC.go hfl (own := "java/lang/Long") (lv := [(0, .long (lI ((2 ^ b - 1 : Nat) : Int)))]) rfl (by decide +kernel) (Nat.le_of_ble_eq_true rfl) rfl (fun A => ?_)
  refine J_lload_n 0 d_JLong_bitCount_0 rfl rfl ?_
  refine J_lload_n 0 d_JLong_bitCount_1 rfl rfl ?_
  refine J_iconst d_JLong_bitCount_2 ?_
  obtain ⟨x3, e3⟩ : ∃ x : Int, lI x = ((lI ((2 ^ b - 1 : Nat) : Int)).toUInt64 >>> ((iI 1).toInt64.toUInt64 &&& Int64.toUInt64 63)).toInt64 := ⟨_, lI_of _⟩
  refine J_lushr (r := x3) d_JLong_bitCount_3 e3.symm ?_
  refine J_ldc2 (z := 6148914691236517205) d_JLong_bitCount_4 wd_350 (by decide) ?_
  obtain ⟨x7, e7⟩ : ∃ x : Int, lI x = lI x3 &&& lI 6148914691236517205 := ⟨_, lI_of _⟩
  refine J_land (r := x7) d_JLong_bitCount_7 e7.symm ?_
  refine J_lsub d_JLong_bitCount_8 ?_
  refine J_lstore_n (lv' := [(0, .long (lI (((2 ^ b - 1 : Nat) : Int) - x7)))]) d_JLong_bitCount_9 rfl (by decide) rfl ?_
  refine J_lload_n 0 d_JLong_bitCount_10 rfl rfl ?_
  refine J_ldc2 (z := 3689348814741910323) d_JLong_bitCount_11 wd_351 (by decide) ?_
  obtain ⟨x14, e14⟩ : ∃ x : Int, lI x = lI (((2 ^ b - 1 : Nat) : Int) - x7) &&& lI 3689348814741910323 := ⟨_, lI_of _⟩
  refine J_land (r := x14) d_JLong_bitCount_14 e14.symm ?_
  refine J_lload_n 0 d_JLong_bitCount_15 rfl rfl ?_
  refine J_iconst d_JLong_bitCount_16 ?_
  obtain ⟨x17, e17⟩ : ∃ x : Int, lI x = ((lI (((2 ^ b - 1 : Nat) : Int) - x7)).toUInt64 >>> ((iI 2).toInt64.toUInt64 &&& Int64.toUInt64 63)).toInt64 := ⟨_, lI_of _⟩
  refine J_lushr (r := x17) d_JLong_bitCount_17 e17.symm ?_
  refine J_ldc2 (z := 3689348814741910323) d_JLong_bitCount_18 wd_351 (by decide) ?_
  obtain ⟨x21, e21⟩ : ∃ x : Int, lI x = lI x17 &&& lI 3689348814741910323 := ⟨_, lI_of _⟩
  refine J_land (r := x21) d_JLong_bitCount_21 e21.symm ?_
  refine J_ladd d_JLong_bitCount_22 ?_
  refine J_lstore_n (lv' := [(0, .long (lI (x14 + x21)))]) d_JLong_bitCount_23 rfl (by decide) rfl ?_
  refine J_lload_n 0 d_JLong_bitCount_24 rfl rfl ?_
  refine J_lload_n 0 d_JLong_bitCount_25 rfl rfl ?_
  refine J_iconst d_JLong_bitCount_26 ?_
  obtain ⟨x27, e27⟩ : ∃ x : Int, lI x = ((lI (x14 + x21)).toUInt64 >>> ((iI 4).toInt64.toUInt64 &&& Int64.toUInt64 63)).toInt64 := ⟨_, lI_of _⟩
  refine J_lushr (r := x27) d_JLong_bitCount_27 e27.symm ?_
  refine J_ladd d_JLong_bitCount_28 ?_
  refine J_ldc2 (z := 1085102592571150095) d_JLong_bitCount_29 wd_352 (by decide) ?_
  obtain ⟨x32, e32⟩ : ∃ x : Int, lI x = lI ((x14 + x21) + x27) &&& lI 1085102592571150095 := ⟨_, lI_of _⟩
  refine J_land (r := x32) d_JLong_bitCount_32 e32.symm ?_
  refine J_lstore_n (lv' := [(0, .long (lI x32))]) d_JLong_bitCount_33 rfl (by decide) rfl ?_
  refine J_lload_n 0 d_JLong_bitCount_34 rfl rfl ?_
  refine J_lload_n 0 d_JLong_bitCount_35 rfl rfl ?_
  refine J_bipush d_JLong_bitCount_36 (i8_ok (by decide)) ?_
  obtain ⟨x38, e38⟩ : ∃ x : Int, lI x = ((lI x32).toUInt64 >>> ((iI 8).toInt64.toUInt64 &&& Int64.toUInt64 63)).toInt64 := ⟨_, lI_of _⟩
  refine J_lushr (r := x38) d_JLong_bitCount_38 e38.symm ?_
  refine J_ladd d_JLong_bitCount_39 ?_
  refine J_lstore_n (lv' := [(0, .long (lI (x32 + x38)))]) d_JLong_bitCount_40 rfl (by decide) rfl ?_
  refine J_lload_n 0 d_JLong_bitCount_41 rfl rfl ?_
  refine J_lload_n 0 d_JLong_bitCount_42 rfl rfl ?_
  refine J_bipush d_JLong_bitCount_43 (i8_ok (by decide)) ?_
  obtain ⟨x45, e45⟩ : ∃ x : Int, lI x = ((lI (x32 + x38)).toUInt64 >>> ((iI 16).toInt64.toUInt64 &&& Int64.toUInt64 63)).toInt64 := ⟨_, lI_of _⟩
  refine J_lushr (r := x45) d_JLong_bitCount_45 e45.symm ?_
  refine J_ladd d_JLong_bitCount_46 ?_
  refine J_lstore_n (lv' := [(0, .long (lI ((x32 + x38) + x45)))]) d_JLong_bitCount_47 rfl (by decide) rfl ?_
  refine J_lload_n 0 d_JLong_bitCount_48 rfl rfl ?_
  refine J_lload_n 0 d_JLong_bitCount_49 rfl rfl ?_
  refine J_bipush d_JLong_bitCount_50 (i8_ok (by decide)) ?_
  obtain ⟨x52, e52⟩ : ∃ x : Int, lI x = ((lI ((x32 + x38) + x45)).toUInt64 >>> ((iI 32).toInt64.toUInt64 &&& Int64.toUInt64 63)).toInt64 := ⟨_, lI_of _⟩
  refine J_lushr (r := x52) d_JLong_bitCount_52 e52.symm ?_
  refine J_ladd d_JLong_bitCount_53 ?_
  refine J_lstore_n (lv' := [(0, .long (lI (((x32 + x38) + x45) + x52)))]) d_JLong_bitCount_54 rfl (by decide) rfl ?_
  refine J_lload_n 0 d_JLong_bitCount_55 rfl rfl ?_
  refine J_l2i d_JLong_bitCount_56 ?_
  refine J_bipush d_JLong_bitCount_57 (i8_ok (by decide)) ?_
  refine J_iand (r := (b : Int)) d_JLong_bitCount_59 (by
      rw [← bcnt_ones b hb, ← iI_l2i]
      simp only [← lI_add, ← lI_sub, e3, e7, e14, e17, e21, e27, e32, e38, e45, e52]
      rfl) ?_
  refine J_iret rfl rfl d_JLong_bitCount_60 ⟨by decide, by decide⟩ ?_
  exact ⟨_, rfl, rfl, rfl, rfl, rfl⟩
