/-! naturals: carries -/
def mix (i : Nat) (A B : Nat → Int) : Nat → Int := fun j => if j < i then A j else B j
theorem mix_0 (A B : Nat → Int) : B = mix 0 A B := by funext j; simp [mix]
theorem mix_up {i : Nat} {A B : Nat → Int} {v : Int} (h : v = A i) : va_up (mix i A B) i v = mix (i + 1) A B := by
  funext j
  simp only [va_up, mix]
  by_cases e : j = i
  · subst e; rw [if_pos rfl, if_pos (by omega), h]
  · rw [if_neg e]
    by_cases q : j < i
    · rw [if_pos q, if_pos (by omega)]
    · rw [if_neg q, if_neg (by omega)]
theorem mix_at {i : Nat} {A B : Nat → Int} : mix i A B i = B i := by simp [mix]
theorem mix_all {i : Nat} {A B : Nat → Int} (h : ∀ j, i ≤ j → A j = B j) : mix i A B = A := by
  funext j
  simp only [mix]
  split
  · rfl
  · exact (h j (by omega)).symm
def cy (X Y t : Nat) : Nat := (X % 2 ^ (30 * t) + Y) / 2 ^ (30 * t)
theorem cy_0 (X Y : Nat) : cy X Y 0 = Y := by simp [cy, Nat.mod_one]
theorem cy_core (X Y w t : Nat) : (X % 2 ^ (30 * (t + 1)) + (Y + w * 2 ^ (30 * t))) / 2 ^ (30 * t) = dgt 30 X t + w + cy X Y t := by
  rw [low_succ]
  have : X % 2 ^ (30 * t) + 2 ^ (30 * t) * dgt 30 X t + (Y + w * 2 ^ (30 * t)) = X % 2 ^ (30 * t) + Y + 2 ^ (30 * t) * (dgt 30 X t + w) := by rw [Nat.mul_add, Nat.mul_comm w]; omega
  rw [this, Nat.add_mul_div_left _ _ (Nat.two_pow_pos _)]
  unfold cy
  omega
theorem cy_step {X Y w t Y' : Nat} (h : Y' = Y + w * 2 ^ (30 * t)) : cy X Y' (t + 1) = (dgt 30 X t + w + cy X Y t) / 1073741824 := by
  have h1 : cy X Y' (t + 1) = ((X % 2 ^ (30 * (t + 1)) + (Y + w * 2 ^ (30 * t))) / 2 ^ (30 * t)) / 2 ^ 30 := by
    subst h; unfold cy; rw [Nat.div_div_eq_div_mul, ← pw_succ]
  rw [h1, cy_core]
theorem cy_dig {X Y w t q T : Nat} (h : T = X + (Y + w * 2 ^ (30 * t)) + q * 2 ^ (30 * (t + 1))) : dgt 30 T t = (dgt 30 X t + w + cy X Y t) % 1073741824 := by
  have h2 : T = X % 2 ^ (30 * (t + 1)) + (Y + w * 2 ^ (30 * t)) + 2 ^ (30 * t) * (2 ^ 30 * (X / 2 ^ (30 * (t + 1)) + q)) := by
    have e1 : 2 ^ (30 * t) * (2 ^ 30 * (X / 2 ^ (30 * (t + 1)) + q)) = 2 ^ (30 * (t + 1)) * (X / 2 ^ (30 * (t + 1))) + q * 2 ^ (30 * (t + 1)) := by
      rw [← Nat.mul_assoc, ← pw_succ, Nat.mul_add (2 ^ (30 * (t + 1))), Nat.mul_comm q]
    have := Nat.mod_add_div X (2 ^ (30 * (t + 1)))
    rw [e1]
    omega
  unfold dgt
  rw [h2, Nat.add_mul_div_left _ _ (Nat.two_pow_pos _), cy_core, Nat.add_mul_mod_self_left]
  rfl
theorem cy_end {X Y t T j : Nat} (h : T = X + Y) (hc : cy X Y t = 0) (hj : t ≤ j) : dgt 30 T j = dgt 30 X j := by
  have h1 : X % 2 ^ (30 * t) + Y < 2 ^ (30 * t) := by
    unfold cy at hc
    exact (Nat.div_eq_zero_iff_lt (Nat.two_pow_pos _)).mp hc
  have h2 : T / 2 ^ (30 * t) = X / 2 ^ (30 * t) := by
    have h3 := Nat.mod_add_div X (2 ^ (30 * t))
    have h4 : T = X % 2 ^ (30 * t) + Y + 2 ^ (30 * t) * (X / 2 ^ (30 * t)) := by omega
    rw [h4, Nat.add_mul_div_left _ _ (Nat.two_pow_pos _), Nat.div_eq_of_lt h1, Nat.zero_add]
  obtain ⟨r, rfl⟩ : ∃ r, j = t + r := ⟨j - t, by omega⟩
  unfold dgt
  rw [Nat.mul_add, Nat.pow_add, ← Nat.div_div_eq_div_mul, h2, Nat.div_div_eq_div_mul]
theorem cy_le {X Y t d : Nat} (h : Y ≤ d * 2 ^ (30 * t)) : cy X Y t ≤ d := by
  have h1 := Nat.mod_lt X (Nat.two_pow_pos (30 * t))
  apply Nat.le_of_lt_succ
  unfold cy
  rw [Nat.div_lt_iff_lt_mul (Nat.two_pow_pos _), Nat.succ_mul d]
  exact Nat.lt_of_lt_of_le (Nat.add_lt_add_right h1 Y) (by rw [Nat.add_comm]; exact Nat.add_le_add_right h _)
theorem low_w (b i : Nat) : b % 2 ^ (30 * (i + 1)) = b % 2 ^ (30 * i) + dgt 30 b i * 2 ^ (30 * i) := by rw [low_succ, Nat.mul_comm (dgt 30 b i)]
theorem low_q (b i : Nat) : b = b % 2 ^ (30 * i) + b / 2 ^ (30 * i) * 2 ^ (30 * i) := by rw [Nat.mul_comm (b / _)]; exact (Nat.mod_add_div _ _).symm
theorem low_b (b i : Nat) : b % 2 ^ (30 * i) ≤ 2 ^ (30 * i) := Nat.le_of_lt (Nat.mod_lt _ (Nat.two_pow_pos _))
theorem low_e {b i : Nat} (h : lnw 30 b ≤ i) : b % 2 ^ (30 * i) = b := Nat.mod_eq_of_lt ((lnw_le (by decide)).mp h)
/-- the array, once the carry is gone -/
theorem mix_end {X Y T t : Nat} {c : Int} {f h : Nat → Int} (hf : f = mix t (dg T) h) (hb : ∀ j, t ≤ j → h j = dg X j) (hT : T < 2 ^ 480) (hX : X < 2 ^ 480) (hc : c = (cy X Y t : Int)) (hx : 16 ≤ t ∨ (c = 0 ∧ T = X + Y)) : f = dg T := by
  rw [hf]
  apply mix_all
  intro j hj
  rw [hb j hj]
  rcases hx with hx | ⟨h0, hx⟩
  · rw [dg_16 hT (by omega), dg_16 hX (by omega)]
  · rw [dg_nat, dg_nat, cy_end hx (by omega) hj]
theorem lnw_add {a b : Nat} : lnw 30 (a + b) ≤ max (lnw 30 a) (lnw 30 b) + 1 := by
  rw [lnw_le (by decide), pw_succ]
  have h1 : a < 2 ^ (30 * max (lnw 30 a) (lnw 30 b)) := (lnw_le (by decide)).mp (Nat.le_max_left _ _)
  have h2 : b < 2 ^ (30 * max (lnw 30 a) (lnw 30 b)) := (lnw_le (by decide)).mp (Nat.le_max_right _ _)
  omega
theorem lnw_scale {a f m : Nat} (hf : f < 1073741824) (hm : m < 1073741824) : lnw 30 (a * f + m) ≤ lnw 30 a + 1 := by
  rw [lnw_le (by decide), pw_succ]
  have h1 : a < 2 ^ (30 * lnw 30 a) := lnw_lt (by decide)
  have h2 : a * f ≤ a * 1073741823 := Nat.mul_le_mul_left _ (by omega)
  by_cases h0 : f = 0
  · subst h0; have := Nat.two_pow_pos (30 * lnw 30 a); omega
  · have : a * 1073741823 + m < (a + 1) * 1073741824 := by omega
    have h3 : (a + 1) * 1073741824 ≤ 2 ^ (30 * lnw 30 a) * 1073741824 := Nat.mul_le_mul_right _ h1
    exact Nat.lt_of_lt_of_le (Nat.lt_of_le_of_lt (Nat.add_le_add_right h2 m) this) h3
theorem lnw_small {a m : Nat} (hm : m < 1073741824) : lnw 30 (a + m) ≤ lnw 30 a + 1 := by
  have := lnw_scale (a := a) (f := 1) (m := m) (by decide) hm
  rwa [Nat.mul_one] at this
theorem lnw_mul {a b : Nat} : lnw 30 (a * b) ≤ lnw 30 a + lnw 30 b := by
  rw [lnw_le (by decide), Nat.mul_add, Nat.pow_add]
  exact Nat.mul_lt_mul'' (lnw_lt (by decide)) (lnw_lt (by decide))
theorem lnw_mono {a b : Nat} (h : a ≤ b) : lnw 30 a ≤ lnw 30 b := (lnw_le (by decide)).mpr (Nat.lt_of_le_of_lt h (lnw_lt (by decide)))
set_option maxRecDepth 100000 in
set_option maxHeartbeats 4000000 in
theorem c_N_bitsOf {l : Launch} (hfl : l.flags = flags0) {D : va_G} {g : Nat → ClassId} {ad : Nat → Nat} {N : Nat} {F : Nat → va_E} {v : Nat}
    (hv : v < 9223372036854775808) :
    JC l y_N_bitsOf b_N_bitsOf 4 (Option.some Jvm.ClassFile.FieldType.int) rm_N_bitsOf (0, 0) D jCl (jTys g) ad N F [.long (lI (v : Int))] (ji ad N (fun z F' => z = (blen v : Int) ∧ F' = F)) := by
  obtain ⟨s1, h1⟩ : ∃ s, s = v ||| v / 2 := ⟨_, rfl⟩
  have b1 : s1 < 9223372036854775808 := by rw [h1]; exact Nat.or_lt_two_pow (n := 63) (by omega) (by omega)
  obtain ⟨s2, h2⟩ : ∃ s, s = s1 ||| s1 / 4 := ⟨_, rfl⟩
  have b2 : s2 < 9223372036854775808 := by rw [h2]; exact Nat.or_lt_two_pow (n := 63) (by omega) (by omega)
  obtain ⟨s3, h3⟩ : ∃ s, s = s2 ||| s2 / 16 := ⟨_, rfl⟩
  have b3 : s3 < 9223372036854775808 := by rw [h3]; exact Nat.or_lt_two_pow (n := 63) (by omega) (by omega)
  obtain ⟨s4, h4⟩ : ∃ s, s = s3 ||| s3 / 256 := ⟨_, rfl⟩
  have b4 : s4 < 9223372036854775808 := by rw [h4]; exact Nat.or_lt_two_pow (n := 63) (by omega) (by omega)
  obtain ⟨s5, h5⟩ : ∃ s, s = s4 ||| s4 / 65536 := ⟨_, rfl⟩
  have b5 : s5 < 9223372036854775808 := by rw [h5]; exact Nat.or_lt_two_pow (n := 63) (by omega) (by omega)
  obtain ⟨s6, h6⟩ : ∃ s, s = s5 ||| s5 / 4294967296 := ⟨_, rfl⟩
  have b6 : s6 < 9223372036854775808 := by rw [h6]; exact Nat.or_lt_two_pow (n := 63) (by omega) (by omega)
  refine JC.go hfl (own := "NumberTower$Natural") (lv := [(0, .long (lI (v : Int)))]) rfl (by decide +kernel) (Nat.le_of_ble_eq_true rfl) rfl (fun A => ?_)
  refine J_lload_n 0 d_N_bitsOf_0 rfl rfl ?_
  refine J_lload_n 0 d_N_bitsOf_1 rfl rfl ?_
  refine J_iconst d_N_bitsOf_2 ?_
  refine J_lshr (r := ((v / 2 : Nat) : Int)) d_N_bitsOf_3 (lI_shrn (by omega) 1 (by decide)) ?_
  refine J_lor (r := (s1 : Int)) d_N_bitsOf_4 (by rw [h1]; exact lI_orn (by omega) (by omega)) ?_
  refine J_lstore_n (lv' := [(2, .long (lI (s1 : Int))), (0, .long (lI (v : Int)))]) d_N_bitsOf_5 rfl (by decide) rfl ?_
  refine J_lload_n 0 d_N_bitsOf_6 rfl rfl ?_
  refine J_lload_n 0 d_N_bitsOf_7 rfl rfl ?_
  refine J_iconst d_N_bitsOf_8 ?_
  refine J_lshr (r := ((s1 / 4 : Nat) : Int)) d_N_bitsOf_9 (lI_shrn (by omega) 2 (by decide)) ?_
  refine J_lor (r := (s2 : Int)) d_N_bitsOf_10 (by rw [h2]; exact lI_orn (by omega) (by omega)) ?_
  refine J_lstore_n (lv' := [(2, .long (lI (s2 : Int))), (0, .long (lI (v : Int)))]) d_N_bitsOf_11 rfl (by decide) rfl ?_
  refine J_lload_n 0 d_N_bitsOf_12 rfl rfl ?_
  refine J_lload_n 0 d_N_bitsOf_13 rfl rfl ?_
  refine J_iconst d_N_bitsOf_14 ?_
  refine J_lshr (r := ((s2 / 16 : Nat) : Int)) d_N_bitsOf_15 (lI_shrn (by omega) 4 (by decide)) ?_
  refine J_lor (r := (s3 : Int)) d_N_bitsOf_16 (by rw [h3]; exact lI_orn (by omega) (by omega)) ?_
  refine J_lstore_n (lv' := [(2, .long (lI (s3 : Int))), (0, .long (lI (v : Int)))]) d_N_bitsOf_17 rfl (by decide) rfl ?_
  refine J_lload_n 0 d_N_bitsOf_18 rfl rfl ?_
  refine J_lload_n 0 d_N_bitsOf_19 rfl rfl ?_
  refine J_bipush d_N_bitsOf_20 (i8_ok (by decide)) ?_
  refine J_lshr (r := ((s3 / 256 : Nat) : Int)) d_N_bitsOf_22 (lI_shrn (by omega) 8 (by decide)) ?_
  refine J_lor (r := (s4 : Int)) d_N_bitsOf_23 (by rw [h4]; exact lI_orn (by omega) (by omega)) ?_
  refine J_lstore_n (lv' := [(2, .long (lI (s4 : Int))), (0, .long (lI (v : Int)))]) d_N_bitsOf_24 rfl (by decide) rfl ?_
  refine J_lload_n 0 d_N_bitsOf_25 rfl rfl ?_
  refine J_lload_n 0 d_N_bitsOf_26 rfl rfl ?_
  refine J_bipush d_N_bitsOf_27 (i8_ok (by decide)) ?_
  refine J_lshr (r := ((s4 / 65536 : Nat) : Int)) d_N_bitsOf_29 (lI_shrn (by omega) 16 (by decide)) ?_
  refine J_lor (r := (s5 : Int)) d_N_bitsOf_30 (by rw [h5]; exact lI_orn (by omega) (by omega)) ?_
  refine J_lstore_n (lv' := [(2, .long (lI (s5 : Int))), (0, .long (lI (v : Int)))]) d_N_bitsOf_31 rfl (by decide) rfl ?_
  refine J_lload_n 0 d_N_bitsOf_32 rfl rfl ?_
  refine J_lload_n 0 d_N_bitsOf_33 rfl rfl ?_
  refine J_bipush d_N_bitsOf_34 (i8_ok (by decide)) ?_
  refine J_lshr (r := ((s5 / 4294967296 : Nat) : Int)) d_N_bitsOf_36 (lI_shrn (by omega) 32 (by decide)) ?_
  refine J_lor (r := (s6 : Int)) d_N_bitsOf_37 (by rw [h6]; exact lI_orn (by omega) (by omega)) ?_
  refine J_lstore_n (lv' := [(2, .long (lI (s6 : Int))), (0, .long (lI (v : Int)))]) d_N_bitsOf_38 rfl (by decide) rfl ?_
  refine J_lload_n 0 d_N_bitsOf_39 rfl rfl ?_
  have bl : blen v < 64 := by have := (blen_le (v := v) (m := 63)).mpr hv; omega
  refine J_topl (r := ((2 ^ blen v - 1 : Nat) : Int)) (congrArg lI (congrArg (fun q : Nat => (q : Int)) (by rw [← smear_eq hv]; simp only [h1, h2, h3, h4, h5, h6, smear]))) ?_
  refine J_callSi cw_N_48 nh_JLong_bitCount pn_JLong_bitCount rfl (As := [.long (lI ((2 ^ blen v - 1 : Nat) : Int))]) (rest := []) rfl (Nat.le_of_ble_eq_true rfl) ⟨by decide, by decide⟩ rfl ⟨by decide, by decide⟩ d_N_bitsOf_40 (c_JLong_bitCount hfl (b := blen v) bl) (fun z F1 hq => ?_)
  obtain ⟨hz, eF1⟩ := hq
  refine J_eqF eF1 ?_
  refine J_iret rfl rfl d_N_bitsOf_43 ⟨by decide, by decide⟩ ?_
  exact ⟨_, rfl, rfl, rfl, hz, rfl⟩
set_option maxRecDepth 100000 in
set_option maxHeartbeats 4000000 in
theorem c_N_bits {l : Launch} (hfl : l.flags = flags0) {D : va_G} {g : Nat → ClassId} {ad : Nat → Nat} {N : Nat} {F : Nat → va_E} {k a : Nat}
    (hk : k + 1 < N) (hF : F k = oN ad k (lnw 30 a : Int)) (hA : F (k + 1) = aN g (dg a)) (h : a < 2 ^ 480) :
    JC l y_N_bits b_N_bits 1 (Option.some Jvm.ClassFile.FieldType.int) rm_N_bits (0, 0) D jCl (jTys g) ad N F [.ref (ad k)] (ji ad N (fun z F' => z = (blen a : Int) ∧ F' = F)) := by
  have l1 := cn_16 h
  have l2 := cn_eq0 (n := a)
  have l3 := lnw_blen (n := a)
  refine JC.go hfl (own := "NumberTower$Natural") (lv := [(0, .ref (ad k))]) rfl (by decide +kernel) (Nat.le_of_ble_eq_true rfl) rfl (fun A => ?_)
  have lab16 : ∀  (h0 : a = 0) , J l rm_N_bits (0, 0) "NumberTower$Natural" b_N_bits 1 (Option.some Jvm.ClassFile.FieldType.int) D jCl (jTys g) A (fun _ me => me.name = y_N_bits.name) (ji ad N (fun z F' => z = (blen a : Int) ∧ F' = F)) ad N 0 0 16 [] [] F := by
    intro  h0
    refine J_iconst d_N_bits_16 ?_
    refine J_iret rfl rfl d_N_bits_17 ⟨by decide, by decide⟩ ?_
    exact ⟨_, rfl, rfl, rfl, by rw [h0, blen_0]; rfl, rfl⟩
  refine J_aload_n 0 d_N_bits_0 rfl rfl ?_
  refine gf_N_19 (by omega) hF rfl d_N_bits_1 ?_
  refine J_ifle (tgt := 16) d_N_bits_4 (by decide) ⟨by omega, by omega⟩ (fun c4 => ?_) (fun c4 => ?_)
  · refine J_pick (lv' := []) [] rfl ?_
    exact lab16  (by omega)
  · refine J_aload_n 0 d_N_bits_7 rfl rfl ?_
    refine gf_N_19 (by omega) hF rfl d_N_bits_8 ?_
    refine J_bipush d_N_bits_11 (i8_ok (by decide)) ?_
    refine J_if_icmple (tgt := 18) d_N_bits_13 (by decide) ⟨by omega, by omega⟩ ⟨by omega, by omega⟩ (fun c13 => ?_) (fun c13 => ?_)
    · refine J_aload_n 0 d_N_bits_18 rfl rfl ?_
      refine gf_N_19 (by omega) hF rfl d_N_bits_19 ?_
      refine J_iconst d_N_bits_22 ?_
      refine J_isub d_N_bits_23 ?_
      refine J_bipush d_N_bits_24 (i8_ok (by decide)) ?_
      refine J_imul d_N_bits_26 ?_
      refine J_aload_n 0 d_N_bits_27 rfl rfl ?_
      refine gf_N_9 (by omega) hF rfl d_N_bits_28 ?_
      refine J_aload_n 0 d_N_bits_31 rfl rfl ?_
      refine gf_N_19 (by omega) hF rfl d_N_bits_32 ?_
      refine J_iconst d_N_bits_35 ?_
      refine J_isub d_N_bits_36 ?_
      refine J_iaload 0 rfl (by omega) hA (by omega) d_N_bits_37 ?_
      refine J_topi (r := (dg a) ((lnw 30 a) - 1)) (congrArg (fun q => iI ((dg a) q)) (by omega)) ?_
      refine J_i2l d_N_bits_38 (inh (dgh a) _) ?_
      refine J_topl (r := ((dgt 30 a (lnw 30 a - 1) : Nat) : Int)) (congrArg lI rfl) ?_
      refine J_callSi cw_N_44 nh_N_bitsOf pn_N_bitsOf rfl (As := [.long (lI ((dgt 30 a (lnw 30 a - 1) : Nat) : Int))]) (rest := [.int (iI (((lnw 30 a : Int) - 1) * 30))]) rfl (Nat.le_of_ble_eq_true rfl) ⟨by decide, by decide⟩ rfl ⟨by decide, by decide⟩ d_N_bits_39 (c_N_bitsOf hfl (v := dgt 30 a (lnw 30 a - 1)) (Nat.lt_trans (dgt_b _ _) (by decide))) (fun z F1 hq => ?_)
      obtain ⟨hz, eF1⟩ := hq
      refine J_eqF eF1 ?_
      refine J_iadd d_N_bits_42 ?_
      refine J_iret rfl rfl d_N_bits_43 ⟨by decide, by decide⟩ ?_
      exact ⟨_, rfl, rfl, rfl, by rw [hz]; exact l3 (by omega), rfl⟩
    · refine J_pick (lv' := []) [] rfl ?_
      exact lab16  (by omega)
set_option maxRecDepth 100000 in
set_option maxHeartbeats 4000000 in
theorem c_N_order {l : Launch} (hfl : l.flags = flags0) {D : va_G} {g : Nat → ClassId} {ad : Nat → Nat} {N : Nat} {F : Nat → va_E} {k m a b : Nat}
    (hk : k + 1 < N) (hF : F k = oN ad k (lnw 30 a : Int)) (hA : F (k + 1) = aN g (dg a)) (h : a < 2 ^ 480) (yhk : m + 1 < N) (yhF : F m = oN ad m (lnw 30 b : Int)) (yhA : F (m + 1) = aN g (dg b)) (yh : b < 2 ^ 480) :
    JC l y_N_order b_N_order 3 (Option.some Jvm.ClassFile.FieldType.int) rm_N_order (0, 0) D jCl (jTys g) ad N F [.ref (ad k), .ref (ad m)] (ji ad N (fun z F' => z = cmpN a b ∧ F' = F)) := by
  have l1 := cn_16 h
  have l2 := cn_16 yh
  refine JC.go hfl (own := "NumberTower$Natural") (lv := [(0, .ref (ad k)), (1, .ref (ad m))]) rfl (by decide +kernel) (Nat.le_of_ble_eq_true rfl) rfl (fun A => ?_)
  refine J_aload_n 0 d_N_order_0 rfl rfl ?_
  refine gf_N_19 (by omega) hF rfl d_N_order_1 ?_
  refine J_aload_n 1 d_N_order_4 rfl rfl ?_
  refine gf_N_19 (by omega) yhF rfl d_N_order_5 ?_
  refine J_if_icmpeq (tgt := 28) d_N_order_8 (by decide) ⟨by omega, by omega⟩ ⟨by omega, by omega⟩ (fun c8 => ?_) (fun c8 => ?_)
  · refine J_aload_n 0 d_N_order_28 rfl rfl ?_
    refine gf_N_19 (by omega) hF rfl d_N_order_29 ?_
    refine J_bipush d_N_order_32 (i8_ok (by decide)) ?_
    refine J_callSi cw_N_53 nh_JMath_min pn_JMath_min rfl (As := [.int (iI (lnw 30 a : Int)), .int (iI 16)]) (rest := []) rfl (Nat.le_of_ble_eq_true rfl) ⟨by decide, by decide⟩ rfl ⟨by decide, by decide⟩ d_N_order_34 (c_JMath_min hfl ⟨by omega, by omega⟩ ⟨by omega, by omega⟩) (fun mn F1 hq => ?_)
    obtain ⟨hmin, eF1⟩ := hq
    refine J_eqF eF1 ?_
    refine J_iconst d_N_order_37 ?_
    refine J_isub d_N_order_38 ?_
    refine J_istore_n (lv' := [(2, .int (iI (mn - 1))), (0, .ref (ad k)), (1, .ref (ad m))]) d_N_order_39 rfl (by decide) rfl ?_
    refine J_pick (lv' := [(0, .ref (ad k)), (1, .ref (ad m)), (2, .int (iI (mn - 1)))]) [1, 2, 0] rfl ?_
    have loop40 : ∀ (fuel : Nat) (i : Int) (h1 : -1 ≤ i ∧ i < lnw 30 a) (h2 : ∀ j : Nat, i < j → j < lnw 30 a → dgt 30 a j = dgt 30 b j) (hm : (i + 1).toNat < fuel), J l rm_N_order (0, 0) "NumberTower$Natural" b_N_order 3 (Option.some Jvm.ClassFile.FieldType.int) D jCl (jTys g) A (fun _ me => me.name = y_N_order.name) (ji ad N (fun z F' => z = cmpN a b ∧ F' = F)) ad N 0 0 40 [(0, .ref (ad k)), (1, .ref (ad m)), (2, .int (iI i))] [] F := by
      intro fuel
      induction fuel with
      | zero => intro i h1 h2 hm; exact absurd hm (Nat.not_lt_zero _)
      | succ fuel ih =>
        intro i h1 h2 hm
        refine J_iload_n 2 d_N_order_40 rfl rfl ?_
        refine J_iflt (tgt := 86) d_N_order_41 (by decide) ⟨by omega, by omega⟩ (fun c41 => ?_) (fun c41 => ?_)
        · refine J_iconst d_N_order_86 ?_
          refine J_iret rfl rfl d_N_order_87 ⟨by decide, by decide⟩ ?_
          refine ⟨_, rfl, rfl, rfl, ?_, rfl⟩
          rw [cmpN_eq (k := lnw 30 a) (lnw_lt (by decide)) (by rw [show lnw 30 a = lnw 30 b by omega]; exact lnw_lt (by decide)) (fun j q1 => h2 j (by omega) q1)]
        · refine J_aload_n 0 d_N_order_44 rfl rfl ?_
          refine gf_N_9 (by omega) hF rfl d_N_order_45 ?_
          refine J_iload_n 2 d_N_order_48 rfl rfl ?_
          refine J_iaload 0 rfl (by omega) hA (by omega) d_N_order_49 ?_
          refine J_aload_n 1 d_N_order_50 rfl rfl ?_
          refine gf_N_9 (by omega) yhF rfl d_N_order_51 ?_
          refine J_iload_n 2 d_N_order_54 rfl rfl ?_
          refine J_iaload 0 rfl (by omega) yhA (by omega) d_N_order_55 ?_
          refine J_if_icmpeq (tgt := 80) d_N_order_56 (by decide) (inh (dgh a) _) (inh (dgh b) _) (fun c56 => ?_) (fun c56 => ?_)
          · refine J_iinc (j := 2) (b := i - 1) (lv' := [(2, .int (iI (i - 1))), (0, .ref (ad k)), (1, .ref (ad m))]) d_N_order_80 rfl (by omega) (by decide) rfl ?_
            refine J_goto (tgt := 40) d_N_order_83 (by decide) ?_
            refine J_pick (lv' := [(0, .ref (ad k)), (1, .ref (ad m)), (2, .int (iI (i - 1)))]) [1, 2, 0] rfl ?_
            refine ih (i - 1) (by omega) ?_ (by omega)
            · intro j q1 q2
              by_cases e : (j : Int) = i
              · have e2 : i.toNat = j := by omega
                have e3 := dg_nat a j
                have e4 := dg_nat b j
                rw [e2] at c56
                omega
              · exact h2 j (by omega) q2
          · refine J_aload_n 0 d_N_order_59 rfl rfl ?_
            refine gf_N_9 (by omega) hF rfl d_N_order_60 ?_
            refine J_iload_n 2 d_N_order_63 rfl rfl ?_
            refine J_iaload 0 rfl (by omega) hA (by omega) d_N_order_64 ?_
            refine J_aload_n 1 d_N_order_65 rfl rfl ?_
            refine gf_N_9 (by omega) yhF rfl d_N_order_66 ?_
            refine J_iload_n 2 d_N_order_69 rfl rfl ?_
            refine J_iaload 0 rfl (by omega) yhA (by omega) d_N_order_70 ?_
            refine J_if_icmpge (tgt := 78) d_N_order_71 (by decide) (inh (dgh a) _) (inh (dgh b) _) (fun c71 => ?_) (fun c71 => ?_)
            · refine J_iconst d_N_order_78 ?_
              refine J_iret rfl rfl d_N_order_79 ⟨by decide, by decide⟩ ?_
              refine ⟨_, rfl, rfl, rfl, ?_, rfl⟩
              have e3 := dg_nat a i.toNat
              have e4 := dg_nat b i.toNat
              rw [cmpN_at (k := lnw 30 a) (i := i.toNat) (lnw_lt (by decide)) (by rw [show lnw 30 a = lnw 30 b by omega]; exact lnw_lt (by decide)) (fun j q1 q2 => h2 j (by omega) q2) (by omega)]
              split <;> omega
            · refine J_iconst d_N_order_74 ?_
              refine J_goto (tgt := 79) d_N_order_75 (by decide) ?_
              refine J_iret rfl rfl d_N_order_79 ⟨by decide, by decide⟩ ?_
              refine ⟨_, rfl, rfl, rfl, ?_, rfl⟩
              have e3 := dg_nat a i.toNat
              have e4 := dg_nat b i.toNat
              rw [cmpN_at (k := lnw 30 a) (i := i.toNat) (lnw_lt (by decide)) (by rw [show lnw 30 a = lnw 30 b by omega]; exact lnw_lt (by decide)) (fun j q1 q2 => h2 j (by omega) q2) (by omega)]
              split <;> omega
    exact loop40 ((((mn - 1) + 1).toNat) + 1) (mn - 1) (by omega) (fun j q1 q2 => by omega) (Nat.lt_succ_self _)
  · refine J_aload_n 0 d_N_order_11 rfl rfl ?_
    refine gf_N_19 (by omega) hF rfl d_N_order_12 ?_
    refine J_aload_n 1 d_N_order_15 rfl rfl ?_
    refine gf_N_19 (by omega) yhF rfl d_N_order_16 ?_
    refine J_if_icmpge (tgt := 26) d_N_order_19 (by decide) ⟨by omega, by omega⟩ ⟨by omega, by omega⟩ (fun c19 => ?_) (fun c19 => ?_)
    · refine J_iconst d_N_order_26 ?_
      refine J_iret rfl rfl d_N_order_27 ⟨by decide, by decide⟩ ?_
      exact ⟨_, rfl, rfl, rfl, by rw [cmpN_L (by omega)]; split <;> omega, rfl⟩
    · refine J_iconst d_N_order_22 ?_
      refine J_goto (tgt := 27) d_N_order_23 (by decide) ?_
      refine J_iret rfl rfl d_N_order_27 ⟨by decide, by decide⟩ ?_
      exact ⟨_, rfl, rfl, rfl, by rw [cmpN_L (by omega)]; split <;> omega, rfl⟩
set_option maxRecDepth 100000 in
set_option maxHeartbeats 4000000 in
theorem c_N_add {l : Launch} (hfl : l.flags = flags0) {D : va_G} {g : Nat → ClassId} {ad : Nat → Nat} {N : Nat} {F : Nat → va_E} {k m a b : Nat}
    (hk : k + 1 < N) (hF : F k = oN ad k (lnw 30 a : Int)) (hA : F (k + 1) = aN g (dg a)) (h : a < 2 ^ 480) (yhk : m + 1 < N) (yhF : F m = oN ad m (lnw 30 b : Int)) (yhA : F (m + 1) = aN g (dg b)) (yh : b < 2 ^ 480) (hd : k + 1 < m ∨ m + 1 < k) (ht : a + b < 2 ^ 480) :
    JC l y_N_add b_N_add 6 (Option.none : Option Jvm.ClassFile.FieldType) rm_N_add (0, 0) D jCl (jTys g) ad N F [.ref (ad k), .ref (ad m)] (jv ad N (fun F' => F' = upN ad g F k (a + b))) := by
  have l1 := cn_16 h
  have l2 := cn_16 yh
  refine JC.go hfl (own := "NumberTower$Natural") (lv := [(0, .ref (ad k)), (1, .ref (ad m))]) rfl (by decide +kernel) (Nat.le_of_ble_eq_true rfl) rfl (fun A => ?_)
  refine J_iconst d_N_add_0 ?_
  refine J_istore_n (lv' := [(2, .int (iI 0)), (0, .ref (ad k)), (1, .ref (ad m))]) d_N_add_1 rfl (by decide) rfl ?_
  refine J_aload_n 1 d_N_add_2 rfl rfl ?_
  refine gf_N_19 (by omega) hF rfl d_N_add_3 ?_
  refine J_aload_n 2 d_N_add_6 rfl rfl ?_
  refine gf_N_19 (by omega) yhF rfl d_N_add_7 ?_
  refine J_callSi cw_N_59 nh_JMath_max pn_JMath_max rfl (As := [.int (iI (lnw 30 a : Int)), .int (iI (lnw 30 b : Int))]) (rest := []) rfl (Nat.le_of_ble_eq_true rfl) ⟨by decide, by decide⟩ rfl ⟨by decide, by decide⟩ d_N_add_10 (c_JMath_max hfl ⟨by omega, by omega⟩ ⟨by omega, by omega⟩) (fun mx F1 hq => ?_)
  obtain ⟨hmax, eF1⟩ := hq
  refine J_eqF eF1 ?_
  refine J_istore_n (lv' := [(3, .int (iI mx)), (2, .int (iI 0)), (0, .ref (ad k)), (1, .ref (ad m))]) d_N_add_13 rfl (by decide) rfl ?_
  refine J_iconst d_N_add_14 ?_
  refine J_istore (lv' := [(4, .int (iI 0)), (3, .int (iI mx)), (2, .int (iI 0)), (0, .ref (ad k)), (1, .ref (ad m))]) d_N_add_15 (by decide) rfl ?_
  have lab77 : J l rm_N_add (0, 0) "NumberTower$Natural" b_N_add 6 (Option.none : Option Jvm.ClassFile.FieldType) D jCl (jTys g) A (fun _ me => me.name = y_N_add.name) (jv ad N (fun F' => F' = upN ad g F k (a + b))) ad N 0 0 77 [(0, .ref (ad k)), (3, .int (iI mx))] [] (va_up F (k + 1) (.inl (g 0, 16, .inl (aI (dg (a + b)))))) := by
    refine J_aload_n 0 d_N_add_77 rfl rfl ?_
    refine J_iload_n 1 d_N_add_78 rfl rfl ?_
    refine J_iconst d_N_add_79 ?_
    refine J_iadd d_N_add_80 ?_
    refine J_callVv cw_N_28 nh_N_trim pn_N_trim rfl rfl (by omega) (by rw [va_up_ne _ _ (by omega)]; exact hF) (As := [.int (iI (mx + 1))]) (rest := []) rfl (Nat.le_of_ble_eq_true rfl) ⟨by decide, by decide⟩ rfl ⟨by decide, by decide⟩ d_N_add_81 (c_N_trimC hfl (n := a + b) (by omega) (by rw [va_up_ne _ _ (by omega)]; exact hF) (by rw [va_up_self]) ht ⟨by have := lnw_add (a := a) (b := b); omega, by omega⟩) (fun  F2 hq => ?_)
    have eF2 := hq
    refine J_eqF eF2 ?_
    refine J_vret rfl d_N_add_84 ⟨by decide, by decide⟩ ?_
    exact ⟨rfl, rfl, rfl, rfl⟩
  refine J_pick (lv' := [(0, .ref (ad k)), (1, .ref (ad m)), (2, .int (iI 0)), (3, .int (iI mx)), (4, .int (iI 0))]) [3, 4, 2, 1, 0] rfl ?_
  have loop17 : ∀ (fuel : Nat) (i : Nat) (c : Int) (f : Nat → Int) (h1 : i ≤ 16) (hc : c = (cy a (b % 2 ^ (30 * i)) i : Int)) (hf : f = mix i (dg (a + b)) (dg a)) (hm : 16 - i < fuel), J l rm_N_add (0, 0) "NumberTower$Natural" b_N_add 6 (Option.none : Option Jvm.ClassFile.FieldType) D jCl (jTys g) A (fun _ me => me.name = y_N_add.name) (jv ad N (fun F' => F' = upN ad g F k (a + b))) ad N 0 0 17 [(0, .ref (ad k)), (1, .ref (ad m)), (2, .int (iI c)), (3, .int (iI mx)), (4, .int (iI (i : Int)))] [] (va_up F (k + 1) (.inl (g 0, 16, .inl (aI f)))) := by
    intro fuel
    induction fuel with
    | zero => intro i c f h1 hc hf hm; exact absurd hm (Nat.not_lt_zero _)
    | succ fuel ih =>
      intro i c f h1 hc hf hm
      have hc2 : cy a (b % 2 ^ (30 * i)) i ≤ 1 := cy_le (by rw [Nat.one_mul]; exact low_b _ _)
      have fi : f i = dg a i := by rw [hf]; exact mix_at
      refine J_iload 4 d_N_add_17 rfl ?_
      refine J_bipush d_N_add_19 (i8_ok (by decide)) ?_
      refine J_if_icmpge (tgt := 77) d_N_add_21 (by decide) ⟨by omega, by omega⟩ ⟨by omega, by omega⟩ (fun c21 => ?_) (fun c21 => ?_)
      · refine J_pick (lv' := [(0, .ref (ad k)), (3, .int (iI mx))]) [0, 3] rfl ?_
        have hend := mix_end (X := a) (Y := b % 2 ^ (30 * i)) hf (fun j hj => rfl) ht h hc (by
          by_cases q : 16 ≤ i
          · exact Or.inl q
          · exact Or.inr ⟨by omega, by rw [low_e (by omega)]⟩)
        refine J_eqF (F2 := va_up F (k + 1) (.inl (g 0, 16, .inl (aI (dg (a + b)))))) (congrArg (fun qq => va_up F (k + 1) (.inl (g 0, 16, .inl (aI qq)))) hend) ?_
        exact lab77  
      · have lab34 : J l rm_N_add (0, 0) "NumberTower$Natural" b_N_add 6 (Option.none : Option Jvm.ClassFile.FieldType) D jCl (jTys g) A (fun _ me => me.name = y_N_add.name) (jv ad N (fun F' => F' = upN ad g F k (a + b))) ad N 0 0 34 [(0, .ref (ad k)), (1, .ref (ad m)), (2, .int (iI c)), (3, .int (iI mx)), (4, .int (iI (i : Int)))] [] (va_up F (k + 1) (.inl (g 0, 16, .inl (aI f)))) := by
          refine J_aload_n 0 d_N_add_34 rfl rfl ?_
          refine gf_N_9 (by omega) (by rw [va_up_ne _ _ (by omega)]; exact hF) rfl d_N_add_35 ?_
          refine J_iload 4 d_N_add_38 rfl ?_
          refine J_iaload 0 rfl (by omega) (by rw [va_up_self]) (by omega) d_N_add_40 ?_
          refine J_topi (r := f i) (congrArg (fun q => iI (f q)) (by omega)) ?_
          refine J_aload_n 1 d_N_add_41 rfl rfl ?_
          refine gf_N_9 (by omega) (by rw [va_up_ne _ _ (by omega)]; exact yhF) rfl d_N_add_42 ?_
          refine J_iload 4 d_N_add_45 rfl ?_
          refine J_iaload 0 rfl (by omega) (by rw [va_up_ne _ _ (by omega)]; exact yhA) (by omega) d_N_add_47 ?_
          refine J_topi (r := (dg b) i) (congrArg (fun q => iI ((dg b) q)) (by omega)) ?_
          refine J_iadd d_N_add_48 ?_
          refine J_iload_n 2 d_N_add_49 rfl rfl ?_
          refine J_iadd d_N_add_50 ?_
          refine J_istore (lv' := [(5, .int (iI (((f i) + ((dg b) i)) + c))), (0, .ref (ad k)), (1, .ref (ad m)), (2, .int (iI c)), (3, .int (iI mx)), (4, .int (iI (i : Int)))]) d_N_add_51 (by decide) rfl ?_
          refine J_aload_n 1 d_N_add_53 rfl rfl ?_
          refine gf_N_9 (by omega) (by rw [va_up_ne _ _ (by omega)]; exact hF) rfl d_N_add_54 ?_
          refine J_iload 5 d_N_add_57 rfl ?_
          refine J_iload 0 d_N_add_59 rfl ?_
          refine J_ldc (z := 1073741823) d_N_add_61 wd_425 (by decide) ?_
          refine J_iand (r := (((f i) + ((dg b) i)) + c) % 1073741824) d_N_add_63 (iI_and 30 (by decide)) ?_
          refine J_iastore 0 rfl (by omega) (by rw [va_up_self]) (by omega) d_N_add_64 ?_
          refine J_eqF (F2 := va_up (va_up F (k + 1) (.inl (g 0, 16, .inl (aI f)))) (k + 1) (.inl (g 0, 16, .inl (aI (va_up f i ((((f i) + ((dg b) i)) + c) % 1073741824)))))) (congrArg (fun q => va_up (va_up F (k + 1) (.inl (g 0, 16, .inl (aI f)))) (k + 1) (.inl (g 0, 16, .inl (aI (va_up f q ((((f i) + ((dg b) i)) + c) % 1073741824)))))) (by omega : (i : Int).toNat = i)) ?_
          refine J_eqF (F2 := va_up F (k + 1) (.inl (g 0, 16, .inl (aI (va_up f i ((((f i) + ((dg b) i)) + c) % 1073741824)))))) (up_in0) ?_
          refine J_iload 0 d_N_add_65 rfl ?_
          refine J_bipush d_N_add_67 (i8_ok (by decide)) ?_
          refine J_iushr (r := (((f i) + ((dg b) i)) + c) % 4294967296 / 1073741824) d_N_add_69 (iI_ushr 30 (by decide)) ?_
          refine J_istore_n (lv' := [(2, .int (iI ((((f i) + ((dg b) i)) + c) % 4294967296 / 1073741824))), (5, .int (iI (((f i) + ((dg b) i)) + c))), (0, .ref (ad k)), (1, .ref (ad m)), (3, .int (iI mx)), (4, .int (iI (i : Int)))]) d_N_add_70 rfl (by decide) rfl ?_
          refine J_iinc (j := 5) (b := (i : Int) + 1) (lv' := [(4, .int (iI ((i : Int) + 1))), (2, .int (iI ((((f i) + ((dg b) i)) + c) % 4294967296 / 1073741824))), (5, .int (iI (((f i) + ((dg b) i)) + c))), (0, .ref (ad k)), (1, .ref (ad m)), (3, .int (iI mx))]) d_N_add_71 rfl (by omega) (by decide) rfl ?_
          refine J_goto (tgt := 17) d_N_add_74 (by decide) ?_
          refine J_pick (lv' := [(0, .ref (ad k)), (1, .ref (ad m)), (2, .int (iI ((((f i) + ((dg b) i)) + c) % 4294967296 / 1073741824))), (3, .int (iI mx)), (4, .int (iI ((i : Int) + 1)))]) [3, 4, 1, 5, 0] rfl ?_
          refine ih (i + 1) ((((f i) + ((dg b) i)) + c) % 4294967296 / 1073741824) (va_up f i ((((f i) + ((dg b) i)) + c) % 1073741824)) (by omega) ?_ ?_ (by omega)
          · have e1 := cy_step (X := a) (t := i) (low_w b i)
            have e2 := dg_nat a i
            have e3 := dg_nat b i
            rw [e1]
            have b1 := dgt_b a i
            have b2 := dgt_b b i
            omega
          · rw [hf]
            refine mix_up ?_
            have e1 := cy_dig (X := a) (T := a + b) (t := i) (Y := b % 2 ^ (30 * i)) (w := dgt 30 b i) (q := b / 2 ^ (30 * (i + 1))) (by rw [← low_w, Nat.add_assoc, ← low_q])
            have e2 := dg_nat a i
            have e3 := dg_nat b i
            have e4 := dg_nat (a + b) i
            have e5 := dgt_b a i
            have e6 := dgt_b b i
            rw [← hf]
            omega
        refine J_iload 4 d_N_add_24 rfl ?_
        refine J_iload_n 3 d_N_add_26 rfl rfl ?_
        refine J_if_icmplt (tgt := 34) d_N_add_27 (by decide) ⟨by omega, by omega⟩ ⟨by omega, by omega⟩ (fun c27 => ?_) (fun c27 => ?_)
        · exact lab34  
        · refine J_iload_n 2 d_N_add_30 rfl rfl ?_
          refine J_ifeq (tgt := 77) d_N_add_31 (by decide) ⟨by omega, by omega⟩ (fun c31 => ?_) (fun c31 => ?_)
          · refine J_pick (lv' := [(0, .ref (ad k)), (3, .int (iI mx))]) [0, 3] rfl ?_
            have hend := mix_end (X := a) (Y := b % 2 ^ (30 * i)) hf (fun j hj => rfl) ht h hc (by
              by_cases q : 16 ≤ i
              · exact Or.inl q
              · exact Or.inr ⟨by omega, by rw [low_e (by omega)]⟩)
            refine J_eqF (F2 := va_up F (k + 1) (.inl (g 0, 16, .inl (aI (dg (a + b)))))) (congrArg (fun qq => va_up F (k + 1) (.inl (g 0, 16, .inl (aI qq)))) hend) ?_
            exact lab77  
          · exact lab34  
  refine J_eqF (F2 := va_up F (k + 1) (.inl (g 0, 16, .inl (aI (dg a))))) (up_same1 hA) ?_
  exact loop17 ((16 - 0) + 1) 0 (0 : Int) (dg a) (by omega) (by rw [Nat.mul_zero, Nat.pow_zero, Nat.mod_one, cy_0]; rfl) (mix_0 _ _) (Nat.lt_succ_self _)
set_option maxRecDepth 100000 in
set_option maxHeartbeats 4000000 in
theorem c_N_addSmall {l : Launch} (hfl : l.flags = flags0) {D : va_G} {g : Nat → ClassId} {ad : Nat → Nat} {N : Nat} {F : Nat → va_E} {k a n : Nat}
    (hk : k + 1 < N) (hF : F k = oN ad k (lnw 30 a : Int)) (hA : F (k + 1) = aN g (dg a)) (h : a < 2 ^ 480) (hn : n < 1073741824) (ht : a + n < 2 ^ 480) :
    JC l y_N_addSmall b_N_addSmall 5 (Option.none : Option Jvm.ClassFile.FieldType) rm_N_addSmall (0, 0) D jCl (jTys g) ad N F [.ref (ad k), .int (iI (n : Int))] (jv ad N (fun F' => F' = upN ad g F k (a + n))) := by
  have l1 := cn_16 h
  refine JC.go hfl (own := "NumberTower$Natural") (lv := [(0, .ref (ad k)), (1, .int (iI (n : Int)))]) rfl (by decide +kernel) (Nat.le_of_ble_eq_true rfl) rfl (fun A => ?_)
  refine J_iload_n 1 d_N_addSmall_0 rfl rfl ?_
  refine J_istore_n (lv' := [(2, .int (iI (n : Int))), (0, .ref (ad k)), (1, .int (iI (n : Int)))]) d_N_addSmall_1 rfl (by decide) rfl ?_
  refine J_iconst d_N_addSmall_2 ?_
  refine J_istore_n (lv' := [(3, .int (iI 0)), (2, .int (iI (n : Int))), (0, .ref (ad k)), (1, .int (iI (n : Int)))]) d_N_addSmall_3 rfl (by decide) rfl ?_
  have lab47 : J l rm_N_addSmall (0, 0) "NumberTower$Natural" b_N_addSmall 5 (Option.none : Option Jvm.ClassFile.FieldType) D jCl (jTys g) A (fun _ me => me.name = y_N_addSmall.name) (jv ad N (fun F' => F' = upN ad g F k (a + n))) ad N 0 0 47 [(0, .ref (ad k))] [] (va_up F (k + 1) (.inl (g 0, 16, .inl (aI (dg (a + n)))))) := by
    refine J_aload_n 0 d_N_addSmall_47 rfl rfl ?_
    refine J_aload_n 0 d_N_addSmall_48 rfl rfl ?_
    refine gf_N_19 (by omega) (by rw [va_up_ne _ _ (by omega)]; exact hF) rfl d_N_addSmall_49 ?_
    refine J_iconst d_N_addSmall_52 ?_
    refine J_iadd d_N_addSmall_53 ?_
    refine J_callVv cw_N_28 nh_N_trim pn_N_trim rfl rfl (by omega) (by rw [va_up_ne _ _ (by omega)]; exact hF) (As := [.int (iI ((lnw 30 a : Int) + 1))]) (rest := []) rfl (Nat.le_of_ble_eq_true rfl) ⟨by decide, by decide⟩ rfl ⟨by decide, by decide⟩ d_N_addSmall_54 (c_N_trimC hfl (n := a + n) (by omega) (by rw [va_up_ne _ _ (by omega)]; exact hF) (by rw [va_up_self]) ht ⟨by have := lnw_small (a := a) hn; omega, by omega⟩) (fun  F1 hq => ?_)
    have eF1 := hq
    refine J_eqF eF1 ?_
    refine J_vret rfl d_N_addSmall_57 ⟨by decide, by decide⟩ ?_
    exact ⟨rfl, rfl, rfl, rfl⟩
  refine J_pick (lv' := [(0, .ref (ad k)), (2, .int (iI (n : Int))), (3, .int (iI 0))]) [2, 1, 0] rfl ?_
  have loop4 : ∀ (fuel : Nat) (i : Nat) (c : Int) (f : Nat → Int) (h1 : i ≤ 16) (hc : c = (cy a n i : Int)) (hf : f = mix i (dg (a + n)) (dg a)) (hm : 16 - i < fuel), J l rm_N_addSmall (0, 0) "NumberTower$Natural" b_N_addSmall 5 (Option.none : Option Jvm.ClassFile.FieldType) D jCl (jTys g) A (fun _ me => me.name = y_N_addSmall.name) (jv ad N (fun F' => F' = upN ad g F k (a + n))) ad N 0 0 4 [(0, .ref (ad k)), (2, .int (iI c)), (3, .int (iI (i : Int)))] [] (va_up F (k + 1) (.inl (g 0, 16, .inl (aI f)))) := by
    intro fuel
    induction fuel with
    | zero => intro i c f h1 hc hf hm; exact absurd hm (Nat.not_lt_zero _)
    | succ fuel ih =>
      intro i c f h1 hc hf hm
      have hc2 : cy a n i ≤ n := cy_le (Nat.le_mul_of_pos_right _ (Nat.two_pow_pos _))
      have fi : f i = dg a i := by rw [hf]; exact mix_at
      refine J_iload_n 2 d_N_addSmall_4 rfl rfl ?_
      refine J_bipush d_N_addSmall_5 (i8_ok (by decide)) ?_
      refine J_if_icmpge (tgt := 47) d_N_addSmall_7 (by decide) ⟨by omega, by omega⟩ ⟨by omega, by omega⟩ (fun c7 => ?_) (fun c7 => ?_)
      · refine J_pick (lv' := [(0, .ref (ad k))]) [0] rfl ?_
        have hend := mix_end (X := a) (Y := n) hf (fun j hj => rfl) ht h hc (by
          by_cases q : 16 ≤ i
          · exact Or.inl q
          · exact Or.inr ⟨by omega, rfl⟩)
        refine J_eqF (F2 := va_up F (k + 1) (.inl (g 0, 16, .inl (aI (dg (a + n)))))) (congrArg (fun qq => va_up F (k + 1) (.inl (g 0, 16, .inl (aI qq)))) hend) ?_
        exact lab47  
      · refine J_iload_n 1 d_N_addSmall_10 rfl rfl ?_
        refine J_ifeq (tgt := 47) d_N_addSmall_11 (by decide) ⟨by omega, by omega⟩ (fun c11 => ?_) (fun c11 => ?_)
        · refine J_pick (lv' := [(0, .ref (ad k))]) [0] rfl ?_
          have hend := mix_end (X := a) (Y := n) hf (fun j hj => rfl) ht h hc (by
            by_cases q : 16 ≤ i
            · exact Or.inl q
            · exact Or.inr ⟨by omega, rfl⟩)
          refine J_eqF (F2 := va_up F (k + 1) (.inl (g 0, 16, .inl (aI (dg (a + n)))))) (congrArg (fun qq => va_up F (k + 1) (.inl (g 0, 16, .inl (aI qq)))) hend) ?_
          exact lab47  
        · refine J_aload_n 0 d_N_addSmall_14 rfl rfl ?_
          refine gf_N_9 (by omega) (by rw [va_up_ne _ _ (by omega)]; exact hF) rfl d_N_addSmall_15 ?_
          refine J_iload_n 2 d_N_addSmall_18 rfl rfl ?_
          refine J_iaload 0 rfl (by omega) (by rw [va_up_self]) (by omega) d_N_addSmall_19 ?_
          refine J_topi (r := f i) (congrArg (fun q => iI (f q)) (by omega)) ?_
          refine J_iload_n 1 d_N_addSmall_20 rfl rfl ?_
          refine J_iadd d_N_addSmall_21 ?_
          refine J_istore (lv' := [(4, .int (iI ((f i) + c))), (0, .ref (ad k)), (2, .int (iI c)), (3, .int (iI (i : Int)))]) d_N_addSmall_22 (by decide) rfl ?_
          refine J_aload_n 1 d_N_addSmall_24 rfl rfl ?_
          refine gf_N_9 (by omega) (by rw [va_up_ne _ _ (by omega)]; exact hF) rfl d_N_addSmall_25 ?_
          refine J_iload_n 3 d_N_addSmall_28 rfl rfl ?_
          refine J_iload 0 d_N_addSmall_29 rfl ?_
          refine J_ldc (z := 1073741823) d_N_addSmall_31 wd_425 (by decide) ?_
          refine J_iand (r := ((f i) + c) % 1073741824) d_N_addSmall_33 (iI_and 30 (by decide)) ?_
          refine J_iastore 0 rfl (by omega) (by rw [va_up_self]) (by omega) d_N_addSmall_34 ?_
          refine J_eqF (F2 := va_up (va_up F (k + 1) (.inl (g 0, 16, .inl (aI f)))) (k + 1) (.inl (g 0, 16, .inl (aI (va_up f i (((f i) + c) % 1073741824)))))) (congrArg (fun q => va_up (va_up F (k + 1) (.inl (g 0, 16, .inl (aI f)))) (k + 1) (.inl (g 0, 16, .inl (aI (va_up f q (((f i) + c) % 1073741824)))))) (by omega : (i : Int).toNat = i)) ?_
          refine J_eqF (F2 := va_up F (k + 1) (.inl (g 0, 16, .inl (aI (va_up f i (((f i) + c) % 1073741824)))))) (up_in0) ?_
          refine J_iload 0 d_N_addSmall_35 rfl ?_
          refine J_bipush d_N_addSmall_37 (i8_ok (by decide)) ?_
          refine J_iushr (r := ((f i) + c) % 4294967296 / 1073741824) d_N_addSmall_39 (iI_ushr 30 (by decide)) ?_
          refine J_istore_n (lv' := [(2, .int (iI (((f i) + c) % 4294967296 / 1073741824))), (4, .int (iI ((f i) + c))), (0, .ref (ad k)), (3, .int (iI (i : Int)))]) d_N_addSmall_40 rfl (by decide) rfl ?_
          refine J_iinc (j := 3) (b := (i : Int) + 1) (lv' := [(3, .int (iI ((i : Int) + 1))), (2, .int (iI (((f i) + c) % 4294967296 / 1073741824))), (4, .int (iI ((f i) + c))), (0, .ref (ad k))]) d_N_addSmall_41 rfl (by omega) (by decide) rfl ?_
          refine J_goto (tgt := 4) d_N_addSmall_44 (by decide) ?_
          refine J_pick (lv' := [(0, .ref (ad k)), (2, .int (iI (((f i) + c) % 4294967296 / 1073741824))), (3, .int (iI ((i : Int) + 1)))]) [3, 1, 0] rfl ?_
          refine ih (i + 1) (((f i) + c) % 4294967296 / 1073741824) (va_up f i (((f i) + c) % 1073741824)) (by omega) ?_ ?_ (by omega)
          · have e1 := cy_step (X := a) (Y := n) (Y' := n) (w := 0) (t := i) (by omega)
            have e2 := dg_nat a i
            rw [e1]
            have b1 := dgt_b a i
            omega
          · rw [hf]
            refine mix_up ?_
            have e1 := cy_dig (X := a) (T := a + n) (t := i) (Y := n) (w := 0) (q := 0) (by omega)
            have e2 := dg_nat a i
            have e4 := dg_nat (a + n) i
            have e5 := dgt_b a i
            rw [← hf]
            omega
  refine J_eqF (F2 := va_up F (k + 1) (.inl (g 0, 16, .inl (aI (dg a))))) (up_same1 hA) ?_
  exact loop4 ((16 - 0) + 1) 0 (n : Int) (dg a) (by omega) (by rw [cy_0]) (mix_0 _ _) (Nat.lt_succ_self _)
set_option maxRecDepth 100000 in
set_option maxHeartbeats 4000000 in
theorem c_N_subtract {l : Launch} (hfl : l.flags = flags0) {D : va_G} {g : Nat → ClassId} {ad : Nat → Nat} {N : Nat} {F : Nat → va_E} {k m a b r : Nat}
    (hk : k + 1 < N) (hF : F k = oN ad k (lnw 30 a : Int)) (hA : F (k + 1) = aN g (dg a)) (h : a < 2 ^ 480) (yhk : m + 1 < N) (yhF : F m = oN ad m (lnw 30 b : Int)) (yhA : F (m + 1) = aN g (dg b)) (yh : b < 2 ^ 480) (hd : k + 1 < m ∨ m + 1 < k) (hr : a = r + b) :
    JC l y_N_subtract b_N_subtract 5 (Option.none : Option Jvm.ClassFile.FieldType) rm_N_subtract (0, 0) D jCl (jTys g) ad N F [.ref (ad k), .ref (ad m)] (jv ad N (fun F' => F' = upN ad g F k r)) := by
  have l1 := cn_16 h
  have l2 := cn_16 yh
  have hrl : r < 2 ^ 480 := Nat.lt_of_le_of_lt (by omega) h
  refine JC.go hfl (own := "NumberTower$Natural") (lv := [(0, .ref (ad k)), (1, .ref (ad m))]) rfl (by decide +kernel) (Nat.le_of_ble_eq_true rfl) rfl (fun A => ?_)
  refine J_iconst d_N_subtract_0 ?_
  refine J_istore_n (lv' := [(2, .int (iI 0)), (0, .ref (ad k)), (1, .ref (ad m))]) d_N_subtract_1 rfl (by decide) rfl ?_
  refine J_iconst d_N_subtract_2 ?_
  refine J_istore_n (lv' := [(3, .int (iI 0)), (2, .int (iI 0)), (0, .ref (ad k)), (1, .ref (ad m))]) d_N_subtract_3 rfl (by decide) rfl ?_
  have lab62 : J l rm_N_subtract (0, 0) "NumberTower$Natural" b_N_subtract 5 (Option.none : Option Jvm.ClassFile.FieldType) D jCl (jTys g) A (fun _ me => me.name = y_N_subtract.name) (jv ad N (fun F' => F' = upN ad g F k r)) ad N 0 0 62 [(0, .ref (ad k))] [] (va_up F (k + 1) (.inl (g 0, 16, .inl (aI (dg r))))) := by
    refine J_aload_n 0 d_N_subtract_62 rfl rfl ?_
    refine J_aload_n 0 d_N_subtract_63 rfl rfl ?_
    refine gf_N_19 (by omega) (by rw [va_up_ne _ _ (by omega)]; exact hF) rfl d_N_subtract_64 ?_
    refine J_callVv cw_N_28 nh_N_trim pn_N_trim rfl rfl (by omega) (by rw [va_up_ne _ _ (by omega)]; exact hF) (As := [.int (iI (lnw 30 a : Int))]) (rest := []) rfl (Nat.le_of_ble_eq_true rfl) ⟨by decide, by decide⟩ rfl ⟨by decide, by decide⟩ d_N_subtract_67 (c_N_trimC hfl (n := r) (by omega) (by rw [va_up_ne _ _ (by omega)]; exact hF) (by rw [va_up_self]) hrl ⟨by have := lnw_mono (a := r) (b := a) (by omega); omega, by omega⟩) (fun  F1 hq => ?_)
    have eF1 := hq
    refine J_eqF eF1 ?_
    refine J_vret rfl d_N_subtract_70 ⟨by decide, by decide⟩ ?_
    exact ⟨rfl, rfl, rfl, rfl⟩
  refine J_pick (lv' := [(0, .ref (ad k)), (1, .ref (ad m)), (2, .int (iI 0)), (3, .int (iI 0))]) [2, 3, 1, 0] rfl ?_
  have loop4 : ∀ (fuel : Nat) (i : Nat) (c : Int) (f : Nat → Int) (h1 : i ≤ 16) (hc : -c = (cy r (b % 2 ^ (30 * i)) i : Int)) (hf : f = mix i (dg r) (dg a)) (hm : 16 - i < fuel), J l rm_N_subtract (0, 0) "NumberTower$Natural" b_N_subtract 5 (Option.none : Option Jvm.ClassFile.FieldType) D jCl (jTys g) A (fun _ me => me.name = y_N_subtract.name) (jv ad N (fun F' => F' = upN ad g F k r)) ad N 0 0 4 [(0, .ref (ad k)), (1, .ref (ad m)), (2, .int (iI c)), (3, .int (iI (i : Int)))] [] (va_up F (k + 1) (.inl (g 0, 16, .inl (aI f)))) := by
    intro fuel
    induction fuel with
    | zero => intro i c f h1 hc hf hm; exact absurd hm (Nat.not_lt_zero _)
    | succ fuel ih =>
      intro i c f h1 hc hf hm
      have hc2 : cy r (b % 2 ^ (30 * i)) i ≤ 1 := cy_le (by rw [Nat.one_mul]; exact low_b _ _)
      have fi : f i = dg a i := by rw [hf]; exact mix_at
      have hdig := cy_dig (X := r) (T := a) (t := i) (Y := b % 2 ^ (30 * i)) (w := dgt 30 b i) (q := b / 2 ^ (30 * (i + 1))) (by rw [← low_w, Nat.add_assoc, ← low_q, hr])
      have hd2 := dg_nat a i
      have hd3 := dg_nat b i
      have hd4 := dg_nat r i
      have hd5 := dgt_b r i
      have hd6 := dgt_b b i
      refine J_iload_n 3 d_N_subtract_4 rfl rfl ?_
      refine J_bipush d_N_subtract_5 (i8_ok (by decide)) ?_
      refine J_if_icmpge (tgt := 62) d_N_subtract_7 (by decide) ⟨by omega, by omega⟩ ⟨by omega, by omega⟩ (fun c7 => ?_) (fun c7 => ?_)
      · refine J_pick (lv' := [(0, .ref (ad k))]) [0] rfl ?_
        have hend := show f = dg r by
          rw [hf]
          refine mix_all (fun j hj => ?_)
          by_cases q : 16 ≤ i
          · rw [dg_16 hrl (by omega), dg_16 h (by omega)]
          · rw [dg_nat, dg_nat, cy_end (X := r) (Y := b % 2 ^ (30 * i)) (T := a) (by rw [low_e (by omega)]; exact hr) (by omega) hj]
        refine J_eqF (F2 := va_up F (k + 1) (.inl (g 0, 16, .inl (aI (dg (r)))))) (congrArg (fun qq => va_up F (k + 1) (.inl (g 0, 16, .inl (aI qq)))) hend) ?_
        exact lab62  
      · have lab22 : J l rm_N_subtract (0, 0) "NumberTower$Natural" b_N_subtract 5 (Option.none : Option Jvm.ClassFile.FieldType) D jCl (jTys g) A (fun _ me => me.name = y_N_subtract.name) (jv ad N (fun F' => F' = upN ad g F k r)) ad N 0 0 22 [(0, .ref (ad k)), (1, .ref (ad m)), (2, .int (iI c)), (3, .int (iI (i : Int)))] [] (va_up F (k + 1) (.inl (g 0, 16, .inl (aI f)))) := by
          refine J_aload_n 0 d_N_subtract_22 rfl rfl ?_
          refine gf_N_9 (by omega) (by rw [va_up_ne _ _ (by omega)]; exact hF) rfl d_N_subtract_23 ?_
          refine J_iload_n 3 d_N_subtract_26 rfl rfl ?_
          refine J_iaload 0 rfl (by omega) (by rw [va_up_self]) (by omega) d_N_subtract_27 ?_
          refine J_topi (r := f i) (congrArg (fun q => iI (f q)) (by omega)) ?_
          refine J_aload_n 1 d_N_subtract_28 rfl rfl ?_
          refine gf_N_9 (by omega) (by rw [va_up_ne _ _ (by omega)]; exact yhF) rfl d_N_subtract_29 ?_
          refine J_iload_n 3 d_N_subtract_32 rfl rfl ?_
          refine J_iaload 0 rfl (by omega) (by rw [va_up_ne _ _ (by omega)]; exact yhA) (by omega) d_N_subtract_33 ?_
          refine J_topi (r := (dg b) i) (congrArg (fun q => iI ((dg b) q)) (by omega)) ?_
          refine J_isub d_N_subtract_34 ?_
          refine J_iload_n 2 d_N_subtract_35 rfl rfl ?_
          refine J_iadd d_N_subtract_36 ?_
          refine J_istore (lv' := [(4, .int (iI (((f i) - ((dg b) i)) + c))), (0, .ref (ad k)), (1, .ref (ad m)), (2, .int (iI c)), (3, .int (iI (i : Int)))]) d_N_subtract_37 (by decide) rfl ?_
          refine J_aload_n 1 d_N_subtract_39 rfl rfl ?_
          refine gf_N_9 (by omega) (by rw [va_up_ne _ _ (by omega)]; exact hF) rfl d_N_subtract_40 ?_
          refine J_iload_n 4 d_N_subtract_43 rfl rfl ?_
          refine J_iload 0 d_N_subtract_44 rfl ?_
          refine J_ldc (z := 1073741823) d_N_subtract_46 wd_425 (by decide) ?_
          refine J_iand (r := (((f i) - ((dg b) i)) + c) % 1073741824) d_N_subtract_48 (iI_and 30 (by decide)) ?_
          refine J_iastore 0 rfl (by omega) (by rw [va_up_self]) (by omega) d_N_subtract_49 ?_
          refine J_eqF (F2 := va_up (va_up F (k + 1) (.inl (g 0, 16, .inl (aI f)))) (k + 1) (.inl (g 0, 16, .inl (aI (va_up f i ((((f i) - ((dg b) i)) + c) % 1073741824)))))) (congrArg (fun q => va_up (va_up F (k + 1) (.inl (g 0, 16, .inl (aI f)))) (k + 1) (.inl (g 0, 16, .inl (aI (va_up f q ((((f i) - ((dg b) i)) + c) % 1073741824)))))) (by omega : (i : Int).toNat = i)) ?_
          refine J_eqF (F2 := va_up F (k + 1) (.inl (g 0, 16, .inl (aI (va_up f i ((((f i) - ((dg b) i)) + c) % 1073741824)))))) (up_in0) ?_
          refine J_iload 0 d_N_subtract_50 rfl ?_
          refine J_bipush d_N_subtract_52 (i8_ok (by decide)) ?_
          refine J_ishr (r := (((f i) - ((dg b) i)) + c) / 1073741824) d_N_subtract_54 (iI_shr ⟨by omega, by omega⟩ 30 (by decide)) ?_
          refine J_istore_n (lv' := [(2, .int (iI ((((f i) - ((dg b) i)) + c) / 1073741824))), (4, .int (iI (((f i) - ((dg b) i)) + c))), (0, .ref (ad k)), (1, .ref (ad m)), (3, .int (iI (i : Int)))]) d_N_subtract_55 rfl (by decide) rfl ?_
          refine J_iinc (j := 4) (b := (i : Int) + 1) (lv' := [(3, .int (iI ((i : Int) + 1))), (2, .int (iI ((((f i) - ((dg b) i)) + c) / 1073741824))), (4, .int (iI (((f i) - ((dg b) i)) + c))), (0, .ref (ad k)), (1, .ref (ad m))]) d_N_subtract_56 rfl (by omega) (by decide) rfl ?_
          refine J_goto (tgt := 4) d_N_subtract_59 (by decide) ?_
          refine J_pick (lv' := [(0, .ref (ad k)), (1, .ref (ad m)), (2, .int (iI ((((f i) - ((dg b) i)) + c) / 1073741824))), (3, .int (iI ((i : Int) + 1)))]) [3, 4, 1, 0] rfl ?_
          refine ih (i + 1) ((((f i) - ((dg b) i)) + c) / 1073741824) (va_up f i ((((f i) - ((dg b) i)) + c) % 1073741824)) (by omega) ?_ ?_ (by omega)
          · have e1 := cy_step (X := r) (t := i) (low_w b i)
            rw [e1]
            omega
          · rw [hf]
            refine mix_up ?_
            rw [← hf]
            omega
        refine J_iload_n 3 d_N_subtract_10 rfl rfl ?_
        refine J_aload_n 1 d_N_subtract_11 rfl rfl ?_
        refine gf_N_19 (by omega) (by rw [va_up_ne _ _ (by omega)]; exact yhF) rfl d_N_subtract_12 ?_
        refine J_if_icmplt (tgt := 22) d_N_subtract_15 (by decide) ⟨by omega, by omega⟩ ⟨by omega, by omega⟩ (fun c15 => ?_) (fun c15 => ?_)
        · exact lab22  
        · refine J_iload_n 2 d_N_subtract_18 rfl rfl ?_
          refine J_ifeq (tgt := 62) d_N_subtract_19 (by decide) ⟨by omega, by omega⟩ (fun c19 => ?_) (fun c19 => ?_)
          · refine J_pick (lv' := [(0, .ref (ad k))]) [0] rfl ?_
            have hend := show f = dg r by
              rw [hf]
              refine mix_all (fun j hj => ?_)
              by_cases q : 16 ≤ i
              · rw [dg_16 hrl (by omega), dg_16 h (by omega)]
              · rw [dg_nat, dg_nat, cy_end (X := r) (Y := b % 2 ^ (30 * i)) (T := a) (by rw [low_e (by omega)]; exact hr) (by omega) hj]
            refine J_eqF (F2 := va_up F (k + 1) (.inl (g 0, 16, .inl (aI (dg (r)))))) (congrArg (fun qq => va_up F (k + 1) (.inl (g 0, 16, .inl (aI qq)))) hend) ?_
            exact lab62  
          · exact lab22  
  refine J_eqF (F2 := va_up F (k + 1) (.inl (g 0, 16, .inl (aI (dg a))))) (up_same1 hA) ?_
  exact loop4 ((16 - 0) + 1) 0 (0 : Int) (dg a) (by omega) (by rw [Nat.mul_zero, Nat.pow_zero, Nat.mod_one, cy_0]; rfl) (mix_0 _ _) (Nat.lt_succ_self _)
