/-! numbers -/
abbrev oU (ad : Nat → Nat) (k : Nat) (kd sg : Int) : va_E := .inr (3, [.int (iI kd), .int (iI sg), .ref (ad (k + 1)), .ref (ad (k + 3))])
abbrev upU (ad : Nat → Nat) (g : Nat → ClassId) (F : Nat → va_E) (k : Nat) (kd sg : Int) (n m : Nat) : Nat → va_E := upN ad g (upN ad g (va_up F k (oU ad k kd sg)) (k + 1) n) (k + 3) m
theorem small_in {sg : Int} {t : Nat} (h : -1 ≤ sg ∧ sg ≤ 1) : -1073741823 ≤ sg * dg t 0 ∧ sg * dg t 0 ≤ 1073741823 := by
  have h1 := dgh t 0
  obtain h2 | h2 | h2 : sg = -1 ∨ sg = 0 ∨ sg = 1 := by omega
  · subst h2; omega
  · subst h2; omega
  · subst h2; omega
theorem dg_one {t : Nat} (h : lnw 30 t ≤ 1) : dg t 0 = t := by
  have h1 : t < 2 ^ (30 * 1) := (lnw_le (by decide)).mp h
  rw [dg_nat, dgt_00]; omega
theorem small_big {sg : Int} {t : Nat} (h : -1 ≤ sg ∧ sg ≤ 1) (h0 : sg = 0 ↔ t = 0) (hl : ¬ lnw 30 t ≤ 1) : sg * t < -1073741823 ∨ 1073741823 < sg * t := by
  have h1 : ¬ t < 2 ^ (30 * 1) := fun q => hl ((lnw_le (by decide)).mpr q)
  obtain h2 | h2 | h2 : sg = -1 ∨ sg = 0 ∨ sg = 1 := by omega
  · subst h2; omega
  · have := h0.mp h2; subst this; omega
  · subst h2; omega
theorem xor_sgn {a b : Int} (ha : inI a) (hb : 0 ≤ b ∧ b ≤ 2147483647) : (iI a ^^^ iI b).toInt < 0 ↔ a < 0 := by
  have e : ∀ x : Int32, x.toInt < 0 ↔ x.toBitVec.msb = true := fun x => by
    show x.toBitVec.toInt < 0 ↔ _
    rw [BitVec.msb_eq_toInt]; simp
  have h1 := e (iI a ^^^ iI b)
  have h2 := e (iI a)
  have h3 := e (iI b)
  rw [iI_toInt ha] at h2
  rw [iI_toInt ⟨by omega, by omega⟩] at h3
  have h4 : (iI b).toBitVec.msb = false := by
    cases q : (iI b).toBitVec.msb
    · rfl
    · have := h3.mpr q; omega
  rw [h1, h2, Int32.toBitVec_xor, BitVec.msb_xor, h4, Bool.xor_false]
set_option maxRecDepth 100000 in
set_option maxHeartbeats 4000000 in
theorem c_JLong_compare {l : Launch} (hfl : l.flags = flags0) {D : va_G} {g : Nat → ClassId} {ad : Nat → Nat} {N : Nat} {F : Nat → va_E} {a b : Int}
    (ha : inL a) (hb : inL b) :
    JC l y_JLong_compare b_JLong_compare 4 (Option.some Jvm.ClassFile.FieldType.int) rm_JLong_compare (0, 0) D jCl (jTys g) ad N F [.long (lI a), .long (lI b)] (ji ad N (fun z F' => ((a < b ∧ z = -1) ∨ (a = b ∧ z = 0) ∨ (b < a ∧ z = 1)) ∧ F' = F)) := by
  refine JC.go hfl (own := "java/lang/Long") (lv := [(0, .long (lI a)), (2, .long (lI b))]) rfl (by decide +kernel) (Nat.le_of_ble_eq_true rfl) rfl (fun A => ?_)
  refine J_lload_n 0 d_JLong_compare_0 rfl rfl ?_
  refine J_lload_n 1 d_JLong_compare_1 rfl rfl ?_
  refine J_lcmpge (tgt := 10) d_JLong_compare_2 d_JLong_compare_3 (by decide) ⟨by omega, by omega⟩ ⟨by omega, by omega⟩ (fun c2 => ?_) (fun c2 => ?_)
  · refine J_lload_n 0 d_JLong_compare_10 rfl rfl ?_
    refine J_lload_n 1 d_JLong_compare_11 rfl rfl ?_
    refine J_lcmpne (tgt := 20) d_JLong_compare_12 d_JLong_compare_13 (by decide) ⟨by omega, by omega⟩ ⟨by omega, by omega⟩ (fun c12 => ?_) (fun c12 => ?_)
    · refine J_iconst d_JLong_compare_20 ?_
      refine J_iret rfl rfl d_JLong_compare_21 ⟨by decide, by decide⟩ ?_
      exact ⟨_, rfl, rfl, rfl, by omega, rfl⟩
    · refine J_iconst d_JLong_compare_16 ?_
      refine J_goto (tgt := 21) d_JLong_compare_17 (by decide) ?_
      refine J_iret rfl rfl d_JLong_compare_21 ⟨by decide, by decide⟩ ?_
      exact ⟨_, rfl, rfl, rfl, by omega, rfl⟩
  · refine J_iconst d_JLong_compare_6 ?_
    refine J_goto (tgt := 21) d_JLong_compare_7 (by decide) ?_
    refine J_iret rfl rfl d_JLong_compare_21 ⟨by decide, by decide⟩ ?_
    exact ⟨_, rfl, rfl, rfl, by omega, rfl⟩
set_option maxRecDepth 100000 in
set_option maxHeartbeats 4000000 in
theorem c_JMath_floorDiv {l : Launch} (hfl : l.flags = flags0) {D : va_G} {g : Nat → ClassId} {ad : Nat → Nat} {N : Nat} {F : Nat → va_E} {a b : Int}
    (ha : inI a) (hb : 0 < b ∧ b ≤ 2147483647) :
    JC l y_JMath_floorDiv b_JMath_floorDiv 3 (Option.some Jvm.ClassFile.FieldType.int) rm_JMath_floorDiv (0, 0) D jCl (jTys g) ad N F [.int (iI a), .int (iI b)] (ji ad N (fun z F' => z = a / b ∧ F' = F)) := by
  have hfd : a / b = a.tdiv b - (if a < 0 ∧ a.tdiv b * b ≠ a then 1 else 0) := by
    have h1 := Int.mul_ediv_add_emod a b
    have h2 := Int.emod_nonneg a (b := b) (by omega)
    have h3 := Int.emod_lt_of_pos a hb.1
    have h4 := Int.mul_tdiv_add_tmod a b
    by_cases q : 0 ≤ a
    · rw [if_neg (by omega), Int.tdiv_eq_ediv_of_nonneg q, Int.sub_zero]
    · have h5 : a.tdiv b = a / b + (if a % b = 0 then 0 else 1) := by
        rw [Int.tdiv_eq_ediv, Int.sign_eq_one_of_pos hb.1]
        by_cases r : a % b = 0
        · rw [if_pos (Or.inr (Int.dvd_of_emod_eq_zero r)), if_pos r]
        · rw [if_neg (by rintro (h | h); exact q h; exact r (Int.emod_eq_zero_of_dvd h)), if_neg r]
      rw [h5]
      by_cases r : a % b = 0
      · rw [if_pos r, if_neg, Int.add_zero, Int.sub_zero]
        rintro ⟨-, h6⟩
        apply h6
        rw [Int.add_zero, Int.mul_comm]; omega
      · rw [if_neg r, if_pos, Int.add_sub_cancel]
        refine ⟨by omega, fun h6 => ?_⟩
        rw [Int.add_mul, Int.one_mul, Int.mul_comm] at h6
        omega
  have htp : inI (a.tdiv b * b) := by
    have h4 := Int.mul_tdiv_add_tmod a b
    rw [Int.mul_comm] at h4
    by_cases q : 0 ≤ a
    · have h5 := Int.tmod_nonneg b q
      have h6 : 0 ≤ a.tdiv b * b := Int.mul_nonneg (Int.tdiv_nonneg q (by omega)) (by omega)
      omega
    · have h7 : (-a).tdiv b = -(a.tdiv b) := Int.neg_tdiv ..
      have h8 : (-a).tmod b = -(a.tmod b) := Int.neg_tmod ..
      have h5 := Int.tmod_nonneg b (a := -a) (by omega)
      have h6 : 0 ≤ (-a).tdiv b * b := Int.mul_nonneg (Int.tdiv_nonneg (by omega) (by omega)) (by omega)
      rw [h7, Int.neg_mul] at h6
      omega
  refine JC.go hfl (own := "java/lang/Math") (lv := [(0, .int (iI a)), (1, .int (iI b))]) rfl (by decide +kernel) (Nat.le_of_ble_eq_true rfl) rfl (fun A => ?_)
  refine J_iload_n 0 d_JMath_floorDiv_0 rfl rfl ?_
  refine J_iload_n 1 d_JMath_floorDiv_1 rfl rfl ?_
  refine J_idiv d_JMath_floorDiv_2 ha hb ?_
  refine J_istore_n (lv' := [(2, .int (iI (a.tdiv b))), (0, .int (iI a)), (1, .int (iI b))]) d_JMath_floorDiv_3 rfl (by decide) rfl ?_
  refine J_iload_n 1 d_JMath_floorDiv_4 rfl rfl ?_
  refine J_iload_n 2 d_JMath_floorDiv_5 rfl rfl ?_
  obtain ⟨x, hx, hxr⟩ := iI_ex (iI a ^^^ iI b)
  have hxi : (iI a ^^^ iI b).toInt < 0 ↔ a < 0 := xor_sgn ha ⟨by omega, by omega⟩
  rw [hx, iI_toInt hxr] at hxi
  refine J_ixor (r := x) d_JMath_floorDiv_6 hx ?_
  refine J_ifge (tgt := 21) d_JMath_floorDiv_7 (by decide) hxr (fun c7 => ?_) (fun c7 => ?_)
  · refine J_iload_n 0 d_JMath_floorDiv_21 rfl rfl ?_
    refine J_iret rfl rfl d_JMath_floorDiv_22 ⟨by decide, by decide⟩ ?_
    exact ⟨_, rfl, rfl, rfl, by rw [hfd]; split <;> omega, rfl⟩
  · refine J_iload_n 0 d_JMath_floorDiv_10 rfl rfl ?_
    refine J_iload_n 2 d_JMath_floorDiv_11 rfl rfl ?_
    refine J_imul d_JMath_floorDiv_12 ?_
    refine J_iload_n 1 d_JMath_floorDiv_13 rfl rfl ?_
    refine J_if_icmpeq (tgt := 21) d_JMath_floorDiv_14 (by decide) htp ha (fun c14 => ?_) (fun c14 => ?_)
    · refine J_iload_n 0 d_JMath_floorDiv_21 rfl rfl ?_
      refine J_iret rfl rfl d_JMath_floorDiv_22 ⟨by decide, by decide⟩ ?_
      exact ⟨_, rfl, rfl, rfl, by rw [hfd]; split <;> omega, rfl⟩
    · refine J_iload_n 0 d_JMath_floorDiv_17 rfl rfl ?_
      refine J_iconst d_JMath_floorDiv_18 ?_
      refine J_isub d_JMath_floorDiv_19 ?_
      refine J_iret rfl rfl d_JMath_floorDiv_20 ⟨by decide, by decide⟩ ?_
      exact ⟨_, rfl, rfl, rfl, by rw [hfd]; split <;> omega, rfl⟩
set_option maxRecDepth 100000 in
set_option maxHeartbeats 4000000 in
theorem c_N_roundBy {l : Launch} (hfl : l.flags = flags0) {D : va_G} {g : Nat → ClassId} {ad : Nat → Nat} {N : Nat} {F : Nat → va_E} {k m p q r d : Nat}
    (hk : k + 1 < N) (hF : F k = oN ad k (lnw 30 q : Int)) (hA : F (k + 1) = aN g (dg q)) (h : q < 2 ^ 480) (rhk : p + 1 < N) (rhF : F p = oN ad p (lnw 30 r : Int)) (rhA : F (p + 1) = aN g (dg r)) (rh : r < 2 ^ 470) (dhk : m + 1 < N) (dhF : F m = oN ad m (lnw 30 d : Int)) (dhA : F (m + 1) = aN g (dg d)) (dh : d < 2 ^ 480) (hd0 : k + 1 < m ∨ m + 1 < k) (hd1 : k + 1 < p ∨ p + 1 < k) (hd2 : m + 1 < p ∨ p + 1 < m) (hq1 : q + 1 < 2 ^ 480) :
    JC l y_N_roundBy b_N_roundBy 4 (Option.none : Option Jvm.ClassFile.FieldType) rm_N_roundBy (0, 0) D jCl (jTys g) ad N F [.ref (ad k), .ref (ad p), .ref (ad m)] (jv ad N (fun F' => F' = upN ad g (upN ad g F p (r * 2)) k (rnd q r d))) := by
  have hr1 : r < 2 ^ 480 := Nat.lt_trans rh (Nat.pow_lt_pow_right (by decide) (by decide))
  have hr2 : r * 2 ^ 1 < 2 ^ 480 := Nat.lt_of_lt_of_le (Nat.mul_lt_mul_of_pos_right rh (by decide)) (by rw [← Nat.pow_add]; exact Nat.pow_le_pow_right (by decide) (by decide))
  refine JC.go hfl (own := "NumberTower$Natural") (lv := [(0, .ref (ad k)), (1, .ref (ad p)), (2, .ref (ad m))]) rfl (by decide +kernel) (Nat.le_of_ble_eq_true rfl) rfl (fun A => ?_)
  refine J_aload_n 1 d_N_roundBy_0 rfl rfl ?_
  refine J_iconst d_N_roundBy_1 ?_
  refine J_callVv cw_N_84 nh_N_shiftUp pn_N_shiftUp rfl rfl (by omega) rhF (As := [.int (iI 1)]) (rest := []) rfl (Nat.le_of_ble_eq_true rfl) ⟨by decide, by decide⟩ rfl ⟨by decide, by decide⟩ d_N_roundBy_2 (c_N_shiftUp hfl (k := p) (a := r) (n := 1) (by omega) rhF rhA hr1 ⟨by omega, by omega⟩ hr2) (fun  F1 hq => ?_)
  have eF1 := hq
  refine J_eqF (F2 := va_up (va_up F (p + 1) (.inl (g 0, 16, .inl (aI (dg (r * 2 ^ 1)))))) p (.inr (2, [.ref (ad (p + 1)), .int (iI (lnw 30 (r * 2 ^ 1) : Int))]))) eF1 ?_
  refine J_aload_n 1 d_N_roundBy_5 rfl rfl ?_
  refine J_aload_n 2 d_N_roundBy_6 rfl rfl ?_
  refine J_callVi cw_N_72 nh_N_order pn_N_order rfl rfl (by omega) (by rw [va_up_self]) (As := [.ref (ad m)]) (rest := []) rfl (Nat.le_of_ble_eq_true rfl) ⟨by decide, by decide⟩ rfl ⟨by decide, by decide⟩ d_N_roundBy_7 (c_N_order hfl (k := p) (m := m) (a := (r * 2 ^ 1)) (b := d) (by omega) (by rw [va_up_self]) (by rw [va_up_ne _ _ (by omega), va_up_self]) hr2 (by omega) (by rw [va_up_ne _ _ (by omega), va_up_ne _ _ (by omega)]; exact dhF) (by rw [va_up_ne _ _ (by omega), va_up_ne _ _ (by omega)]; exact dhA) dh) (fun od F2 hq => ?_)
  obtain ⟨hod, eF2⟩ := hq
  have hrod := cmpN_rng (r * 2 ^ 1) d
  refine J_eqF eF2 ?_
  refine J_istore_n (lv' := [(3, .int (iI od)), (0, .ref (ad k)), (1, .ref (ad p)), (2, .ref (ad m))]) d_N_roundBy_10 rfl (by decide) rfl ?_
  have ho1 := cmpN_gt (a := r * 2 ^ 1) (b := d)
  have ho2 := cmpN_0 (a := r * 2 ^ 1) (b := d)
  refine J_iload_n 0 d_N_roundBy_11 rfl rfl ?_
  refine J_ifgt (tgt := 26) d_N_roundBy_12 (by decide) ⟨by omega, by omega⟩ (fun c12 => ?_) (fun c12 => ?_)
  · refine J_aload_n 1 d_N_roundBy_26 rfl rfl ?_
    refine J_iconst d_N_roundBy_27 ?_
    refine J_callVv cw_N_100 nh_N_addSmall pn_N_addSmall rfl rfl (by omega) (by rw [va_up_ne _ _ (by omega), va_up_ne _ _ (by omega)]; exact hF) (As := [.int (iI 1)]) (rest := []) rfl (Nat.le_of_ble_eq_true rfl) ⟨by decide, by decide⟩ rfl ⟨by decide, by decide⟩ d_N_roundBy_28 (c_N_addSmall hfl (k := k) (a := q) (n := 1) (by omega) (by rw [va_up_ne _ _ (by omega), va_up_ne _ _ (by omega)]; exact hF) (by rw [va_up_ne _ _ (by omega), va_up_ne _ _ (by omega)]; exact hA) h (by decide) hq1) (fun  F3 hq => ?_)
    have eF3 := hq
    refine J_eqF (F2 := va_up (va_up (va_up (va_up F (p + 1) (.inl (g 0, 16, .inl (aI (dg (r * 2 ^ 1)))))) p (.inr (2, [.ref (ad (p + 1)), .int (iI (lnw 30 (r * 2 ^ 1) : Int))]))) (k + 1) (.inl (g 0, 16, .inl (aI (dg (q + 1)))))) k (.inr (2, [.ref (ad (k + 1)), .int (iI (lnw 30 (q + 1) : Int))]))) eF3 ?_
    refine J_vret rfl d_N_roundBy_31 ⟨by decide, by decide⟩ ?_
    first
    | exact ⟨rfl, rfl, rfl, by rw [rnd, if_pos (by omega)]⟩
    | (refine ⟨rfl, rfl, rfl, ?_⟩
       rw [rnd, if_neg (by omega)]
       exact up_same2 (by rw [va_up_ne _ _ (by omega), va_up_ne _ _ (by omega)]; exact hA) (by rw [va_up_ne _ _ (by omega), va_up_ne _ _ (by omega)]; exact hF))
  · refine J_iload_n 0 d_N_roundBy_15 rfl rfl ?_
    refine J_ifne (tgt := 31) d_N_roundBy_16 (by decide) ⟨by omega, by omega⟩ (fun c16 => ?_) (fun c16 => ?_)
    · refine J_vret rfl d_N_roundBy_31 ⟨by decide, by decide⟩ ?_
      first
      | exact ⟨rfl, rfl, rfl, by rw [rnd, if_pos (by omega)]⟩
      | (refine ⟨rfl, rfl, rfl, ?_⟩
         rw [rnd, if_neg (by omega)]
         exact up_same2 (by rw [va_up_ne _ _ (by omega), va_up_ne _ _ (by omega)]; exact hA) (by rw [va_up_ne _ _ (by omega), va_up_ne _ _ (by omega)]; exact hF))
    · refine J_aload_n 1 d_N_roundBy_19 rfl rfl ?_
      refine J_callVi cw_N_97 nh_N_isOdd pn_N_isOdd rfl rfl (by omega) (by rw [va_up_ne _ _ (by omega), va_up_ne _ _ (by omega)]; exact hF) (As := []) (rest := []) rfl (Nat.le_of_ble_eq_true rfl) ⟨by decide, by decide⟩ rfl ⟨by decide, by decide⟩ d_N_roundBy_20 (c_N_isOdd hfl (k := k) (a := q) (by omega) (by rw [va_up_ne _ _ (by omega), va_up_ne _ _ (by omega)]; exact hF) (by rw [va_up_ne _ _ (by omega), va_up_ne _ _ (by omega)]; exact hA) h) (fun iod F4 hq => ?_)
      obtain ⟨hiod, eF4⟩ := hq
      refine J_eqF eF4 ?_
      refine J_ifeq (tgt := 31) d_N_roundBy_23 (by decide) ⟨by omega, by omega⟩ (fun c23 => ?_) (fun c23 => ?_)
      · refine J_vret rfl d_N_roundBy_31 ⟨by decide, by decide⟩ ?_
        first
        | exact ⟨rfl, rfl, rfl, by rw [rnd, if_pos (by omega)]⟩
        | (refine ⟨rfl, rfl, rfl, ?_⟩
           rw [rnd, if_neg (by omega)]
           exact up_same2 (by rw [va_up_ne _ _ (by omega), va_up_ne _ _ (by omega)]; exact hA) (by rw [va_up_ne _ _ (by omega), va_up_ne _ _ (by omega)]; exact hF))
      · refine J_aload_n 1 d_N_roundBy_26 rfl rfl ?_
        refine J_iconst d_N_roundBy_27 ?_
        refine J_callVv cw_N_100 nh_N_addSmall pn_N_addSmall rfl rfl (by omega) (by rw [va_up_ne _ _ (by omega), va_up_ne _ _ (by omega)]; exact hF) (As := [.int (iI 1)]) (rest := []) rfl (Nat.le_of_ble_eq_true rfl) ⟨by decide, by decide⟩ rfl ⟨by decide, by decide⟩ d_N_roundBy_28 (c_N_addSmall hfl (k := k) (a := q) (n := 1) (by omega) (by rw [va_up_ne _ _ (by omega), va_up_ne _ _ (by omega)]; exact hF) (by rw [va_up_ne _ _ (by omega), va_up_ne _ _ (by omega)]; exact hA) h (by decide) hq1) (fun  F5 hq => ?_)
        have eF5 := hq
        refine J_eqF (F2 := va_up (va_up (va_up (va_up F (p + 1) (.inl (g 0, 16, .inl (aI (dg (r * 2 ^ 1)))))) p (.inr (2, [.ref (ad (p + 1)), .int (iI (lnw 30 (r * 2 ^ 1) : Int))]))) (k + 1) (.inl (g 0, 16, .inl (aI (dg (q + 1)))))) k (.inr (2, [.ref (ad (k + 1)), .int (iI (lnw 30 (q + 1) : Int))]))) eF5 ?_
        refine J_vret rfl d_N_roundBy_31 ⟨by decide, by decide⟩ ?_
        first
        | exact ⟨rfl, rfl, rfl, by rw [rnd, if_pos (by omega)]⟩
        | (refine ⟨rfl, rfl, rfl, ?_⟩
           rw [rnd, if_neg (by omega)]
           exact up_same2 (by rw [va_up_ne _ _ (by omega), va_up_ne _ _ (by omega)]; exact hA) (by rw [va_up_ne _ _ (by omega), va_up_ne _ _ (by omega)]; exact hF))
set_option maxRecDepth 100000 in
set_option maxHeartbeats 4000000 in
theorem c_U_isThere {l : Launch} (hfl : l.flags = flags0) {D : va_G} {g : Nat → ClassId} {ad : Nat → Nat} {N : Nat} {F : Nat → va_E} {k n m : Nat} {kd sg : Int}
    (hk : k + 4 < N) (hF : F k = oU ad k kd sg) (uF : F (k + 1) = oN ad (k + 1) (lnw 30 n : Int)) (uA : F (k + 1 + 1) = aN g (dg n)) (uh : n < 2 ^ 480) (lF : F (k + 3) = oN ad (k + 3) (lnw 30 m : Int)) (lA : F (k + 3 + 1) = aN g (dg m)) (lh : m < 2 ^ 480) (hkd : inI kd) :
    JC l y_U_isThere b_U_isThere 1 (Option.some Jvm.ClassFile.FieldType.boolean) rm_U_isThere (0, 0) D jCl (jTys g) ad N F [.ref (ad k)] (ji ad N (fun z F' => ((z = 1 ∧ kd ≠ -1) ∨ (z = 0 ∧ kd = -1)) ∧ F' = F)) := by
  refine JC.go hfl (own := "NumberTower$Num") (lv := [(0, .ref (ad k))]) rfl (by decide +kernel) (Nat.le_of_ble_eq_true rfl) rfl (fun A => ?_)
  refine J_aload_n 0 d_U_isThere_0 rfl rfl ?_
  refine gf_U_9 (by omega) hF rfl d_U_isThere_1 ?_
  refine J_iconst d_U_isThere_4 ?_
  refine J_if_icmpeq (tgt := 12) d_U_isThere_5 (by decide) ⟨by omega, by omega⟩ ⟨by omega, by omega⟩ (fun c5 => ?_) (fun c5 => ?_)
  · refine J_iconst d_U_isThere_12 ?_
    refine J_iret rfl (nb01 (by omega)).1 d_U_isThere_13 ⟨by decide, by decide⟩ ?_
    exact ⟨_, rfl, rfl, rfl, by omega, rfl⟩
  · refine J_iconst d_U_isThere_8 ?_
    refine J_goto (tgt := 13) d_U_isThere_9 (by decide) ?_
    refine J_iret rfl (nb01 (by omega)).1 d_U_isThere_13 ⟨by decide, by decide⟩ ?_
    exact ⟨_, rfl, rfl, rfl, by omega, rfl⟩
set_option maxRecDepth 100000 in
set_option maxHeartbeats 4000000 in
theorem c_U_become {l : Launch} (hfl : l.flags = flags0) {D : va_G} {g : Nat → ClassId} {ad : Nat → Nat} {N : Nat} {F : Nat → va_E} {k n m p n2 m2 : Nat} {kd sg kd2 sg2 : Int}
    (hk : k + 4 < N) (hF : F k = oU ad k kd sg) (uF : F (k + 1) = oN ad (k + 1) (lnw 30 n : Int)) (uA : F (k + 1 + 1) = aN g (dg n)) (uh : n < 2 ^ 480) (lF : F (k + 3) = oN ad (k + 3) (lnw 30 m : Int)) (lA : F (k + 3 + 1) = aN g (dg m)) (lh : m < 2 ^ 480) (yhk : p + 4 < N) (yhF : F p = oU ad p kd2 sg2) (yuF : F (p + 1) = oN ad (p + 1) (lnw 30 n2 : Int)) (yuA : F (p + 1 + 1) = aN g (dg n2)) (yuh : n2 < 2 ^ 480) (ylF : F (p + 3) = oN ad (p + 3) (lnw 30 m2 : Int)) (ylA : F (p + 3 + 1) = aN g (dg m2)) (ylh : m2 < 2 ^ 480) (hd : k + 4 < p ∨ p + 4 < k) :
    JC l y_U_become b_U_become 2 (Option.none : Option Jvm.ClassFile.FieldType) rm_U_become (0, 0) D jCl (jTys g) ad N F [.ref (ad k), .ref (ad p)] (jv ad N (fun F' => F' = upU ad g F k kd2 sg2 n2 m2)) := by
  refine JC.go hfl (own := "NumberTower$Num") (lv := [(0, .ref (ad k)), (1, .ref (ad p))]) rfl (by decide +kernel) (Nat.le_of_ble_eq_true rfl) rfl (fun A => ?_)
  refine J_aload_n 0 d_U_become_0 rfl rfl ?_
  refine J_aload_n 1 d_U_become_1 rfl rfl ?_
  refine gf_U_9 (by omega) yhF rfl d_U_become_2 ?_
  refine pf_U_9 (by omega) hF (Nat.le_of_ble_eq_true rfl) d_U_become_5 ?_
  refine J_eqF (F2 := va_up F k (.inr (3, [.int (iI kd2), .int (iI sg), .ref (ad (k + 1)), .ref (ad (k + 3))]))) rfl ?_
  refine J_aload_n 0 d_U_become_8 rfl rfl ?_
  refine J_aload_n 1 d_U_become_9 rfl rfl ?_
  refine gf_U_25 (by omega) (by rw [va_up_ne _ _ (by omega)]; exact yhF) rfl d_U_become_10 ?_
  refine pf_U_25 (by omega) (by rw [va_up_self]) (Nat.le_of_ble_eq_true rfl) d_U_become_13 ?_
  refine J_eqF (F2 := va_up F k (.inr (3, [.int (iI kd2), .int (iI sg2), .ref (ad (k + 1)), .ref (ad (k + 3))]))) (up_in0) ?_
  refine J_aload_n 0 d_U_become_16 rfl rfl ?_
  refine gf_U_18 (by omega) (by rw [va_up_self]) rfl d_U_become_17 ?_
  refine J_aload_n 1 d_U_become_20 rfl rfl ?_
  refine gf_U_18 (by omega) (by rw [va_up_ne _ _ (by omega)]; exact yhF) rfl d_U_become_21 ?_
  refine J_callVv cw_U_28 nh_N_copyFrom pn_N_copyFrom rfl rfl (by omega) (by rw [va_up_ne _ _ (by omega)]; exact uF) (As := [.ref (ad (p + 1))]) (rest := []) rfl (Nat.le_of_ble_eq_true rfl) ⟨by decide, by decide⟩ rfl ⟨by decide, by decide⟩ d_U_become_24 (c_N_copyFrom hfl (k := k + 1) (m := p + 1) (a := n) (b := n2) (by omega) (by rw [va_up_ne _ _ (by omega)]; exact uF) (by rw [va_up_ne _ _ (by omega)]; exact uA) uh (by omega) (by rw [va_up_ne _ _ (by omega)]; exact yuF) (by rw [va_up_ne _ _ (by omega)]; exact yuA) yuh (by omega)) (fun  F1 hq => ?_)
  have eF1 := hq
  refine J_eqF (F2 := va_up (va_up (va_up F k (.inr (3, [.int (iI kd2), .int (iI sg2), .ref (ad (k + 1)), .ref (ad (k + 3))]))) (k + 1 + 1) (.inl (g 0, 16, .inl (aI (dg n2))))) (k + 1) (.inr (2, [.ref (ad (k + 1 + 1)), .int (iI (lnw 30 n2 : Int))]))) eF1 ?_
  refine J_aload_n 0 d_U_become_27 rfl rfl ?_
  refine gf_U_22 (by omega) (by rw [va_up_ne _ _ (by omega), va_up_ne _ _ (by omega), va_up_self]) rfl d_U_become_28 ?_
  refine J_aload_n 1 d_U_become_31 rfl rfl ?_
  refine gf_U_22 (by omega) (by rw [va_up_ne _ _ (by omega), va_up_ne _ _ (by omega), va_up_ne _ _ (by omega)]; exact yhF) rfl d_U_become_32 ?_
  refine J_callVv cw_U_28 nh_N_copyFrom pn_N_copyFrom rfl rfl (by omega) (by rw [va_up_ne _ _ (by omega), va_up_ne _ _ (by omega), va_up_ne _ _ (by omega)]; exact lF) (As := [.ref (ad (p + 3))]) (rest := []) rfl (Nat.le_of_ble_eq_true rfl) ⟨by decide, by decide⟩ rfl ⟨by decide, by decide⟩ d_U_become_35 (c_N_copyFrom hfl (k := k + 3) (m := p + 3) (a := m) (b := m2) (by omega) (by rw [va_up_ne _ _ (by omega), va_up_ne _ _ (by omega), va_up_ne _ _ (by omega)]; exact lF) (by rw [va_up_ne _ _ (by omega), va_up_ne _ _ (by omega), va_up_ne _ _ (by omega)]; exact lA) lh (by omega) (by rw [va_up_ne _ _ (by omega), va_up_ne _ _ (by omega), va_up_ne _ _ (by omega)]; exact ylF) (by rw [va_up_ne _ _ (by omega), va_up_ne _ _ (by omega), va_up_ne _ _ (by omega)]; exact ylA) ylh (by omega)) (fun  F2 hq => ?_)
  have eF2 := hq
  refine J_eqF (F2 := va_up (va_up (va_up (va_up (va_up F k (.inr (3, [.int (iI kd2), .int (iI sg2), .ref (ad (k + 1)), .ref (ad (k + 3))]))) (k + 1 + 1) (.inl (g 0, 16, .inl (aI (dg n2))))) (k + 1) (.inr (2, [.ref (ad (k + 1 + 1)), .int (iI (lnw 30 n2 : Int))]))) (k + 3 + 1) (.inl (g 0, 16, .inl (aI (dg m2))))) (k + 3) (.inr (2, [.ref (ad (k + 3 + 1)), .int (iI (lnw 30 m2 : Int))]))) eF2 ?_
  refine J_vret rfl d_U_become_38 ⟨by decide, by decide⟩ ?_
  exact ⟨rfl, rfl, rfl, rfl⟩
set_option maxRecDepth 100000 in
set_option maxHeartbeats 4000000 in
theorem c_U_setWhole {l : Launch} (hfl : l.flags = flags0) {D : va_G} {g : Nat → ClassId} {ad : Nat → Nat} {N : Nat} {F : Nat → va_E} {k n m : Nat} {kd sg : Int} {v : Int}
    (hk : k + 4 < N) (hF : F k = oU ad k kd sg) (uF : F (k + 1) = oN ad (k + 1) (lnw 30 n : Int)) (uA : F (k + 1 + 1) = aN g (dg n)) (lF : F (k + 3) = oN ad (k + 3) (lnw 30 m : Int)) (lA : F (k + 3 + 1) = aN g (dg m)) (hv : inL v) :
    JC l y_U_setWhole b_U_setWhole 3 (Option.none : Option Jvm.ClassFile.FieldType) rm_U_setWhole (0, 0) D jCl (jTys g) ad N F [.ref (ad k), .long (lI v)] (jv ad N (fun F' => F' = upU ad g F k 0 v.sign v.natAbs 1)) := by
  refine JC.go hfl (own := "NumberTower$Num") (lv := [(0, .ref (ad k)), (1, .long (lI v))]) rfl (by decide +kernel) (Nat.le_of_ble_eq_true rfl) rfl (fun A => ?_)
  refine J_aload_n 0 d_U_setWhole_0 rfl rfl ?_
  refine J_iconst d_U_setWhole_1 ?_
  refine pf_U_9 (by omega) hF (Nat.le_of_ble_eq_true rfl) d_U_setWhole_2 ?_
  refine J_eqF (F2 := va_up F k (.inr (3, [.int (iI 0), .int (iI sg), .ref (ad (k + 1)), .ref (ad (k + 3))]))) rfl ?_
  refine J_aload_n 0 d_U_setWhole_5 rfl rfl ?_
  refine J_lload_n 1 d_U_setWhole_6 rfl rfl ?_
  refine J_lconst (v := 0) d_U_setWhole_7 rfl ?_
  refine J_callSi cw_U_32 nh_JLong_compare pn_JLong_compare rfl (As := [.long (lI v), .long (lI 0)]) (rest := [.ref (ad k)]) rfl (Nat.le_of_ble_eq_true rfl) ⟨by decide, by decide⟩ rfl ⟨by decide, by decide⟩ d_U_setWhole_8 (c_JLong_compare hfl hv ⟨by omega, by omega⟩) (fun cm F1 hq => ?_)
  obtain ⟨hcm, eF1⟩ := hq
  refine J_eqF eF1 ?_
  refine J_topi (r := v.sign) (congrArg iI (by
    rcases hcm with ⟨h1, h2⟩ | ⟨h1, h2⟩ | ⟨h1, h2⟩
    · rw [Int.sign_eq_neg_one_of_neg h1]; exact h2
    · rw [h1]; exact h2
    · rw [Int.sign_eq_one_of_pos h1]; exact h2)) ?_
  refine pf_U_25 (by omega) (by rw [va_up_self]) (Nat.le_of_ble_eq_true rfl) d_U_setWhole_11 ?_
  refine J_eqF (F2 := va_up F k (.inr (3, [.int (iI 0), .int (iI v.sign), .ref (ad (k + 1)), .ref (ad (k + 3))]))) (up_in0) ?_
  refine J_aload_n 0 d_U_setWhole_14 rfl rfl ?_
  refine gf_U_18 (by omega) (by rw [va_up_self]) rfl d_U_setWhole_15 ?_
  refine J_lload_n 1 d_U_setWhole_18 rfl rfl ?_
  refine J_lconst (v := 0) d_U_setWhole_19 rfl ?_
  refine J_lcmpge (tgt := 29) d_U_setWhole_20 d_U_setWhole_21 (by decide) ⟨by omega, by omega⟩ ⟨by omega, by omega⟩ (fun c20 => ?_) (fun c20 => ?_)
  · refine J_lload_n 1 d_U_setWhole_29 rfl rfl ?_
    refine J_topl (r := (v.natAbs : Int)) (congrArg lI (by omega)) ?_
    refine J_callVv cw_U_38 nh_N_set pn_N_set rfl rfl (by omega) (by rw [va_up_ne _ _ (by omega)]; exact uF) (As := [.long (lI (v.natAbs : Int))]) (rest := []) rfl (Nat.le_of_ble_eq_true rfl) ⟨by decide, by decide⟩ rfl ⟨by decide, by decide⟩ d_U_setWhole_30 (c_N_set hfl (k := k + 1) (n := v.natAbs) (by omega) (by rw [va_up_ne _ _ (by omega)]; exact uF) (by rw [va_up_ne _ _ (by omega)]; exact uA) (by omega)) (fun  F2 hq => ?_)
    have eF2 := hq
    refine J_eqF (F2 := va_up (va_up (va_up F k (.inr (3, [.int (iI 0), .int (iI v.sign), .ref (ad (k + 1)), .ref (ad (k + 3))]))) (k + 1 + 1) (.inl (g 0, 16, .inl (aI (dg v.natAbs))))) (k + 1) (.inr (2, [.ref (ad (k + 1 + 1)), .int (iI (lnw 30 v.natAbs : Int))]))) eF2 ?_
    refine J_aload_n 0 d_U_setWhole_33 rfl rfl ?_
    refine gf_U_22 (by omega) (by rw [va_up_ne _ _ (by omega), va_up_ne _ _ (by omega), va_up_self]) rfl d_U_setWhole_34 ?_
    refine J_lconst (v := 1) d_U_setWhole_37 rfl ?_
    refine J_callVv cw_U_38 nh_N_set pn_N_set rfl rfl (by omega) (by rw [va_up_ne _ _ (by omega), va_up_ne _ _ (by omega), va_up_ne _ _ (by omega)]; exact lF) (As := [.long (lI 1)]) (rest := []) rfl (Nat.le_of_ble_eq_true rfl) ⟨by decide, by decide⟩ rfl ⟨by decide, by decide⟩ d_U_setWhole_38 (c_N_set hfl (k := k + 3) (n := 1) (by omega) (by rw [va_up_ne _ _ (by omega), va_up_ne _ _ (by omega), va_up_ne _ _ (by omega)]; exact lF) (by rw [va_up_ne _ _ (by omega), va_up_ne _ _ (by omega), va_up_ne _ _ (by omega)]; exact lA) (by decide)) (fun  F3 hq => ?_)
    have eF3 := hq
    refine J_eqF (F2 := va_up (va_up (va_up (va_up (va_up F k (.inr (3, [.int (iI 0), .int (iI v.sign), .ref (ad (k + 1)), .ref (ad (k + 3))]))) (k + 1 + 1) (.inl (g 0, 16, .inl (aI (dg v.natAbs))))) (k + 1) (.inr (2, [.ref (ad (k + 1 + 1)), .int (iI (lnw 30 v.natAbs : Int))]))) (k + 3 + 1) (.inl (g 0, 16, .inl (aI (dg 1))))) (k + 3) (.inr (2, [.ref (ad (k + 3 + 1)), .int (iI (lnw 30 1 : Int))]))) eF3 ?_
    refine J_vret rfl d_U_setWhole_41 ⟨by decide, by decide⟩ ?_
    exact ⟨rfl, rfl, rfl, rfl⟩
  · refine J_lload_n 1 d_U_setWhole_24 rfl rfl ?_
    refine J_lneg d_U_setWhole_25 ?_
    refine J_goto (tgt := 30) d_U_setWhole_26 (by decide) ?_
    refine J_topl (r := (v.natAbs : Int)) (congrArg lI (by omega)) ?_
    refine J_callVv cw_U_38 nh_N_set pn_N_set rfl rfl (by omega) (by rw [va_up_ne _ _ (by omega)]; exact uF) (As := [.long (lI (v.natAbs : Int))]) (rest := []) rfl (Nat.le_of_ble_eq_true rfl) ⟨by decide, by decide⟩ rfl ⟨by decide, by decide⟩ d_U_setWhole_30 (c_N_set hfl (k := k + 1) (n := v.natAbs) (by omega) (by rw [va_up_ne _ _ (by omega)]; exact uF) (by rw [va_up_ne _ _ (by omega)]; exact uA) (by omega)) (fun  F4 hq => ?_)
    have eF4 := hq
    refine J_eqF (F2 := va_up (va_up (va_up F k (.inr (3, [.int (iI 0), .int (iI v.sign), .ref (ad (k + 1)), .ref (ad (k + 3))]))) (k + 1 + 1) (.inl (g 0, 16, .inl (aI (dg v.natAbs))))) (k + 1) (.inr (2, [.ref (ad (k + 1 + 1)), .int (iI (lnw 30 v.natAbs : Int))]))) eF4 ?_
    refine J_aload_n 0 d_U_setWhole_33 rfl rfl ?_
    refine gf_U_22 (by omega) (by rw [va_up_ne _ _ (by omega), va_up_ne _ _ (by omega), va_up_self]) rfl d_U_setWhole_34 ?_
    refine J_lconst (v := 1) d_U_setWhole_37 rfl ?_
    refine J_callVv cw_U_38 nh_N_set pn_N_set rfl rfl (by omega) (by rw [va_up_ne _ _ (by omega), va_up_ne _ _ (by omega), va_up_ne _ _ (by omega)]; exact lF) (As := [.long (lI 1)]) (rest := []) rfl (Nat.le_of_ble_eq_true rfl) ⟨by decide, by decide⟩ rfl ⟨by decide, by decide⟩ d_U_setWhole_38 (c_N_set hfl (k := k + 3) (n := 1) (by omega) (by rw [va_up_ne _ _ (by omega), va_up_ne _ _ (by omega), va_up_ne _ _ (by omega)]; exact lF) (by rw [va_up_ne _ _ (by omega), va_up_ne _ _ (by omega), va_up_ne _ _ (by omega)]; exact lA) (by decide)) (fun  F5 hq => ?_)
    have eF5 := hq
    refine J_eqF (F2 := va_up (va_up (va_up (va_up (va_up F k (.inr (3, [.int (iI 0), .int (iI v.sign), .ref (ad (k + 1)), .ref (ad (k + 3))]))) (k + 1 + 1) (.inl (g 0, 16, .inl (aI (dg v.natAbs))))) (k + 1) (.inr (2, [.ref (ad (k + 1 + 1)), .int (iI (lnw 30 v.natAbs : Int))]))) (k + 3 + 1) (.inl (g 0, 16, .inl (aI (dg 1))))) (k + 3) (.inr (2, [.ref (ad (k + 3 + 1)), .int (iI (lnw 30 1 : Int))]))) eF5 ?_
    refine J_vret rfl d_U_setWhole_41 ⟨by decide, by decide⟩ ?_
    exact ⟨rfl, rfl, rfl, rfl⟩
set_option maxRecDepth 100000 in
set_option maxHeartbeats 4000000 in
theorem c_U_small {l : Launch} (hfl : l.flags = flags0) {D : va_G} {g : Nat → ClassId} {ad : Nat → Nat} {N : Nat} {F : Nat → va_E} {k n m : Nat} {kd sg : Int}
    (hk : k + 4 < N) (hF : F k = oU ad k kd sg) (uF : F (k + 1) = oN ad (k + 1) (lnw 30 n : Int)) (uA : F (k + 1 + 1) = aN g (dg n)) (uh : n < 2 ^ 480) (lF : F (k + 3) = oN ad (k + 3) (lnw 30 m : Int)) (lA : F (k + 3 + 1) = aN g (dg m)) (lh : m < 2 ^ 480) :
    JC l y_U_small b_U_small 1 (Option.some Jvm.ClassFile.FieldType.int) rm_U_small (0, 0) D jCl (jTys g) ad N F [.ref (ad k)] (ji ad N (fun z F' => z = sg * dg n 0 ∧ F' = F)) := by
  refine JC.go hfl (own := "NumberTower$Num") (lv := [(0, .ref (ad k))]) rfl (by decide +kernel) (Nat.le_of_ble_eq_true rfl) rfl (fun A => ?_)
  refine J_aload_n 0 d_U_small_0 rfl rfl ?_
  refine gf_U_25 (by omega) hF rfl d_U_small_1 ?_
  refine J_aload_n 0 d_U_small_4 rfl rfl ?_
  refine gf_U_18 (by omega) hF rfl d_U_small_5 ?_
  refine gf_U_70 (by omega) uF rfl d_U_small_8 ?_
  refine J_iconst d_U_small_11 ?_
  refine J_iaload 0 rfl (by omega) uA (by omega) d_U_small_12 ?_
  refine J_topi (r := (dg n) 0) (congrArg (fun q => iI ((dg n) q)) (by omega)) ?_
  refine J_imul d_U_small_13 ?_
  refine J_iret rfl rfl d_U_small_14 ⟨by decide, by decide⟩ ?_
  exact ⟨_, rfl, rfl, rfl, rfl, rfl⟩
set_option maxRecDepth 100000 in
set_option maxHeartbeats 4000000 in
theorem c_U_isWholeWithin {l : Launch} (hfl : l.flags = flags0) {D : va_G} {g : Nat → ClassId} {ad : Nat → Nat} {N : Nat} {F : Nat → va_E} {k n m : Nat} {kd sg : Int} {a b : Int}
    (hk : k + 4 < N) (hF : F k = oU ad k kd sg) (uF : F (k + 1) = oN ad (k + 1) (lnw 30 n : Int)) (uA : F (k + 1 + 1) = aN g (dg n)) (uh : n < 2 ^ 480) (lF : F (k + 3) = oN ad (k + 3) (lnw 30 m : Int)) (lA : F (k + 3 + 1) = aN g (dg m)) (lh : m < 2 ^ 480) (hkd : inI kd) (hsg : -1 ≤ sg ∧ sg ≤ 1) (h0 : sg = 0 ↔ n = 0) (hab : -1073741823 ≤ a ∧ b ≤ 1073741823 ∧ inI a ∧ inI b) :
    JC l y_U_isWholeWithin b_U_isWholeWithin 3 (Option.some Jvm.ClassFile.FieldType.boolean) rm_U_isWholeWithin (0, 0) D jCl (jTys g) ad N F [.ref (ad k), .int (iI a), .int (iI b)] (ji ad N (fun z F' => ((z = 1 ∧ kd = 0 ∧ a ≤ sg * n ∧ sg * n ≤ b ∧ dg n 0 = n) ∨ (z = 0 ∧ ¬(kd = 0 ∧ a ≤ sg * n ∧ sg * n ≤ b))) ∧ F' = F)) := by
  have l1 := cn_16 uh
  have l2 := small_in (t := n) hsg
  have l3 := small_big hsg h0
  have l4 := dg_one (t := n)
  refine JC.go hfl (own := "NumberTower$Num") (lv := [(0, .ref (ad k)), (1, .int (iI a)), (2, .int (iI b))]) rfl (by decide +kernel) (Nat.le_of_ble_eq_true rfl) rfl (fun A => ?_)
  refine J_aload_n 0 d_U_isWholeWithin_0 rfl rfl ?_
  refine gf_U_9 (by omega) hF rfl d_U_isWholeWithin_1 ?_
  refine J_ifne (tgt := 38) d_U_isWholeWithin_4 (by decide) ⟨by omega, by omega⟩ (fun c4 => ?_) (fun c4 => ?_)
  · refine J_iconst d_U_isWholeWithin_38 ?_
    refine J_iret rfl (nb01 (by omega)).1 d_U_isWholeWithin_39 ⟨by decide, by decide⟩ ?_
    refine ⟨_, rfl, rfl, rfl, ?_, rfl⟩
    by_cases q : lnw 30 n ≤ 1
    · have l5 := l4 q
      first
      | (refine Or.inl ⟨rfl, by omega, ?_, ?_, l5⟩ <;> rw [← l5] <;> omega)
      | (refine Or.inr ⟨rfl, ?_⟩; rw [← l5]; omega)
    · have := l3 q
      first
      | exact Or.inr ⟨rfl, by omega⟩
      | (exfalso; omega)
  · refine J_aload_n 0 d_U_isWholeWithin_7 rfl rfl ?_
    refine gf_U_18 (by omega) hF rfl d_U_isWholeWithin_8 ?_
    refine gf_U_63 (by omega) uF rfl d_U_isWholeWithin_11 ?_
    refine J_iconst d_U_isWholeWithin_14 ?_
    refine J_if_icmpgt (tgt := 38) d_U_isWholeWithin_15 (by decide) ⟨by omega, by omega⟩ ⟨by omega, by omega⟩ (fun c15 => ?_) (fun c15 => ?_)
    · refine J_iconst d_U_isWholeWithin_38 ?_
      refine J_iret rfl (nb01 (by omega)).1 d_U_isWholeWithin_39 ⟨by decide, by decide⟩ ?_
      refine ⟨_, rfl, rfl, rfl, ?_, rfl⟩
      by_cases q : lnw 30 n ≤ 1
      · have l5 := l4 q
        first
        | (refine Or.inl ⟨rfl, by omega, ?_, ?_, l5⟩ <;> rw [← l5] <;> omega)
        | (refine Or.inr ⟨rfl, ?_⟩; rw [← l5]; omega)
      · have := l3 q
        first
        | exact Or.inr ⟨rfl, by omega⟩
        | (exfalso; omega)
    · refine J_aload_n 0 d_U_isWholeWithin_18 rfl rfl ?_
      refine J_callVi cw_U_66 nh_U_small pn_U_small rfl rfl (by omega) hF (As := []) (rest := []) rfl (Nat.le_of_ble_eq_true rfl) ⟨by decide, by decide⟩ rfl ⟨by decide, by decide⟩ d_U_isWholeWithin_19 (c_U_small hfl hk hF uF uA uh lF lA lh) (fun s19 F1 hq => ?_)
      obtain ⟨hs19, eF1⟩ := hq
      refine J_eqF eF1 ?_
      refine J_iload_n 1 d_U_isWholeWithin_22 rfl rfl ?_
      refine J_if_icmplt (tgt := 38) d_U_isWholeWithin_23 (by decide) ⟨by omega, by omega⟩ ⟨by omega, by omega⟩ (fun c23 => ?_) (fun c23 => ?_)
      · refine J_iconst d_U_isWholeWithin_38 ?_
        refine J_iret rfl (nb01 (by omega)).1 d_U_isWholeWithin_39 ⟨by decide, by decide⟩ ?_
        refine ⟨_, rfl, rfl, rfl, ?_, rfl⟩
        by_cases q : lnw 30 n ≤ 1
        · have l5 := l4 q
          first
          | (refine Or.inl ⟨rfl, by omega, ?_, ?_, l5⟩ <;> rw [← l5] <;> omega)
          | (refine Or.inr ⟨rfl, ?_⟩; rw [← l5]; omega)
        · have := l3 q
          first
          | exact Or.inr ⟨rfl, by omega⟩
          | (exfalso; omega)
      · refine J_aload_n 0 d_U_isWholeWithin_26 rfl rfl ?_
        refine J_callVi cw_U_66 nh_U_small pn_U_small rfl rfl (by omega) hF (As := []) (rest := []) rfl (Nat.le_of_ble_eq_true rfl) ⟨by decide, by decide⟩ rfl ⟨by decide, by decide⟩ d_U_isWholeWithin_27 (c_U_small hfl hk hF uF uA uh lF lA lh) (fun s27 F2 hq => ?_)
        obtain ⟨hs27, eF2⟩ := hq
        refine J_eqF eF2 ?_
        refine J_iload_n 2 d_U_isWholeWithin_30 rfl rfl ?_
        refine J_if_icmpgt (tgt := 38) d_U_isWholeWithin_31 (by decide) ⟨by omega, by omega⟩ ⟨by omega, by omega⟩ (fun c31 => ?_) (fun c31 => ?_)
        · refine J_iconst d_U_isWholeWithin_38 ?_
          refine J_iret rfl (nb01 (by omega)).1 d_U_isWholeWithin_39 ⟨by decide, by decide⟩ ?_
          refine ⟨_, rfl, rfl, rfl, ?_, rfl⟩
          by_cases q : lnw 30 n ≤ 1
          · have l5 := l4 q
            first
            | (refine Or.inl ⟨rfl, by omega, ?_, ?_, l5⟩ <;> rw [← l5] <;> omega)
            | (refine Or.inr ⟨rfl, ?_⟩; rw [← l5]; omega)
          · have := l3 q
            first
            | exact Or.inr ⟨rfl, by omega⟩
            | (exfalso; omega)
        · refine J_iconst d_U_isWholeWithin_34 ?_
          refine J_goto (tgt := 39) d_U_isWholeWithin_35 (by decide) ?_
          refine J_iret rfl (nb01 (by omega)).1 d_U_isWholeWithin_39 ⟨by decide, by decide⟩ ?_
          refine ⟨_, rfl, rfl, rfl, ?_, rfl⟩
          by_cases q : lnw 30 n ≤ 1
          · have l5 := l4 q
            first
            | (refine Or.inl ⟨rfl, by omega, ?_, ?_, l5⟩ <;> rw [← l5] <;> omega)
            | (refine Or.inr ⟨rfl, ?_⟩; rw [← l5]; omega)
          · have := l3 q
            first
            | exact Or.inr ⟨rfl, by omega⟩
            | (exfalso; omega)
