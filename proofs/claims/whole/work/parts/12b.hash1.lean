/-! the Model: hashes -/
theorem mbit0 {a b i : Nat} (h : b / 2 ^ i % 2 = 0) : a * (b / 2 ^ i) % 2305843009213693951 = 2 * (a * (b / 2 ^ (i + 1)) % 2305843009213693951) % 2305843009213693951 := by
  have e : b / 2 ^ i = 2 * (b / 2 ^ (i + 1)) := by
    rw [Nat.pow_succ, ← Nat.div_div_eq_div_mul]; omega
  rw [e, Nat.mul_left_comm, Nat.mul_mod 2, Nat.mul_mod 2, Nat.mod_mod]
theorem mbit1 {a b i : Nat} (h : b / 2 ^ i % 2 = 1) : a * (b / 2 ^ i) % 2305843009213693951 = (2 * (a * (b / 2 ^ (i + 1)) % 2305843009213693951) % 2305843009213693951 + a) % 2305843009213693951 := by
  have e : b / 2 ^ i = 2 * (b / 2 ^ (i + 1)) + 1 := by
    rw [Nat.pow_succ, ← Nat.div_div_eq_div_mul]; omega
  rw [e, Nat.mul_add, Nat.mul_one, Nat.mul_left_comm, Nat.add_mod, Nat.add_mod (_ % _) a, Nat.mod_mod, Nat.mul_mod 2, Nat.mul_mod 2 (_ % _), Nat.mod_mod]
theorem mdig {x i : Nat} : dgt 28 x (i / 28) / 2 ^ (i % 28) % 2 = x / 2 ^ i % 2 := by
  have h1 : ((dgt 28 x (i / 28)).testBit (i % 28)) = x.testBit i := by
    rw [dgt_bit, show 28 * (i / 28) + i % 28 = i by omega]
    simp [Nat.mod_lt i (show 28 > 0 by decide)]
  rw [Nat.testBit_eq_decide_div_mod_eq, Nat.testBit_eq_decide_div_mod_eq, decide_eq_decide] at h1
  omega
theorem mhalf {x i : Nat} : x / 2 ^ i % 2305843009213693951 = (2 * (x / 2 ^ (i + 1) % 2305843009213693951) % 2305843009213693951 + x / 2 ^ i % 2) % 2305843009213693951 := by
  have e : x / 2 ^ i = 2 * (x / 2 ^ (i + 1)) + x / 2 ^ i % 2 := by
    rw [Nat.pow_succ, ← Nat.div_div_eq_div_mul]; omega
  generalize x / 2 ^ i % 2 = t at *
  rw [e]
  generalize x / 2 ^ (i + 1) = y
  omega
theorem pbit0 {d C i m : Nat} (h : C / 2 ^ i % 2 = 0) : d ^ (C / 2 ^ i) % m = d ^ (C / 2 ^ (i + 1)) % m * (d ^ (C / 2 ^ (i + 1)) % m) % m := by
  have e : C / 2 ^ i = 2 * (C / 2 ^ (i + 1)) := by
    rw [Nat.pow_succ, ← Nat.div_div_eq_div_mul]; omega
  rw [pm_sq, ← e]
theorem pbit1 {d C i m : Nat} (h : C / 2 ^ i % 2 = 1) : d ^ (C / 2 ^ i) % m = d ^ (C / 2 ^ (i + 1)) % m * (d ^ (C / 2 ^ (i + 1)) % m) % m * d % m := by
  have e : C / 2 ^ i = 2 * (C / 2 ^ (i + 1)) + 1 := by
    rw [Nat.pow_succ, ← Nat.div_div_eq_div_mul]; omega
  rw [pm_sq, pm_mul, ← e]
theorem two_M : ∀ e, ¬ 2305843009213693951 ∣ 2 ^ e
  | 0 => by decide
  | e + 1 => fun h => by
    rw [Nat.pow_succ] at h
    rcases prm_mul prm_M h with q | q
    · exact two_M e q
    · exact absurd q (by decide)
theorem gcd_M {d : Nat} : Nat.gcd (d % 2305843009213693951) 2305843009213693951 = 1 ↔ d % 2305843009213693951 ≠ 0 := by
  constructor
  · intro h z
    rw [z, Nat.gcd_zero_left] at h
    exact absurd h (by decide)
  · intro h
    refine prm_cop prm_M (fun hd => ?_)
    have := Nat.le_of_dvd (Nat.pos_of_ne_zero h) hd
    have := Nat.mod_lt d (show 2305843009213693951 > 0 by decide)
    omega
/-- the hash of a number out of any of its ratios -/
theorem hash_r {sg : Int} {x y U Y t : Nat} (h : U * y = x * Y) (hY : Y % 2305843009213693951 ≠ 0) (hy : y % 2305843009213693951 ≠ 0) (ht : Y % 2305843009213693951 * t % 2305843009213693951 = 1) :
    ∃ v, v < 2305843009213693951 ∧ y % 2305843009213693951 * v % 2305843009213693951 = 1 % 2305843009213693951 ∧ U % 2305843009213693951 * (t % 2305843009213693951) % 2305843009213693951 = x % 2305843009213693951 * v % 2305843009213693951 := by
  generalize hM : 2305843009213693951 = m at *
  have hm0 : 0 < m := by omega
  obtain ⟨v, hv⟩ : ∃ v, y * v % m = 1 := by
    subst hM
    exact ⟨_, inv_M (fun hd => hy (Nat.mod_eq_zero_of_dvd hd))⟩
  have hm1 : 1 % m = 1 := Nat.mod_eq_of_lt (by omega)
  refine ⟨v % m, Nat.mod_lt _ hm0, by rw [← Nat.mul_mod, hv, hm1], ?_⟩
  rw [← Nat.mul_mod, ← Nat.mul_mod]
  rw [Nat.mod_mul_mod] at ht
  have e1 : U * t % m = U * t * (y * v) % m := by rw [Nat.mul_mod (U * t), hv, Nat.mul_one, Nat.mod_mod]
  have e2 : U * t * (y * v) = (x * v) * (Y * t) := by
    have : U * t * (y * v) = (U * y) * (t * v) := by ac_rfl
    rw [this, h]; ac_rfl
  rw [e1, e2, Nat.mul_mod (x * v), ht, Nat.mul_one, Nat.mod_mod]
set_option maxRecDepth 100000 in
set_option maxHeartbeats 4000000 in
theorem c_M_twice {l : Launch} (hfl : l.flags = flags0) {D : va_G} {g : Nat → ClassId} {ad : Nat → Nat} {N : Nat} {F : Nat → va_E} {a : Nat}
    (ha : a < 2305843009213693951) :
    JC l y_M_twice b_M_twice 4 (Option.some Jvm.ClassFile.FieldType.long) rm_M_twice (0, 0) D jCl (jTys g) ad N F [.long (lI (a : Int))] (jl ad N (fun z F' => z = ((2 * a % 2305843009213693951 : Nat) : Int) ∧ F' = F)) := by
  refine JC.go hfl (own := "NumberTowerModel") (lv := [(0, .long (lI (a : Int)))]) rfl (by decide +kernel) (Nat.le_of_ble_eq_true rfl) rfl (fun A => ?_)
  refine J_lload_n 0 d_M_twice_0 rfl rfl ?_
  refine J_lload_n 0 d_M_twice_1 rfl rfl ?_
  refine J_ladd d_M_twice_2 ?_
  refine J_lstore_n (lv' := [(2, .long (lI ((a : Int) + (a : Int)))), (0, .long (lI (a : Int)))]) d_M_twice_3 rfl (by decide) rfl ?_
  refine J_lload_n 0 d_M_twice_4 rfl rfl ?_
  refine J_ldc2 (z := 2305843009213693951) d_M_twice_5 wd_1306 (by decide) ?_
  refine J_lcmplt (tgt := 20) d_M_twice_8 d_M_twice_9 (by decide) ⟨by omega, by omega⟩ ⟨by omega, by omega⟩ (fun c8 => ?_) (fun c8 => ?_)
  · refine J_lload_n 0 d_M_twice_20 rfl rfl ?_
    refine J_lret rfl d_M_twice_21 ⟨by decide, by decide⟩ ?_
    exact ⟨_, rfl, rfl, rfl, by omega, rfl⟩
  · refine J_lload_n 0 d_M_twice_12 rfl rfl ?_
    refine J_ldc2 (z := 2305843009213693951) d_M_twice_13 wd_1306 (by decide) ?_
    refine J_lsub d_M_twice_16 ?_
    refine J_topl (r := (a : Int) + (a : Int) - 2305843009213693951) (congrArg lI (by omega)) ?_
    refine J_goto (tgt := 21) d_M_twice_17 (by decide) ?_
    refine J_lret rfl d_M_twice_21 ⟨by decide, by decide⟩ ?_
    exact ⟨_, rfl, rfl, rfl, by omega, rfl⟩
set_option maxRecDepth 100000 in
set_option maxHeartbeats 4000000 in
theorem c_M_multiplied {l : Launch} (hfl : l.flags = flags0) {D : va_G} {g : Nat → ClassId} {ad : Nat → Nat} {N : Nat} {F : Nat → va_E} {a b : Nat}
    (ha : a < 2305843009213693951) (hb : b < 2305843009213693951) :
    JC l y_M_multiplied b_M_multiplied 7 (Option.some Jvm.ClassFile.FieldType.long) rm_M_multiplied (0, 0) D jCl (jTys g) ad N F [.long (lI (a : Int)), .long (lI (b : Int))] (jl ad N (fun z F' => z = ((a * b % 2305843009213693951 : Nat) : Int) ∧ F' = F)) := by
  refine JC.go hfl (own := "NumberTowerModel") (lv := [(0, .long (lI (a : Int))), (2, .long (lI (b : Int)))]) rfl (by decide +kernel) (Nat.le_of_ble_eq_true rfl) rfl (fun A => ?_)
  refine J_lconst (v := 0) d_M_multiplied_0 rfl ?_
  refine J_lstore (lv' := [(4, .long (lI 0)), (0, .long (lI (a : Int))), (2, .long (lI (b : Int)))]) d_M_multiplied_1 (by decide) rfl ?_
  refine J_bipush d_M_multiplied_3 (i8_ok (by decide)) ?_
  refine J_istore (lv' := [(6, .int (iI 60)), (4, .long (lI 0)), (0, .long (lI (a : Int))), (2, .long (lI (b : Int)))]) d_M_multiplied_5 (by decide) rfl ?_
  refine J_pick (lv' := [(0, .long (lI (a : Int))), (2, .long (lI (b : Int))), (4, .long (lI 0)), (6, .int (iI 60))]) [2, 3, 1, 0] rfl ?_
  have loop7 : ∀ (fuel : Nat) (i : Int) (v : Nat) (h1 : -1 ≤ i ∧ i ≤ 60) (hv : v = a * (b / 2 ^ (i + 1).toNat) % 2305843009213693951) (hfu : (i + 1).toNat < fuel), J l rm_M_multiplied (0, 0) "NumberTowerModel" b_M_multiplied 7 (Option.some Jvm.ClassFile.FieldType.long) D jCl (jTys g) A (fun _ me => me.name = y_M_multiplied.name) (jl ad N (fun z F' => z = ((a * b % 2305843009213693951 : Nat) : Int) ∧ F' = F)) ad N 0 0 7 [(0, .long (lI (a : Int))), (2, .long (lI (b : Int))), (4, .long (lI (v : Int))), (6, .int (iI i))] [] F := by
    intro fuel
    induction fuel with
    | zero => intro i v h1 hv hfu; exact absurd hfu (Nat.not_lt_zero _)
    | succ fuel ih =>
      intro i v h1 hv hfu
      have hvM : v < 2305843009213693951 := by rw [hv]; exact Nat.mod_lt _ (by decide)
      have hb2 : b / 2 ^ i.toNat % 2 = 0 ∨ b / 2 ^ i.toNat % 2 = 1 := by omega
      refine J_iload 3 d_M_multiplied_7 rfl ?_
      refine J_iflt (tgt := 67) d_M_multiplied_9 (by decide) ⟨by omega, by omega⟩ (fun c9 => ?_) (fun c9 => ?_)
      · refine J_lload 2 d_M_multiplied_67 rfl ?_
        refine J_lret rfl d_M_multiplied_69 ⟨by decide, by decide⟩ ?_
        refine ⟨_, rfl, rfl, rfl, ?_, rfl⟩
        rw [hv, show (i + 1).toNat = 0 by omega, Nat.pow_zero, Nat.div_one]
      · refine J_lload 2 d_M_multiplied_12 rfl ?_
        refine J_callSl cw_M_224 nh_M_twice pn_M_twice rfl (As := [.long (lI (v : Int))]) (rest := []) rfl (Nat.le_of_ble_eq_true rfl) ⟨by decide, by decide⟩ rfl ⟨by decide, by decide⟩ d_M_multiplied_14 (c_M_twice hfl (a := v) hvM) (fun z1 F1 hq => ?_)
        obtain ⟨hz1, eF1⟩ := hq
        refine J_eqF eF1 ?_
        refine J_topl (r := ((2 * v % 2305843009213693951 : Nat) : Int)) (congrArg lI hz1) ?_
        refine J_lstore (lv' := [(4, .long (lI ((2 * v % 2305843009213693951 : Nat) : Int))), (0, .long (lI (a : Int))), (2, .long (lI (b : Int))), (6, .int (iI i))]) d_M_multiplied_17 (by decide) rfl ?_
        refine J_lload_n 2 d_M_multiplied_19 rfl rfl ?_
        refine J_iload 3 d_M_multiplied_20 rfl ?_
        refine J_topi (r := ((i.toNat : Nat) : Int)) (congrArg iI (by omega)) ?_
        refine J_lshr (r := ((b / 2 ^ i.toNat : Nat) : Int)) d_M_multiplied_22 (lI_shrn (by omega) i.toNat (by omega)) ?_
        refine J_lconst (v := 1) d_M_multiplied_23 rfl ?_
        refine J_land (r := (((b / 2 ^ i.toNat) % 2 : Nat) : Int)) d_M_multiplied_24 (lI_andn 1 (by decide)) ?_
        refine J_lconst (v := 0) d_M_multiplied_25 rfl ?_
        refine J_lcmpne (tgt := 33) d_M_multiplied_26 d_M_multiplied_27 (by decide) ⟨by omega, by omega⟩ ⟨by omega, by omega⟩ (fun c26 => ?_) (fun c26 => ?_)
        · refine J_lload 0 d_M_multiplied_33 rfl ?_
          refine J_lload_n 1 d_M_multiplied_35 rfl rfl ?_
          refine J_ladd d_M_multiplied_36 ?_
          refine J_topl (r := ((2 * v % 2305843009213693951 + a : Nat) : Int)) (congrArg lI (by omega)) ?_
          refine J_lstore (lv' := [(4, .long (lI ((2 * v % 2305843009213693951 + a : Nat) : Int))), (0, .long (lI (a : Int))), (2, .long (lI (b : Int))), (6, .int (iI i))]) d_M_multiplied_37 (by decide) rfl ?_
          refine J_lload 0 d_M_multiplied_39 rfl ?_
          refine J_ldc2 (z := 2305843009213693951) d_M_multiplied_41 wd_1306 (by decide) ?_
          refine J_lcmplt (tgt := 57) d_M_multiplied_44 d_M_multiplied_45 (by decide) ⟨by omega, by omega⟩ ⟨by omega, by omega⟩ (fun c44 => ?_) (fun c44 => ?_)
          · refine J_lload 0 d_M_multiplied_57 rfl ?_
            refine J_topl (r := ((a * (b / 2 ^ i.toNat) % 2305843009213693951 : Nat) : Int)) (congrArg lI (by rw [mbit1 (show b / 2 ^ i.toNat % 2 = 1 by omega), ← show (i + 1).toNat = i.toNat + 1 by omega, ← hv]; omega)) ?_
            refine J_lstore (lv' := [(4, .long (lI ((a * (b / 2 ^ i.toNat) % 2305843009213693951 : Nat) : Int))), (0, .long (lI (a : Int))), (2, .long (lI (b : Int))), (6, .int (iI i))]) d_M_multiplied_59 (by decide) rfl ?_
            refine J_iinc (j := 3) (b := i - 1) (lv' := [(6, .int (iI (i - 1))), (4, .long (lI ((a * (b / 2 ^ i.toNat) % 2305843009213693951 : Nat) : Int))), (0, .long (lI (a : Int))), (2, .long (lI (b : Int)))]) d_M_multiplied_61 rfl (by omega) (by decide) rfl ?_
            refine J_goto (tgt := 7) d_M_multiplied_64 (by decide) ?_
            refine J_pick (lv' := [(0, .long (lI (a : Int))), (2, .long (lI (b : Int))), (4, .long (lI ((a * (b / 2 ^ i.toNat) % 2305843009213693951 : Nat) : Int))), (6, .int (iI (i - 1)))]) [2, 3, 1, 0] rfl ?_
            refine ih (i - 1) (a * (b / 2 ^ i.toNat) % 2305843009213693951) (by omega) ?_ (by omega)
            · first
              | (rw [show (i - 1 + 1).toNat = i.toNat by omega]; done)
              | (rw [show (i - 1 + 1).toNat = i.toNat by omega, mbit0 (show b / 2 ^ i.toNat % 2 = 0 by omega), ← show (i + 1).toNat = i.toNat + 1 by omega, ← hv])
          · refine J_lload 0 d_M_multiplied_48 rfl ?_
            refine J_ldc2 (z := 2305843009213693951) d_M_multiplied_50 wd_1306 (by decide) ?_
            refine J_lsub d_M_multiplied_53 ?_
            refine J_topl (r := ((2 * v % 2305843009213693951 + a - 2305843009213693951 : Nat) : Int)) (congrArg lI (by omega)) ?_
            refine J_goto (tgt := 59) d_M_multiplied_54 (by decide) ?_
            refine J_topl (r := ((a * (b / 2 ^ i.toNat) % 2305843009213693951 : Nat) : Int)) (congrArg lI (by rw [mbit1 (show b / 2 ^ i.toNat % 2 = 1 by omega), ← show (i + 1).toNat = i.toNat + 1 by omega, ← hv]; omega)) ?_
            refine J_lstore (lv' := [(4, .long (lI ((a * (b / 2 ^ i.toNat) % 2305843009213693951 : Nat) : Int))), (0, .long (lI (a : Int))), (2, .long (lI (b : Int))), (6, .int (iI i))]) d_M_multiplied_59 (by decide) rfl ?_
            refine J_iinc (j := 3) (b := i - 1) (lv' := [(6, .int (iI (i - 1))), (4, .long (lI ((a * (b / 2 ^ i.toNat) % 2305843009213693951 : Nat) : Int))), (0, .long (lI (a : Int))), (2, .long (lI (b : Int)))]) d_M_multiplied_61 rfl (by omega) (by decide) rfl ?_
            refine J_goto (tgt := 7) d_M_multiplied_64 (by decide) ?_
            refine J_pick (lv' := [(0, .long (lI (a : Int))), (2, .long (lI (b : Int))), (4, .long (lI ((a * (b / 2 ^ i.toNat) % 2305843009213693951 : Nat) : Int))), (6, .int (iI (i - 1)))]) [2, 3, 1, 0] rfl ?_
            refine ih (i - 1) (a * (b / 2 ^ i.toNat) % 2305843009213693951) (by omega) ?_ (by omega)
            · first
              | (rw [show (i - 1 + 1).toNat = i.toNat by omega]; done)
              | (rw [show (i - 1 + 1).toNat = i.toNat by omega, mbit0 (show b / 2 ^ i.toNat % 2 = 0 by omega), ← show (i + 1).toNat = i.toNat + 1 by omega, ← hv])
        · refine J_goto (tgt := 61) d_M_multiplied_30 (by decide) ?_
          refine J_iinc (j := 3) (b := i - 1) (lv' := [(6, .int (iI (i - 1))), (4, .long (lI ((2 * v % 2305843009213693951 : Nat) : Int))), (0, .long (lI (a : Int))), (2, .long (lI (b : Int)))]) d_M_multiplied_61 rfl (by omega) (by decide) rfl ?_
          refine J_goto (tgt := 7) d_M_multiplied_64 (by decide) ?_
          refine J_pick (lv' := [(0, .long (lI (a : Int))), (2, .long (lI (b : Int))), (4, .long (lI ((2 * v % 2305843009213693951 : Nat) : Int))), (6, .int (iI (i - 1)))]) [2, 3, 1, 0] rfl ?_
          refine ih (i - 1) (2 * v % 2305843009213693951) (by omega) ?_ (by omega)
          · first
            | (rw [show (i - 1 + 1).toNat = i.toNat by omega]; done)
            | (rw [show (i - 1 + 1).toNat = i.toNat by omega, mbit0 (show b / 2 ^ i.toNat % 2 = 0 by omega), ← show (i + 1).toNat = i.toNat + 1 by omega, ← hv])
  exact loop7 ((((60 : Int) + 1).toNat) + 1) (60 : Int) 0 (by omega) (by rw [show ((60 : Int) + 1).toNat = 61 from rfl, Nat.div_eq_of_lt (Nat.lt_trans hb (by decide)), Nat.mul_zero, Nat.zero_mod]) (Nat.lt_succ_self _)
set_option maxRecDepth 100000 in
set_option maxHeartbeats 4000000 in
theorem c_M_modulo {l : Launch} (hfl : l.flags = flags0) {D : va_G} {g : Nat → ClassId} {ad : Nat → Nat} {N : Nat} {F : Nat → va_E} {hh ll f : Nat → Int} {v : UInt64} {V : Nat → Nat} {br : Nat → Nat} {a x : Nat}
    (hN : 109 ≤ N) (hO : F 98 = oM ad f v) (hB : F 99 = aB g hh) (hL : F 100 = aL g ll) (hR : reg br hh ll V) (hzz : okB br) (ha : a < 33) (bra : br a = 0) (hx : V a = x) :
    JC l y_M_modulo b_M_modulo 5 (Option.some Jvm.ClassFile.FieldType.long) rm_M_modulo (0, 0) D jCl (jTys g) ad N F [.ref (ad 98), .int (iI (a : Int))] (jl ad N (fun z F' => z = ((x % 2305843009213693951 : Nat) : Int) ∧ F' = F)) := by
  have hxl := (reg_len hR ha bra).2
  rw [hx] at hxl
  have hxb : blen x ≤ 28 * lnw 28 x := blen_le.mpr (lnw_lt (w := 28) (by decide))
  have hln : ∀ j : Nat, j < blen x → j / 28 < lnw 28 x := fun j hj => Nat.lt_of_not_le (fun q => by
    have h1 : x < 2 ^ (28 * (j / 28)) := (lnw_le (by decide)).mp q
    have h2 := blen_le.mpr h1
    omega)
  refine JC.go hfl (own := "NumberTowerModel") (lv := [(0, .ref (ad 98)), (1, .int (iI (a : Int)))]) rfl (by decide +kernel) (Nat.le_of_ble_eq_true rfl) rfl (fun A => ?_)
  refine J_lconst (v := 0) d_M_modulo_0 rfl ?_
  refine J_lstore_n (lv' := [(2, .long (lI 0)), (0, .ref (ad 98)), (1, .int (iI (a : Int)))]) d_M_modulo_1 rfl (by decide) rfl ?_
  refine J_aload_n 1 d_M_modulo_2 rfl rfl ?_
  refine J_iload_n 2 d_M_modulo_3 rfl rfl ?_
  refine J_callVi cw_M_62 nh_M_bits pn_M_bits rfl rfl (by omega) hO (As := [.int (iI (a : Int))]) (rest := []) rfl (Nat.le_of_ble_eq_true rfl) ⟨by decide, by decide⟩ rfl ⟨by decide, by decide⟩ d_M_modulo_4 (k_M_bits hfl (a := a) (hh := hh) (ll := ll) (V := V) (br := br) (hN := hN) (hO := hO) (hB := hB) (hL := hL) (hR := hR) (ha := by omega) (hxa := hx) (bra := bra)) (fun z2 F1 hq => ?_)
  obtain ⟨hz2, eF1⟩ := hq
  refine J_eqF eF1 ?_
  refine J_topi (r := (((blen x : Nat)) : Int)) (congrArg iI hz2) ?_
  refine J_iconst d_M_modulo_7 ?_
  refine J_isub d_M_modulo_8 ?_
  refine J_istore (lv' := [(4, .int (iI ((((blen x : Nat)) : Int) - 1))), (2, .long (lI 0)), (0, .ref (ad 98)), (1, .int (iI (a : Int)))]) d_M_modulo_9 (by decide) rfl ?_
  refine J_pick (lv' := [(0, .ref (ad 98)), (1, .int (iI (a : Int))), (2, .long (lI 0)), (4, .int (iI ((((blen x : Nat)) : Int) - 1)))]) [2, 3, 1, 0] rfl ?_
  have loop11 : ∀ (fuel : Nat) (i : Int) (r : Nat) (h1 : -1 ≤ i ∧ i < blen x) (hr : r = x / 2 ^ (i + 1).toNat % 2305843009213693951) (hfu : (i + 1).toNat < fuel), J l rm_M_modulo (0, 0) "NumberTowerModel" b_M_modulo 5 (Option.some Jvm.ClassFile.FieldType.long) D jCl (jTys g) A (fun _ me => me.name = y_M_modulo.name) (jl ad N (fun z F' => z = ((x % 2305843009213693951 : Nat) : Int) ∧ F' = F)) ad N 0 0 11 [(0, .ref (ad 98)), (1, .int (iI (a : Int))), (2, .long (lI (r : Int))), (4, .int (iI i))] [] F := by
    intro fuel
    induction fuel with
    | zero => intro i r h1 hr hfu; exact absurd hfu (Nat.not_lt_zero _)
    | succ fuel ih =>
      intro i r h1 hr hfu
      have hrM : r < 2305843009213693951 := by rw [hr]; exact Nat.mod_lt _ (by decide)
      have hlj : 0 ≤ i → i.toNat / 28 < lnw 28 x := fun h => hln i.toNat (by omega)
      have hdb := dgt_b8 x (i.toNat / 28)
      refine J_iload 3 d_M_modulo_11 rfl ?_
      refine J_iflt (tgt := 70) d_M_modulo_13 (by decide) ⟨by omega, by omega⟩ (fun c13 => ?_) (fun c13 => ?_)
      · refine J_lload_n 2 d_M_modulo_70 rfl rfl ?_
        refine J_lret rfl d_M_modulo_71 ⟨by decide, by decide⟩ ?_
        refine ⟨_, rfl, rfl, rfl, ?_, rfl⟩
        rw [hr, show (i + 1).toNat = 0 by omega, Nat.pow_zero, Nat.div_one]
      · refine J_lload_n 2 d_M_modulo_16 rfl rfl ?_
        refine J_callSl cw_M_224 nh_M_twice pn_M_twice rfl (As := [.long (lI (r : Int))]) (rest := []) rfl (Nat.le_of_ble_eq_true rfl) ⟨by decide, by decide⟩ rfl ⟨by decide, by decide⟩ d_M_modulo_17 (c_M_twice hfl (a := r) hrM) (fun z3 F2 hq => ?_)
        obtain ⟨hz3, eF2⟩ := hq
        refine J_eqF eF2 ?_
        refine J_topl (r := ((2 * r % 2305843009213693951 : Nat) : Int)) (congrArg lI hz3) ?_
        refine J_aload_n 0 d_M_modulo_20 rfl rfl ?_
        refine gf_M_7 (by omega) hO rfl d_M_modulo_21 ?_
        refine J_bipush d_M_modulo_24 (i8_ok (by decide)) ?_
        refine J_iload_n 1 d_M_modulo_26 rfl rfl ?_
        refine J_imul d_M_modulo_27 ?_
        refine J_iload 3 d_M_modulo_28 rfl ?_
        refine J_topi (r := ((i.toNat : Nat) : Int)) (congrArg iI (by omega)) ?_
        refine J_bipush d_M_modulo_30 (i8_ok (by decide)) ?_
        refine J_idivn d_M_modulo_32 (by omega) (by omega) ?_
        refine J_topi (r := ((i.toNat / 28 : Nat) : Int)) (congrArg iI (by omega)) ?_
        refine J_iadd d_M_modulo_33 ?_
        refine J_iaload 0 rfl (by omega) hB (by have := hlj (by omega); omega) d_M_modulo_34 ?_
        refine J_topi (r := hh ((26 * a) + (i.toNat / 28))) (congrArg (fun q => iI (hh q)) (by omega)) ?_
        refine J_topi (r := ((dgt 28 x (i.toNat / 28) : Nat) : Int)) (congrArg iI ((reg_dig hR ha bra (by rw [hx]; exact hlj (by omega))).trans (by rw [hx]; rfl))) ?_
        refine J_iload 3 d_M_modulo_35 rfl ?_
        refine J_topi (r := ((i.toNat : Nat) : Int)) (congrArg iI (by omega)) ?_
        refine J_bipush d_M_modulo_37 (i8_ok (by decide)) ?_
        refine J_iremn d_M_modulo_39 (by omega) (by omega) ?_
        refine J_topi (r := ((i.toNat % 28 : Nat) : Int)) (congrArg iI (by omega)) ?_
        refine J_ishr (r := ((dgt 28 x (i.toNat / 28) / 2 ^ (i.toNat % 28) : Nat) : Int)) d_M_modulo_40 (iI_shrn (by omega) (i.toNat % 28) (by omega)) ?_
        refine J_iconst d_M_modulo_41 ?_
        refine J_iand (r := (((dgt 28 x (i.toNat / 28) / 2 ^ (i.toNat % 28)) % 2 : Nat) : Int)) d_M_modulo_42 (iI_andn 1 (by decide)) ?_
        refine J_topi (r := ((x / 2 ^ i.toNat % 2 : Nat) : Int)) (congrArg iI (by rw [mdig])) ?_
        refine J_i2l d_M_modulo_43 ⟨by omega, by omega⟩ ?_
        refine J_ladd d_M_modulo_44 ?_
        refine J_topl (r := ((2 * r % 2305843009213693951 + x / 2 ^ i.toNat % 2 : Nat) : Int)) (congrArg lI (by omega)) ?_
        refine J_lstore_n (lv' := [(2, .long (lI ((2 * r % 2305843009213693951 + x / 2 ^ i.toNat % 2 : Nat) : Int))), (0, .ref (ad 98)), (1, .int (iI (a : Int))), (4, .int (iI i))]) d_M_modulo_45 rfl (by decide) rfl ?_
        refine J_lload_n 0 d_M_modulo_46 rfl rfl ?_
        refine J_ldc2 (z := 2305843009213693951) d_M_modulo_47 wd_1306 (by decide) ?_
        refine J_lcmplt (tgt := 62) d_M_modulo_50 d_M_modulo_51 (by decide) ⟨by omega, by omega⟩ ⟨by omega, by omega⟩ (fun c50 => ?_) (fun c50 => ?_)
        · refine J_lload_n 0 d_M_modulo_62 rfl rfl ?_
          refine J_topl (r := ((x / 2 ^ i.toNat % 2305843009213693951 : Nat) : Int)) (congrArg lI (by rw [mhalf, ← show (i + 1).toNat = i.toNat + 1 by omega, ← hr]; omega)) ?_
          refine J_lstore_n (lv' := [(2, .long (lI ((x / 2 ^ i.toNat % 2305843009213693951 : Nat) : Int))), (0, .ref (ad 98)), (1, .int (iI (a : Int))), (4, .int (iI i))]) d_M_modulo_63 rfl (by decide) rfl ?_
          refine J_iinc (j := 3) (b := i - 1) (lv' := [(4, .int (iI (i - 1))), (2, .long (lI ((x / 2 ^ i.toNat % 2305843009213693951 : Nat) : Int))), (0, .ref (ad 98)), (1, .int (iI (a : Int)))]) d_M_modulo_64 rfl (by omega) (by decide) rfl ?_
          refine J_goto (tgt := 11) d_M_modulo_67 (by decide) ?_
          refine J_pick (lv' := [(0, .ref (ad 98)), (1, .int (iI (a : Int))), (2, .long (lI ((x / 2 ^ i.toNat % 2305843009213693951 : Nat) : Int))), (4, .int (iI (i - 1)))]) [2, 3, 1, 0] rfl ?_
          exact ih (i - 1) (x / 2 ^ i.toNat % 2305843009213693951) (by omega) (by rw [show (i - 1 + 1).toNat = i.toNat by omega]) (by omega)
        · refine J_lload_n 0 d_M_modulo_54 rfl rfl ?_
          refine J_ldc2 (z := 2305843009213693951) d_M_modulo_55 wd_1306 (by decide) ?_
          refine J_lsub d_M_modulo_58 ?_
          refine J_goto (tgt := 63) d_M_modulo_59 (by decide) ?_
          refine J_topl (r := ((x / 2 ^ i.toNat % 2305843009213693951 : Nat) : Int)) (congrArg lI (by rw [mhalf, ← show (i + 1).toNat = i.toNat + 1 by omega, ← hr]; omega)) ?_
          refine J_lstore_n (lv' := [(2, .long (lI ((x / 2 ^ i.toNat % 2305843009213693951 : Nat) : Int))), (0, .ref (ad 98)), (1, .int (iI (a : Int))), (4, .int (iI i))]) d_M_modulo_63 rfl (by decide) rfl ?_
          refine J_iinc (j := 3) (b := i - 1) (lv' := [(4, .int (iI (i - 1))), (2, .long (lI ((x / 2 ^ i.toNat % 2305843009213693951 : Nat) : Int))), (0, .ref (ad 98)), (1, .int (iI (a : Int)))]) d_M_modulo_64 rfl (by omega) (by decide) rfl ?_
          refine J_goto (tgt := 11) d_M_modulo_67 (by decide) ?_
          refine J_pick (lv' := [(0, .ref (ad 98)), (1, .int (iI (a : Int))), (2, .long (lI ((x / 2 ^ i.toNat % 2305843009213693951 : Nat) : Int))), (4, .int (iI (i - 1)))]) [2, 3, 1, 0] rfl ?_
          exact ih (i - 1) (x / 2 ^ i.toNat % 2305843009213693951) (by omega) (by rw [show (i - 1 + 1).toNat = i.toNat by omega]) (by omega)
  exact loop11 (((((((blen x : Nat)) : Int) - 1) + 1).toNat) + 1) ((((blen x : Nat)) : Int) - 1) 0 (by omega) (by rw [show (((blen x : Nat) : Int) - 1 + 1).toNat = blen x by omega, Nat.div_eq_of_lt (blen_lt x), Nat.zero_mod]) (Nat.lt_succ_self _)
