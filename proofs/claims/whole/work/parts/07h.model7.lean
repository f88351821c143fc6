/-! the Model's regions: quotients of shifted numbers, lowest terms -/
theorem lnw_div8 (a b : Nat) : lnw 28 (a / b) ≤ lnw 28 a := lnw_mono8 (Nat.div_le_self _ _)
theorem lnw_mod8 {a b : Nat} : lnw 28 (a % b) ≤ lnw 28 a := lnw_mono8 (Nat.mod_le _ _)
theorem lnw_modr8 {a b : Nat} (h : b ≠ 0) : lnw 28 (a % b) ≤ lnw 28 b := lnw_mono8 (Nat.le_of_lt (Nat.mod_lt _ (Nat.pos_of_ne_zero h)))
theorem lnw_gcdl8 {a b : Nat} (h : a ≠ 0) : lnw 28 (Nat.gcd a b) ≤ lnw 28 a := lnw_mono8 (Nat.gcd_le_left _ (Nat.pos_of_ne_zero h))
theorem ups_b (s : Int) (u : Nat) (h : lnw 28 u + s.toNat / 28 + 1 ≤ 25) : lnw 28 (u * 2 ^ s.toNat) ≤ 25 := Nat.le_trans lnw_up8 h
set_option maxRecDepth 100000 in
set_option maxHeartbeats 4000000 in
theorem c_M_quotient {l : Launch} (hfl : l.flags = flags0) {D : va_G} {g : Nat → ClassId} {ad : Nat → Nat} {N : Nat} {F : Nat → va_E} {u d : Nat} {s : Int} {hh ll : Nat → Int} {V : Nat → Nat} {br : Nat → Nat} {vs : List Value}
    (hN : 109 ≤ N) (hO : F 98 = .inr (8, .ref (ad 99) :: .ref (ad 100) :: vs)) (hB : F 99 = aB g hh) (hL : F 100 = aL g ll) (hR : reg br hh ll V) (hu : u < 33) (hd : d < 33) (bru : br u = 0) (brd : br d = 0) (hzz : okB br) (hu2 : ¬(24 ≤ u ∧ u ≤ 30)) (hd2 : ¬(24 ≤ d ∧ d ≤ 30)) (hs : -2000 ≤ s ∧ s ≤ 2000) (hd0 : V d ≠ 0) (hlu : lnw 28 (V u) + s.toNat / 28 + 1 ≤ 25) (hld : lnw 28 (V d) + (-s).toNat / 28 + 1 ≤ 25) :
    JC l y_M_quotient b_M_quotient 4 (Option.none : Option Jvm.ClassFile.FieldType) rm_M_quotient (0, 0) D jCl (jTys g) ad N F [.ref (ad 98), .int (iI (u : Int)), .int (iI (d : Int)), .int (iI s)] (jv ad N (fun F' => ∃ (hh' ll' : Nat → Int) (j : Nat), reg br hh' ll' (va_up (va_up (va_up (va_up (va_up V 29 (V u * 2 ^ s.toNat)) 30 (V d * 2 ^ (-s).toNat)) 26 j) 25 (V u * 2 ^ s.toNat % (V d * 2 ^ (-s).toNat))) 24 (V u * 2 ^ s.toNat / (V d * 2 ^ (-s).toNat))) ∧ F' = va_up (va_up F 99 (aB g hh')) 100 (aL g ll'))) := by
  refine JC.go hfl (own := "NumberTowerModel") (lv := [(0, .ref (ad 98)), (1, .int (iI (u : Int))), (2, .int (iI (d : Int))), (3, .int (iI s))]) rfl (by decide +kernel) (Nat.le_of_ble_eq_true rfl) rfl (fun A => ?_)
  refine J_aload_n 0 d_M_quotient_0 rfl rfl ?_
  refine J_iload_n 1 d_M_quotient_1 rfl rfl ?_
  refine J_bipush d_M_quotient_2 (i8_ok (by decide)) ?_
  refine J_callVv cw_M_58 nh_M_copy pn_M_copy rfl rfl (by omega) hO (As := [.int (iI (u : Int)), .int (iI 29)]) (rest := []) rfl (Nat.le_of_ble_eq_true rfl) ⟨by decide, by decide⟩ rfl ⟨by decide, by decide⟩ d_M_quotient_4 (k_M_copy hfl (a := u) (b := 29) (hh := hh) (ll := ll) (V := V) (br := br) (hN := hN) (hO := hO) (hB := hB) (hL := hL) (hR := hR) (ha := by omega) (hb := by omega) (hxa := rfl) (bra := bru)) (fun  F1 hq => ?_)
  obtain ⟨bh1, bl2, hR3, eF1⟩ := hq
  refine J_eqF (F2 := va_up (va_up F 99 (.inl (g 0, 858, .inl (aI bh1)))) 100 (.inl (g 0, 33, .inl (aI bl2)))) eF1 ?_
  have hR6 := reg_w1 (hzz.1 _) hR3
  refine J_aload_n 0 d_M_quotient_7 rfl rfl ?_
  refine J_iload_n 2 d_M_quotient_8 rfl rfl ?_
  refine J_bipush d_M_quotient_9 (i8_ok (by decide)) ?_
  refine J_callVv cw_M_58 nh_M_copy pn_M_copy rfl rfl (by omega) (by rw [va_up_ne _ _ (by decide), va_up_ne _ _ (by decide)]; exact hO) (As := [.int (iI (d : Int)), .int (iI 30)]) (rest := []) rfl (Nat.le_of_ble_eq_true rfl) ⟨by decide, by decide⟩ rfl ⟨by decide, by decide⟩ d_M_quotient_11 (k_M_copy hfl (a := d) (b := 30) (hh := bh1) (ll := bl2) (V := va_up V 29 (V u)) (br := br) (hN := hN) (hO := (by rw [va_up_ne _ _ (by decide), va_up_ne _ _ (by decide)]; exact hO)) (hB := (by rw [va_up_ne _ _ (by decide), va_up_self])) (hL := (by rw [va_up_self])) (hR := hR6) (ha := by omega) (hb := by omega) (hxa := (va_up_ne _ _ (by omega))) (bra := brd)) (fun  F2 hq => ?_)
  obtain ⟨bh7, bl8, hR9, eF2⟩ := hq
  refine J_eqF (F2 := va_up (va_up F 99 (.inl (g 0, 858, .inl (aI bh7)))) 100 (.inl (g 0, 33, .inl (aI bl8)))) (eF2.trans (Eq.trans (congrArg (fun q : Nat → va_E => va_up q 100 (.inl (g 0, 33, .inl (aI bl8)))) (up_in1 (by decide))) (up_in0))) ?_
  have hR12 := reg_w1 (hzz.1 _) hR9
  have lab36 : ∀ (f : Nat → Int) (e : Nat → Int) (hRL36 : reg br f e (va_up (va_up V 29 (V u * 2 ^ s.toNat)) 30 (V d * 2 ^ (-s).toNat))) , J l rm_M_quotient (0, 0) "NumberTowerModel" b_M_quotient 4 (Option.none : Option Jvm.ClassFile.FieldType) D jCl (jTys g) A (fun _ me => me.name = y_M_quotient.name) (jv ad N (fun F' => ∃ (hh' ll' : Nat → Int) (j : Nat), reg br hh' ll' (va_up (va_up (va_up (va_up (va_up V 29 (V u * 2 ^ s.toNat)) 30 (V d * 2 ^ (-s).toNat)) 26 j) 25 (V u * 2 ^ s.toNat % (V d * 2 ^ (-s).toNat))) 24 (V u * 2 ^ s.toNat / (V d * 2 ^ (-s).toNat))) ∧ F' = va_up (va_up F 99 (aB g hh')) 100 (aL g ll'))) ad N 0 0 36 [(0, .ref (ad 98))] [] (va_up (va_up F 99 (.inl (g 0, 858, .inl (aI f)))) 100 (.inl (g 0, 33, .inl (aI e)))) := by
    intro f e hRL36
    refine J_aload_n 0 d_M_quotient_36 rfl rfl ?_
    refine J_bipush d_M_quotient_37 (i8_ok (by decide)) ?_
    refine J_bipush d_M_quotient_39 (i8_ok (by decide)) ?_
    refine J_callVv cw_M_79 nh_M_divide pn_M_divide rfl rfl (by omega) (by rw [va_up_ne _ _ (by decide), va_up_ne _ _ (by decide)]; exact hO) (As := [.int (iI 29), .int (iI 30)]) (rest := []) rfl (Nat.le_of_ble_eq_true rfl) ⟨by decide, by decide⟩ rfl ⟨by decide, by decide⟩ d_M_quotient_41 (k_M_divide hfl (a := 29) (b := 30) (hh := f) (ll := e) (V := va_up (va_up V 29 (V u * 2 ^ s.toNat)) 30 (V d * 2 ^ (-s).toNat)) (br := br) (hN := hN) (hO := (by rw [va_up_ne _ _ (by decide), va_up_ne _ _ (by decide)]; exact hO)) (hB := (by rw [va_up_ne _ _ (by decide), va_up_self])) (hL := (by rw [va_up_self])) (hR := hRL36) (ha := by omega) (hb := by omega) (hxa := ((va_up_ne _ _ (by decide)).trans (va_up_self ..))) (bra := (hzz.2 29 (by decide) (by decide))) (hxb := (va_up_self ..)) (brb := (hzz.2 30 (by decide) (by decide))) (hzz := hzz) (ha2 := by omega) (hb2 := by omega) (hb0 := Nat.mul_ne_zero hd0 (Nat.ne_of_gt (Nat.two_pow_pos _))) (hla2 := Nat.le_trans lnw_up8 hlu) (hlb2 := Nat.le_trans lnw_up8 hld)) (fun  F3 hq => ?_)
    obtain ⟨bh13, bl14, j18, hR15, eF3⟩ := hq
    refine J_eqF (F2 := va_up (va_up F 99 (.inl (g 0, 858, .inl (aI bh13)))) 100 (.inl (g 0, 33, .inl (aI bl14)))) (eF3.trans (Eq.trans (congrArg (fun q : Nat → va_E => va_up q 100 (.inl (g 0, 33, .inl (aI bl14)))) (up_in1 (by decide))) (up_in0))) ?_
    refine J_vret rfl d_M_quotient_44 ⟨by decide, by decide⟩ ?_
    exact ⟨rfl, rfl, rfl, _, _, _, hR15, rfl⟩
  refine J_iload_n 3 d_M_quotient_14 rfl rfl ?_
  refine J_ifle (tgt := 28) d_M_quotient_15 (by decide) ⟨by omega, by omega⟩ (fun c15 => ?_) (fun c15 => ?_)
  · refine J_aload_n 0 d_M_quotient_28 rfl rfl ?_
    refine J_bipush d_M_quotient_29 (i8_ok (by decide)) ?_
    refine J_iload_n 3 d_M_quotient_31 rfl rfl ?_
    refine J_ineg d_M_quotient_32 ?_
    refine J_topi (r := (((-s).toNat : Nat) : Int)) (congrArg iI (by omega)) ?_
    refine J_callVv cw_M_66 nh_M_up pn_M_up rfl rfl (by omega) (by rw [va_up_ne _ _ (by decide), va_up_ne _ _ (by decide)]; exact hO) (As := [.int (iI 30), .int (iI (((-s).toNat : Nat) : Int))]) (rest := []) rfl (Nat.le_of_ble_eq_true rfl) ⟨by decide, by decide⟩ rfl ⟨by decide, by decide⟩ d_M_quotient_33 (k_M_up hfl (a := 30) (n := (-s).toNat) (hh := bh7) (ll := bl8) (V := va_up (va_up V 29 (V u)) 30 (V d)) (br := br) (hN := hN) (hO := (by rw [va_up_ne _ _ (by decide), va_up_ne _ _ (by decide)]; exact hO)) (hB := (by rw [va_up_ne _ _ (by decide), va_up_self])) (hL := (by rw [va_up_self])) (hR := hR12) (ha := by omega) (hxa := (va_up_self ..)) (bra := (hzz.2 30 (by decide) (by decide))) (hn := by omega) (hT := Or.inr (by omega))) (fun  F4 hq => ?_)
    obtain ⟨bh19, bl20, hR21, eF4⟩ := hq
    refine J_eqF (F2 := va_up (va_up F 99 (.inl (g 0, 858, .inl (aI bh19)))) 100 (.inl (g 0, 33, .inl (aI bl20)))) (eF4.trans (Eq.trans (congrArg (fun q : Nat → va_E => va_up q 100 (.inl (g 0, 33, .inl (aI bl20)))) (up_in1 (by decide))) (up_in0))) ?_
    have hR24 := reg_w1 (hzz.1 _) hR21
    have hR25 := (congrArg (fun qq : Nat → Nat => reg _ _ _ (qq)) (up_in0)).mp hR24
    refine J_pick (lv' := [(0, .ref (ad 98))]) [0] rfl ?_
    have hR26 := (congrArg (reg _ _ _) (congrArg (fun q => va_up (va_up V 29 q) 30 (V d * 2 ^ (-s).toNat)) (show V u = V u * 2 ^ s.toNat by rw [show s.toNat = 0 by omega, Nat.pow_zero, Nat.mul_one]))).mp hR25
    exact lab36 bh19 bl20 hR26
  · refine J_aload_n 0 d_M_quotient_18 rfl rfl ?_
    refine J_bipush d_M_quotient_19 (i8_ok (by decide)) ?_
    refine J_iload_n 3 d_M_quotient_21 rfl rfl ?_
    refine J_topi (r := ((s.toNat : Nat) : Int)) (congrArg iI (by omega)) ?_
    refine J_callVv cw_M_66 nh_M_up pn_M_up rfl rfl (by omega) (by rw [va_up_ne _ _ (by decide), va_up_ne _ _ (by decide)]; exact hO) (As := [.int (iI 29), .int (iI ((s.toNat : Nat) : Int))]) (rest := []) rfl (Nat.le_of_ble_eq_true rfl) ⟨by decide, by decide⟩ rfl ⟨by decide, by decide⟩ d_M_quotient_22 (k_M_up hfl (a := 29) (n := s.toNat) (hh := bh7) (ll := bl8) (V := va_up (va_up V 29 (V u)) 30 (V d)) (br := br) (hN := hN) (hO := (by rw [va_up_ne _ _ (by decide), va_up_ne _ _ (by decide)]; exact hO)) (hB := (by rw [va_up_ne _ _ (by decide), va_up_self])) (hL := (by rw [va_up_self])) (hR := hR12) (ha := by omega) (hxa := ((va_up_ne _ _ (by decide)).trans (va_up_self ..))) (bra := (hzz.2 29 (by decide) (by decide))) (hn := by omega) (hT := Or.inr (by omega))) (fun  F5 hq => ?_)
    obtain ⟨bh27, bl28, hR29, eF5⟩ := hq
    refine J_eqF (F2 := va_up (va_up F 99 (.inl (g 0, 858, .inl (aI bh27)))) 100 (.inl (g 0, 33, .inl (aI bl28)))) (eF5.trans (Eq.trans (congrArg (fun q : Nat → va_E => va_up q 100 (.inl (g 0, 33, .inl (aI bl28)))) (up_in1 (by decide))) (up_in0))) ?_
    have hR32 := reg_w1 (hzz.1 _) hR29
    have hR33 := (congrArg (fun qq : Nat → Nat => reg _ _ _ (qq)) (up_in1 (by decide))).mp hR32
    refine J_goto (tgt := 36) d_M_quotient_25 (by decide) ?_
    refine J_pick (lv' := [(0, .ref (ad 98))]) [0] rfl ?_
    have hR34 := (congrArg (reg _ _ _) (congrArg (fun q => va_up (va_up V 29 (V u * 2 ^ s.toNat)) 30 q) (show V d = V d * 2 ^ (-s).toNat by rw [show (-s).toNat = 0 by omega, Nat.pow_zero, Nat.mul_one]))).mp hR33
    exact lab36 bh27 bl28 hR34
set_option maxRecDepth 100000 in
set_option maxHeartbeats 4000000 in
theorem c_M_lowest {l : Launch} (hfl : l.flags = flags0) {D : va_G} {g : Nat → ClassId} {ad : Nat → Nat} {N : Nat} {F : Nat → va_E} {u d : Nat} {hh ll : Nat → Int} {V : Nat → Nat} {br : Nat → Nat} {vs : List Value}
    (hN : 109 ≤ N) (hO : F 98 = .inr (8, .ref (ad 99) :: .ref (ad 100) :: vs)) (hB : F 99 = aB g hh) (hL : F 100 = aL g ll) (hR : reg br hh ll V) (hu : u < 33) (hd : d < 33) (bru : br u = 0) (brd : br d = 0) (hzz : okB br) (hud : u ≠ d) (hu2 : ¬(24 ≤ u ∧ u ≤ 28)) (hd2 : ¬(24 ≤ d ∧ d ≤ 28)) (hd0 : V d ≠ 0) (hlu : lnw 28 (V u) ≤ 25) (hld : lnw 28 (V d) ≤ 25) :
    JC l y_M_lowest b_M_lowest 3 (Option.none : Option Jvm.ClassFile.FieldType) rm_M_lowest (0, 0) D jCl (jTys g) ad N F [.ref (ad 98), .int (iI (u : Int)), .int (iI (d : Int))] (jv ad N (fun F' => ∃ (hh' ll' : Nat → Int) (W : Nat → Nat), (∀ k, ¬(24 ≤ k ∧ k ≤ 28) → k ≠ u → k ≠ d → W k = V k) ∧ W u = V u / Nat.gcd (V u) (V d) ∧ W d = V d / Nat.gcd (V u) (V d) ∧ reg br hh' ll' W ∧ F' = va_up (va_up F 99 (aB g hh')) 100 (aL g ll'))) := by
  have hg0 : Nat.gcd (V u) (V d) ≠ 0 := fun z => hd0 (Nat.gcd_eq_zero_iff.mp z).2
  have hgl : lnw 28 (Nat.gcd (V u) (V d)) ≤ 25 := Nat.le_trans (lnw_mono8 (Nat.le_of_dvd (Nat.pos_of_ne_zero hd0) (Nat.gcd_dvd_right _ _))) hld
  refine JC.go hfl (own := "NumberTowerModel") (lv := [(0, .ref (ad 98)), (1, .int (iI (u : Int))), (2, .int (iI (d : Int)))]) rfl (by decide +kernel) (Nat.le_of_ble_eq_true rfl) rfl (fun A => ?_)
  refine J_aload_n 0 d_M_lowest_0 rfl rfl ?_
  refine J_iload_n 1 d_M_lowest_1 rfl rfl ?_
  refine J_bipush d_M_lowest_2 (i8_ok (by decide)) ?_
  refine J_callVv cw_M_58 nh_M_copy pn_M_copy rfl rfl (by omega) hO (As := [.int (iI (u : Int)), .int (iI 27)]) (rest := []) rfl (Nat.le_of_ble_eq_true rfl) ⟨by decide, by decide⟩ rfl ⟨by decide, by decide⟩ d_M_lowest_4 (k_M_copy hfl (a := u) (b := 27) (hh := hh) (ll := ll) (V := V) (br := br) (hN := hN) (hO := hO) (hB := hB) (hL := hL) (hR := hR) (ha := by omega) (hb := by omega) (hxa := rfl) (bra := bru)) (fun  F1 hq => ?_)
  obtain ⟨bh35, bl36, hR37, eF1⟩ := hq
  refine J_eqF (F2 := va_up (va_up F 99 (.inl (g 0, 858, .inl (aI bh35)))) 100 (.inl (g 0, 33, .inl (aI bl36)))) eF1 ?_
  have hR40 := reg_w1 (hzz.1 _) hR37
  refine J_aload_n 0 d_M_lowest_7 rfl rfl ?_
  refine J_iload_n 2 d_M_lowest_8 rfl rfl ?_
  refine J_bipush d_M_lowest_9 (i8_ok (by decide)) ?_
  refine J_callVv cw_M_58 nh_M_copy pn_M_copy rfl rfl (by omega) (by rw [va_up_ne _ _ (by decide), va_up_ne _ _ (by decide)]; exact hO) (As := [.int (iI (d : Int)), .int (iI 28)]) (rest := []) rfl (Nat.le_of_ble_eq_true rfl) ⟨by decide, by decide⟩ rfl ⟨by decide, by decide⟩ d_M_lowest_11 (k_M_copy hfl (a := d) (b := 28) (hh := bh35) (ll := bl36) (V := va_up V 27 (V u)) (br := br) (hN := hN) (hO := (by rw [va_up_ne _ _ (by decide), va_up_ne _ _ (by decide)]; exact hO)) (hB := (by rw [va_up_ne _ _ (by decide), va_up_self])) (hL := (by rw [va_up_self])) (hR := hR40) (ha := by omega) (hb := by omega) (hxa := (va_up_ne _ _ (by omega))) (bra := brd)) (fun  F2 hq => ?_)
  obtain ⟨bh41, bl42, hR43, eF2⟩ := hq
  refine J_eqF (F2 := va_up (va_up F 99 (.inl (g 0, 858, .inl (aI bh41)))) 100 (.inl (g 0, 33, .inl (aI bl42)))) (eF2.trans (Eq.trans (congrArg (fun q : Nat → va_E => va_up q 100 (.inl (g 0, 33, .inl (aI bl42)))) (up_in1 (by decide))) (up_in0))) ?_
  have hR46 := reg_w1 (hzz.1 _) hR43
  have loop14 : ∀ (fuel : Nat) (f : Nat → Int) (e : Nat → Int) (p : Nat) (q : Nat) (j1 : Nat) (j2 : Nat) (j3 : Nat) (hpq : Nat.gcd q p = Nat.gcd (V u) (V d)) (hlp : lnw 28 p ≤ 25) (hlq : lnw 28 q ≤ 25) (hRL14 : reg br f e (va_up (va_up (va_up (va_up (va_up V 27 p) 28 q) 26 j1) 25 j2) 24 j3)) (hfu : q < fuel), J l rm_M_lowest (0, 0) "NumberTowerModel" b_M_lowest 3 (Option.none : Option Jvm.ClassFile.FieldType) D jCl (jTys g) A (fun _ me => me.name = y_M_lowest.name) (jv ad N (fun F' => ∃ (hh' ll' : Nat → Int) (W : Nat → Nat), (∀ k, ¬(24 ≤ k ∧ k ≤ 28) → k ≠ u → k ≠ d → W k = V k) ∧ W u = V u / Nat.gcd (V u) (V d) ∧ W d = V d / Nat.gcd (V u) (V d) ∧ reg br hh' ll' W ∧ F' = va_up (va_up F 99 (aB g hh')) 100 (aL g ll'))) ad N 0 0 14 [(0, .ref (ad 98)), (1, .int (iI (u : Int))), (2, .int (iI (d : Int)))] [] (va_up (va_up F 99 (.inl (g 0, 858, .inl (aI f)))) 100 (.inl (g 0, 33, .inl (aI e)))) := by
    intro fuel
    induction fuel with
    | zero => intro f e p q j1 j2 j3 hpq hlp hlq hRL14 hfu; exact absurd hfu (Nat.not_lt_zero _)
    | succ fuel ih =>
      intro f e p q j1 j2 j3 hpq hlp hlq hRL14 hfu
      refine J_aload_n 0 d_M_lowest_14 rfl rfl ?_
      refine J_bipush d_M_lowest_15 (i8_ok (by decide)) ?_
      refine J_callVi cw_M_75 nh_M_zero pn_M_zero rfl rfl (by omega) (by rw [va_up_ne _ _ (by decide), va_up_ne _ _ (by decide)]; exact hO) (As := [.int (iI 28)]) (rest := []) rfl (Nat.le_of_ble_eq_true rfl) ⟨by decide, by decide⟩ rfl ⟨by decide, by decide⟩ d_M_lowest_17 (k_M_zero hfl (a := 28) (hh := f) (ll := e) (V := va_up (va_up (va_up (va_up (va_up V 27 p) 28 q) 26 j1) 25 j2) 24 j3) (br := br) (hN := hN) (hO := (by rw [va_up_ne _ _ (by decide), va_up_ne _ _ (by decide)]; exact hO)) (hB := (by rw [va_up_ne _ _ (by decide), va_up_self])) (hL := (by rw [va_up_self])) (hR := hRL14) (ha := by omega) (hxa := ((va_up_ne _ _ (by decide)).trans ((va_up_ne _ _ (by decide)).trans ((va_up_ne _ _ (by decide)).trans (va_up_self ..))))) (bra := (hzz.2 28 (by decide) (by decide)))) (fun z47 F3 hq => ?_)
      obtain ⟨hz47, eF3⟩ := hq
      refine J_eqF eF3 ?_
      refine J_ifne (tgt := 50) d_M_lowest_20 (by decide) ⟨by omega, by omega⟩ (fun c20 => ?_) (fun c20 => ?_)
      · have hq0 : q = 0 := by omega
        have hpg : p = Nat.gcd (V u) (V d) := by rw [← hpq, hq0, Nat.gcd_zero_left]
        refine J_aload_n 0 d_M_lowest_50 rfl rfl ?_
        refine J_iload_n 1 d_M_lowest_51 rfl rfl ?_
        refine J_bipush d_M_lowest_52 (i8_ok (by decide)) ?_
        refine J_callVv cw_M_79 nh_M_divide pn_M_divide rfl rfl (by omega) (by rw [va_up_ne _ _ (by decide), va_up_ne _ _ (by decide)]; exact hO) (As := [.int (iI (u : Int)), .int (iI 27)]) (rest := []) rfl (Nat.le_of_ble_eq_true rfl) ⟨by decide, by decide⟩ rfl ⟨by decide, by decide⟩ d_M_lowest_54 (k_M_divide hfl (a := u) (b := 27) (hh := f) (ll := e) (V := va_up (va_up (va_up (va_up (va_up V 27 p) 28 q) 26 j1) 25 j2) 24 j3) (br := br) (hN := hN) (hO := (by rw [va_up_ne _ _ (by decide), va_up_ne _ _ (by decide)]; exact hO)) (hB := (by rw [va_up_ne _ _ (by decide), va_up_self])) (hL := (by rw [va_up_self])) (hR := hRL14) (ha := by omega) (hb := by omega) (hxa := ((va_up_ne _ _ (by omega)).trans ((va_up_ne _ _ (by omega)).trans ((va_up_ne _ _ (by omega)).trans ((va_up_ne _ _ (by omega)).trans (va_up_ne _ _ (by omega))))))) (bra := bru) (hxb := ((va_up_ne _ _ (by decide)).trans ((va_up_ne _ _ (by decide)).trans ((va_up_ne _ _ (by decide)).trans ((va_up_ne _ _ (by decide)).trans (va_up_self ..)))))) (brb := (hzz.2 27 (by decide) (by decide))) (hzz := hzz) (ha2 := by omega) (hb2 := by omega) (hb0 := by rw [hpg]; exact hg0) (hla2 := hlu) (hlb2 := hlp)) (fun  F4 hq => ?_)
        obtain ⟨bh48, bl49, j53, hR50, eF4⟩ := hq
        refine J_eqF (F2 := va_up (va_up F 99 (.inl (g 0, 858, .inl (aI bh48)))) 100 (.inl (g 0, 33, .inl (aI bl49)))) (eF4.trans (Eq.trans (congrArg (fun q : Nat → va_E => va_up q 100 (.inl (g 0, 33, .inl (aI bl49)))) (up_in1 (by decide))) (up_in0))) ?_
        have hR54 := (congrArg (fun qq : Nat → Nat => reg _ _ _ (va_up (va_up (qq) 25 ((V u) % p)) 24 ((V u) / p))) (up_in2 (by decide) (by decide))).mp hR50
        have hR55 := (congrArg (fun qq : Nat → Nat => reg _ _ _ (va_up (qq) 24 ((V u) / p))) (up_in1 (by decide))).mp hR54
        have hR56 := (congrArg (fun qq : Nat → Nat => reg _ _ _ (qq)) (up_in0)).mp hR55
        refine J_aload_n 0 d_M_lowest_57 rfl rfl ?_
        refine J_bipush d_M_lowest_58 (i8_ok (by decide)) ?_
        refine J_iload_n 1 d_M_lowest_60 rfl rfl ?_
        refine J_callVv cw_M_58 nh_M_copy pn_M_copy rfl rfl (by omega) (by rw [va_up_ne _ _ (by decide), va_up_ne _ _ (by decide)]; exact hO) (As := [.int (iI 24), .int (iI (u : Int))]) (rest := []) rfl (Nat.le_of_ble_eq_true rfl) ⟨by decide, by decide⟩ rfl ⟨by decide, by decide⟩ d_M_lowest_61 (k_M_copy hfl (a := 24) (b := u) (hh := bh48) (ll := bl49) (V := va_up (va_up (va_up (va_up (va_up V 27 p) 28 q) 26 j53) 25 ((V u) % p)) 24 ((V u) / p)) (br := br) (hN := hN) (hO := (by rw [va_up_ne _ _ (by decide), va_up_ne _ _ (by decide)]; exact hO)) (hB := (by rw [va_up_ne _ _ (by decide), va_up_self])) (hL := (by rw [va_up_self])) (hR := hR56) (ha := by omega) (hb := by omega) (hxa := (va_up_self ..)) (bra := (hzz.2 24 (by decide) (by decide)))) (fun  F5 hq => ?_)
        obtain ⟨bh57, bl58, hR59, eF5⟩ := hq
        refine J_eqF (F2 := va_up (va_up F 99 (.inl (g 0, 858, .inl (aI bh57)))) 100 (.inl (g 0, 33, .inl (aI bl58)))) (eF5.trans (Eq.trans (congrArg (fun q : Nat → va_E => va_up q 100 (.inl (g 0, 33, .inl (aI bl58)))) (up_in1 (by decide))) (up_in0))) ?_
        have hR62 := reg_w1 (hzz.1 _) hR59
        refine J_aload_n 0 d_M_lowest_64 rfl rfl ?_
        refine J_iload_n 2 d_M_lowest_65 rfl rfl ?_
        refine J_bipush d_M_lowest_66 (i8_ok (by decide)) ?_
        refine J_callVv cw_M_79 nh_M_divide pn_M_divide rfl rfl (by omega) (by rw [va_up_ne _ _ (by decide), va_up_ne _ _ (by decide)]; exact hO) (As := [.int (iI (d : Int)), .int (iI 27)]) (rest := []) rfl (Nat.le_of_ble_eq_true rfl) ⟨by decide, by decide⟩ rfl ⟨by decide, by decide⟩ d_M_lowest_68 (k_M_divide hfl (a := d) (b := 27) (hh := bh57) (ll := bl58) (V := va_up (va_up (va_up (va_up (va_up (va_up V 27 p) 28 q) 26 j53) 25 ((V u) % p)) 24 ((V u) / p)) u ((V u) / p)) (br := br) (hN := hN) (hO := (by rw [va_up_ne _ _ (by decide), va_up_ne _ _ (by decide)]; exact hO)) (hB := (by rw [va_up_ne _ _ (by decide), va_up_self])) (hL := (by rw [va_up_self])) (hR := hR62) (ha := by omega) (hb := by omega) (hxa := ((va_up_ne _ _ (by omega)).trans ((va_up_ne _ _ (by omega)).trans ((va_up_ne _ _ (by omega)).trans ((va_up_ne _ _ (by omega)).trans ((va_up_ne _ _ (by omega)).trans (va_up_ne _ _ (by omega)))))))) (bra := brd) (hxb := ((va_up_ne _ _ (by omega)).trans ((va_up_ne _ _ (by decide)).trans ((va_up_ne _ _ (by decide)).trans ((va_up_ne _ _ (by decide)).trans ((va_up_ne _ _ (by decide)).trans (va_up_self ..))))))) (brb := (hzz.2 27 (by decide) (by decide))) (hzz := hzz) (ha2 := by omega) (hb2 := by omega) (hb0 := by rw [hpg]; exact hg0) (hla2 := hld) (hlb2 := hlp)) (fun  F6 hq => ?_)
        obtain ⟨bh63, bl64, j68, hR65, eF6⟩ := hq
        refine J_eqF (F2 := va_up (va_up F 99 (.inl (g 0, 858, .inl (aI bh63)))) 100 (.inl (g 0, 33, .inl (aI bl64)))) (eF6.trans (Eq.trans (congrArg (fun q : Nat → va_E => va_up q 100 (.inl (g 0, 33, .inl (aI bl64)))) (up_in1 (by decide))) (up_in0))) ?_
        have hR69 := (congrArg (fun qq : Nat → Nat => reg _ _ _ (va_up (va_up (qq) 25 ((V d) % p)) 24 ((V d) / p))) (up_in3 (by decide) (by decide) (by omega))).mp hR65
        have hR70 := (congrArg (fun qq : Nat → Nat => reg _ _ _ (va_up (qq) 24 ((V d) / p))) (up_in2 (by decide) (by omega))).mp hR69
        have hR71 := (congrArg (fun qq : Nat → Nat => reg _ _ _ (qq)) (up_in1 (by omega))).mp hR70
        refine J_aload_n 0 d_M_lowest_71 rfl rfl ?_
        refine J_bipush d_M_lowest_72 (i8_ok (by decide)) ?_
        refine J_iload_n 2 d_M_lowest_74 rfl rfl ?_
        refine J_callVv cw_M_58 nh_M_copy pn_M_copy rfl rfl (by omega) (by rw [va_up_ne _ _ (by decide), va_up_ne _ _ (by decide)]; exact hO) (As := [.int (iI 24), .int (iI (d : Int))]) (rest := []) rfl (Nat.le_of_ble_eq_true rfl) ⟨by decide, by decide⟩ rfl ⟨by decide, by decide⟩ d_M_lowest_75 (k_M_copy hfl (a := 24) (b := d) (hh := bh63) (ll := bl64) (V := va_up (va_up (va_up (va_up (va_up (va_up V 27 p) 28 q) 26 j68) 25 ((V d) % p)) 24 ((V d) / p)) u ((V u) / p)) (br := br) (hN := hN) (hO := (by rw [va_up_ne _ _ (by decide), va_up_ne _ _ (by decide)]; exact hO)) (hB := (by rw [va_up_ne _ _ (by decide), va_up_self])) (hL := (by rw [va_up_self])) (hR := hR71) (ha := by omega) (hb := by omega) (hxa := ((va_up_ne _ _ (by omega)).trans (va_up_self ..))) (bra := (hzz.2 24 (by decide) (by decide)))) (fun  F7 hq => ?_)
        obtain ⟨bh72, bl73, hR74, eF7⟩ := hq
        refine J_eqF (F2 := va_up (va_up F 99 (.inl (g 0, 858, .inl (aI bh72)))) 100 (.inl (g 0, 33, .inl (aI bl73)))) (eF7.trans (Eq.trans (congrArg (fun q : Nat → va_E => va_up q 100 (.inl (g 0, 33, .inl (aI bl73)))) (up_in1 (by decide))) (up_in0))) ?_
        have hR77 := reg_w1 (hzz.1 _) hR74
        refine J_vret rfl d_M_lowest_78 ⟨by decide, by decide⟩ ?_
        rw [hpg] at hR77
        exact ⟨rfl, rfl, rfl, _, _, _, fun k h1 h2 h3 => by simp only [va_up]; grind, by simp only [va_up]; grind, by simp only [va_up]; grind, hR77, rfl⟩
      · refine J_aload_n 0 d_M_lowest_23 rfl rfl ?_
        refine J_bipush d_M_lowest_24 (i8_ok (by decide)) ?_
        refine J_bipush d_M_lowest_26 (i8_ok (by decide)) ?_
        refine J_callVv cw_M_79 nh_M_divide pn_M_divide rfl rfl (by omega) (by rw [va_up_ne _ _ (by decide), va_up_ne _ _ (by decide)]; exact hO) (As := [.int (iI 27), .int (iI 28)]) (rest := []) rfl (Nat.le_of_ble_eq_true rfl) ⟨by decide, by decide⟩ rfl ⟨by decide, by decide⟩ d_M_lowest_28 (k_M_divide hfl (a := 27) (b := 28) (hh := f) (ll := e) (V := va_up (va_up (va_up (va_up (va_up V 27 p) 28 q) 26 j1) 25 j2) 24 j3) (br := br) (hN := hN) (hO := (by rw [va_up_ne _ _ (by decide), va_up_ne _ _ (by decide)]; exact hO)) (hB := (by rw [va_up_ne _ _ (by decide), va_up_self])) (hL := (by rw [va_up_self])) (hR := hRL14) (ha := by omega) (hb := by omega) (hxa := ((va_up_ne _ _ (by decide)).trans ((va_up_ne _ _ (by decide)).trans ((va_up_ne _ _ (by decide)).trans ((va_up_ne _ _ (by decide)).trans (va_up_self ..)))))) (bra := (hzz.2 27 (by decide) (by decide))) (hxb := ((va_up_ne _ _ (by decide)).trans ((va_up_ne _ _ (by decide)).trans ((va_up_ne _ _ (by decide)).trans (va_up_self ..))))) (brb := (hzz.2 28 (by decide) (by decide))) (hzz := hzz) (ha2 := by omega) (hb2 := by omega) (hb0 := by omega) (hla2 := hlp) (hlb2 := hlq)) (fun  F8 hq => ?_)
        obtain ⟨bh78, bl79, j83, hR80, eF8⟩ := hq
        refine J_eqF (F2 := va_up (va_up F 99 (.inl (g 0, 858, .inl (aI bh78)))) 100 (.inl (g 0, 33, .inl (aI bl79)))) (eF8.trans (Eq.trans (congrArg (fun q : Nat → va_E => va_up q 100 (.inl (g 0, 33, .inl (aI bl79)))) (up_in1 (by decide))) (up_in0))) ?_
        have hR84 := (congrArg (fun qq : Nat → Nat => reg _ _ _ (va_up (va_up (qq) 25 (p % q)) 24 (p / q))) (up_in2 (by decide) (by decide))).mp hR80
        have hR85 := (congrArg (fun qq : Nat → Nat => reg _ _ _ (va_up (qq) 24 (p / q))) (up_in1 (by decide))).mp hR84
        have hR86 := (congrArg (fun qq : Nat → Nat => reg _ _ _ (qq)) (up_in0)).mp hR85
        refine J_aload_n 0 d_M_lowest_31 rfl rfl ?_
        refine J_bipush d_M_lowest_32 (i8_ok (by decide)) ?_
        refine J_bipush d_M_lowest_34 (i8_ok (by decide)) ?_
        refine J_callVv cw_M_58 nh_M_copy pn_M_copy rfl rfl (by omega) (by rw [va_up_ne _ _ (by decide), va_up_ne _ _ (by decide)]; exact hO) (As := [.int (iI 28), .int (iI 27)]) (rest := []) rfl (Nat.le_of_ble_eq_true rfl) ⟨by decide, by decide⟩ rfl ⟨by decide, by decide⟩ d_M_lowest_36 (k_M_copy hfl (a := 28) (b := 27) (hh := bh78) (ll := bl79) (V := va_up (va_up (va_up (va_up (va_up V 27 p) 28 q) 26 j83) 25 (p % q)) 24 (p / q)) (br := br) (hN := hN) (hO := (by rw [va_up_ne _ _ (by decide), va_up_ne _ _ (by decide)]; exact hO)) (hB := (by rw [va_up_ne _ _ (by decide), va_up_self])) (hL := (by rw [va_up_self])) (hR := hR86) (ha := by omega) (hb := by omega) (hxa := ((va_up_ne _ _ (by decide)).trans ((va_up_ne _ _ (by decide)).trans ((va_up_ne _ _ (by decide)).trans (va_up_self ..))))) (bra := (hzz.2 28 (by decide) (by decide)))) (fun  F9 hq => ?_)
        obtain ⟨bh87, bl88, hR89, eF9⟩ := hq
        refine J_eqF (F2 := va_up (va_up F 99 (.inl (g 0, 858, .inl (aI bh87)))) 100 (.inl (g 0, 33, .inl (aI bl88)))) (eF9.trans (Eq.trans (congrArg (fun q : Nat → va_E => va_up q 100 (.inl (g 0, 33, .inl (aI bl88)))) (up_in1 (by decide))) (up_in0))) ?_
        have hR92 := reg_w1 (hzz.1 _) hR89
        have hR93 := (congrArg (fun qq : Nat → Nat => reg _ _ _ (qq)) (up_in4 (by decide) (by decide) (by decide) (by decide))).mp hR92
        refine J_aload_n 0 d_M_lowest_39 rfl rfl ?_
        refine J_bipush d_M_lowest_40 (i8_ok (by decide)) ?_
        refine J_bipush d_M_lowest_42 (i8_ok (by decide)) ?_
        refine J_callVv cw_M_58 nh_M_copy pn_M_copy rfl rfl (by omega) (by rw [va_up_ne _ _ (by decide), va_up_ne _ _ (by decide)]; exact hO) (As := [.int (iI 25), .int (iI 28)]) (rest := []) rfl (Nat.le_of_ble_eq_true rfl) ⟨by decide, by decide⟩ rfl ⟨by decide, by decide⟩ d_M_lowest_44 (k_M_copy hfl (a := 25) (b := 28) (hh := bh87) (ll := bl88) (V := va_up (va_up (va_up (va_up (va_up V 27 q) 28 q) 26 j83) 25 (p % q)) 24 (p / q)) (br := br) (hN := hN) (hO := (by rw [va_up_ne _ _ (by decide), va_up_ne _ _ (by decide)]; exact hO)) (hB := (by rw [va_up_ne _ _ (by decide), va_up_self])) (hL := (by rw [va_up_self])) (hR := hR93) (ha := by omega) (hb := by omega) (hxa := ((va_up_ne _ _ (by decide)).trans (va_up_self ..))) (bra := (hzz.2 25 (by decide) (by decide)))) (fun  F10 hq => ?_)
        obtain ⟨bh94, bl95, hR96, eF10⟩ := hq
        refine J_eqF (F2 := va_up (va_up F 99 (.inl (g 0, 858, .inl (aI bh94)))) 100 (.inl (g 0, 33, .inl (aI bl95)))) (eF10.trans (Eq.trans (congrArg (fun q : Nat → va_E => va_up q 100 (.inl (g 0, 33, .inl (aI bl95)))) (up_in1 (by decide))) (up_in0))) ?_
        have hR99 := reg_w1 (hzz.1 _) hR96
        have hR100 := (congrArg (fun qq : Nat → Nat => reg _ _ _ (qq)) (up_in3 (by decide) (by decide) (by decide))).mp hR99
        refine J_goto (tgt := 14) d_M_lowest_47 (by decide) ?_
        exact ih bh94 bl95 q (p % q) j83 (p % q) (p / q) (by rw [← hpq]; exact (Nat.gcd_rec q p).symm) hlq (Nat.le_trans lnw_mod8 hlp) hR100 (by have := Nat.mod_lt p (Nat.pos_of_ne_zero (by omega : q ≠ 0)); omega)
  have hx_ := (congrArg (reg _ _ _) (up_same1 (i := 26) (a := (V 26)) ((va_up_ne _ _ (by decide)).trans (va_up_ne _ _ (by decide))))).mp hR46
  have hy_26 := hx_
  have hx_ := (congrArg (reg _ _ _) (up_same1 (i := 25) (a := (V 25)) ((va_up_ne _ _ (by decide)).trans ((va_up_ne _ _ (by decide)).trans (va_up_ne _ _ (by decide)))))).mp hy_26
  have hy_25 := hx_
  have hx_ := (congrArg (reg _ _ _) (up_same1 (i := 24) (a := (V 24)) ((va_up_ne _ _ (by decide)).trans ((va_up_ne _ _ (by decide)).trans ((va_up_ne _ _ (by decide)).trans (va_up_ne _ _ (by decide))))))).mp hy_25
  have hy_24 := hx_
  exact loop14 ((V d) + 1) bh41 bl42 (V u) (V d) (V 26) (V 25) (V 24) (Nat.gcd_comm _ _) hlu hld hy_24 (Nat.lt_succ_self _)
