/-! the Model: the nearest real -/
theorem far_isR {X Y : Nat} (hX : 0 < X) (hY : 0 < Y) {b : Int} (hb : b = 53 + blen Y - blen X) (h : 160 < b ∨ b < -60) : ¬ isR (nq X Y (ns X Y)) (-ns X Y) := by
  have hn : ns X Y = b ∨ ns X Y = b - 1 := by unfold ns; split <;> omega
  obtain ⟨q1, q2⟩ := nq_rng hY (ns_inR hX hY)
  have b1 : blen (nq X Y (ns X Y)) ≤ 54 := blen_le.mpr (by omega)
  have b2 : ¬ blen (nq X Y (ns X Y)) ≤ 52 := fun z => by have := blen_le.mp z; omega
  unfold isR
  omega
theorem near_isR {s : Int} {X Y : Nat} (hX : 0 < X) (hY : 0 < Y) : (isR (nq X Y (ns X Y)) (-ns X Y) → near s X Y = some (2, s, lowu (su (nq X Y (ns X Y)) (-ns X Y)) (sd 1 (-ns X Y)), lowd (su (nq X Y (ns X Y)) (-ns X Y)) (sd 1 (-ns X Y)))) ∧ (¬ isR (nq X Y (ns X Y)) (-ns X Y) → near s X Y = none) := by
  obtain ⟨q1, q2⟩ := nq_rng hY (ns_inR hX hY)
  have : (-100 ≤ (blen (nq X Y (ns X Y)) : Int) - 1 - ns X Y ∧ (blen (nq X Y (ns X Y)) : Int) - 1 - ns X Y ≤ 99) ↔ isR (nq X Y (ns X Y)) (-ns X Y) := by unfold isR; omega
  constructor
  · intro c
    unfold near
    rw [if_neg (by omega), if_pos (this.mpr c)]
  · intro c
    unfold near
    rw [if_neg (by omega), if_neg (fun w => c (this.mp w))]
theorem nq_rnd {X Y : Nat} {n : Int} : nq X Y n = if sd Y n < su X n % sd Y n * 2 ^ 1 ∨ (su X n % sd Y n * 2 ^ 1 = sd Y n ∧ su X n / sd Y n % 2 = 1) then su X n / sd Y n + 1 else su X n / sd Y n := by
  unfold nq rnd
  by_cases c : sd Y n < su X n % sd Y n * 2 ^ 1 ∨ (su X n % sd Y n * 2 ^ 1 = sd Y n ∧ su X n / sd Y n % 2 = 1)
  · rw [if_pos c, if_pos (by omega)]
  · rw [if_neg c, if_neg (by omega)]
theorem k_M_quotient {l : Launch} (hfl : l.flags = flags0) {D : va_G} {g : Nat → ClassId} {ad : Nat → Nat} {N : Nat} {F : Nat → va_E} {u d : Nat} {s : Int} {hh ll : Nat → Int} {V : Nat → Nat} {br : Nat → Nat} {vs : List Value} {xu xd : Nat} (hxu : V u = xu) (hxd : V d = xd)
    (hN : 109 ≤ N) (hO : F 98 = .inr (8, .ref (ad 99) :: .ref (ad 100) :: vs)) (hB : F 99 = aB g hh) (hL : F 100 = aL g ll) (hR : reg br hh ll V) (hu : u < 33) (hd : d < 33) (bru : br u = 0) (brd : br d = 0) (hzz : okB br) (hu2 : ¬(24 ≤ u ∧ u ≤ 30)) (hd2 : ¬(24 ≤ d ∧ d ≤ 30)) (hs : -2000 ≤ s ∧ s ≤ 2000) (hd0 : xd ≠ 0) (hlu : lnw 28 xu + s.toNat / 28 + 1 ≤ 25) (hld : lnw 28 xd + (-s).toNat / 28 + 1 ≤ 25) :
    JC l y_M_quotient b_M_quotient 4 (Option.none : Option Jvm.ClassFile.FieldType) rm_M_quotient (0, 0) D jCl (jTys g) ad N F [.ref (ad 98), .int (iI (u : Int)), .int (iI (d : Int)), .int (iI s)] (jv ad N (fun F' => ∃ (hh' ll' : Nat → Int) (j : Nat), reg br hh' ll' (va_up (va_up (va_up (va_up (va_up V 29 (xu * 2 ^ s.toNat)) 30 (xd * 2 ^ (-s).toNat)) 26 j) 25 (xu * 2 ^ s.toNat % (xd * 2 ^ (-s).toNat))) 24 (xu * 2 ^ s.toNat / (xd * 2 ^ (-s).toNat))) ∧ F' = va_up (va_up F 99 (aB g hh')) 100 (aL g ll'))) := by
  subst hxu hxd
  exact c_M_quotient hfl hN hO hB hL hR hu hd bru brd hzz hu2 hd2 hs hd0 hlu hld
theorem k_M_low {l : Launch} (hfl : l.flags = flags0) {D : va_G} {g : Nat → ClassId} {ad : Nat → Nat} {N : Nat} {F : Nat → va_E} {a : Nat} {hh ll : Nat → Int} {V : Nat → Nat} {br : Nat → Nat} {vs : List Value} {xa : Nat} (hxa : V a = xa)
    (hN : 109 ≤ N) (hO : F 98 = .inr (8, .ref (ad 99) :: .ref (ad 100) :: vs)) (hB : F 99 = aB g hh) (hL : F 100 = aL g ll) (hR : reg br hh ll V) (ha : a < 33) (bra : br a = 0) :
    JC l y_M_low b_M_low 2 (Option.some Jvm.ClassFile.FieldType.long) rm_M_low (0, 0) D jCl (jTys g) ad N F [.ref (ad 98), .int (iI (a : Int))] (jl ad N (fun z F' => z = ((xa % 18446744073709551616 : Nat) : Int) ∧ F' = F)) := by
  subst hxa
  exact c_M_low hfl hN hO hB hL hR ha bra
set_option maxRecDepth 100000 in
set_option maxHeartbeats 4000000 in
theorem c_M_nearest {l : Launch} (hfl : l.flags = flags0) {D : va_G} {g : Nat → ClassId} {ad : Nat → Nat} {N : Nat} {F : Nat → va_E} {hh ll f : Nat → Int} {v : UInt64} {V : Nat → Nat} {br : Nat → Nat} {u d X Y : Nat}
    (hN : 109 ≤ N) (hO : F 98 = oM ad f v) (hB : F 99 = aB g hh) (hL : F 100 = aL g ll) (hR : reg br hh ll V) (hzz : okB br) (hu : u < 24) (hd : d < 24) (bru : br u = 0) (brd : br d = 0) (hX : V u = X) (hY : V d = Y) (hY0 : 0 < Y) (hlX : lnw 28 X ≤ 18) (hlY : lnw 28 Y ≤ 18) (hbX : blen X ≤ 504) (hbY : blen Y ≤ 504) :
    JC l y_M_nearest b_M_nearest 10 (Option.some Jvm.ClassFile.FieldType.double) rm_M_nearest (0, 0) D jCl (jTys g) ad N F [.ref (ad 98), .int (iI (u : Int)), .int (iI (d : Int))] (jd ad N (fun z F' => ∃ (hh' ll' : Nat → Int) (W : Nat → Nat) (b : Int), reg br hh' ll' W ∧ (∀ k, ¬(24 ≤ k ∧ k ≤ 30) → W k = V k) ∧ ((X ≠ 0 ∧ ¬ isR (nq X Y (ns X Y)) (-ns X Y) ∧ b = 1 ∧ z = fd false 0 0) ∨ (X = 0 ∧ b = 0 ∧ z = fd false 0 0) ∨ (X ≠ 0 ∧ isR (nq X Y (ns X Y)) (-ns X Y) ∧ b = 0 ∧ z = fd false (nq X Y (ns X Y)) (-ns X Y))) ∧ F' = va_up (va_up (va_up F 98 (oM ad (va_up f 8 b) v)) 99 (aB g hh')) 100 (aL g ll'))) := by
  refine JC.go hfl (own := "NumberTowerModel") (lv := [(0, .ref (ad 98)), (1, .int (iI (u : Int))), (2, .int (iI (d : Int)))]) rfl (by decide +kernel) (Nat.le_of_ble_eq_true rfl) rfl (fun A => ?_)
  refine J_aload_n 0 d_M_nearest_0 rfl rfl ?_
  refine J_iconst d_M_nearest_1 ?_
  refine pf_M_94 (by omega) hO (Nat.le_of_ble_eq_true rfl) (nb01 (by omega)) d_M_nearest_2 ?_
  refine J_eqF (F2 := va_up F 98 (oM ad (va_up f 8 0) v)) rfl ?_
  refine J_aload_n 0 d_M_nearest_5 rfl rfl ?_
  refine J_iload_n 1 d_M_nearest_6 rfl rfl ?_
  refine J_callVi cw_M_75 nh_M_zero pn_M_zero rfl rfl (by omega) (by rw [va_up_self]) (As := [.int (iI (u : Int))]) (rest := []) rfl (Nat.le_of_ble_eq_true rfl) ⟨by decide, by decide⟩ rfl ⟨by decide, by decide⟩ d_M_nearest_7 (k_M_zero hfl (a := u) (hh := hh) (ll := ll) (V := V) (br := br) (hN := hN) (hO := (by rw [va_up_self])) (hB := (by rw [va_up_ne _ _ (by decide)]; exact hB)) (hL := (by rw [va_up_ne _ _ (by decide)]; exact hL)) (hR := hR) (ha := by omega) (hxa := hX) (bra := bru)) (fun z1 F1 hq => ?_)
  obtain ⟨hz1, eF1⟩ := hq
  refine J_eqF eF1 ?_
  refine J_ifeq (tgt := 15) d_M_nearest_10 (by decide) ⟨by omega, by omega⟩ (fun c10 => ?_) (fun c10 => ?_)
  · refine J_bipush d_M_nearest_15 (i8_ok (by decide)) ?_
    refine J_aload_n 0 d_M_nearest_17 rfl rfl ?_
    refine J_iload_n 1 d_M_nearest_18 rfl rfl ?_
    refine J_callVi cw_M_62 nh_M_bits pn_M_bits rfl rfl (by omega) (by rw [va_up_self]) (As := [.int (iI (u : Int))]) (rest := [.int (iI 53)]) rfl (Nat.le_of_ble_eq_true rfl) ⟨by decide, by decide⟩ rfl ⟨by decide, by decide⟩ d_M_nearest_19 (k_M_bits hfl (a := u) (hh := hh) (ll := ll) (V := V) (br := br) (hN := hN) (hO := (by rw [va_up_self])) (hB := (by rw [va_up_ne _ _ (by decide)]; exact hB)) (hL := (by rw [va_up_ne _ _ (by decide)]; exact hL)) (hR := hR) (ha := by omega) (hxa := hX) (bra := bru)) (fun z2 F2 hq => ?_)
    obtain ⟨hz2, eF2⟩ := hq
    refine J_eqF eF2 ?_
    refine J_topi (r := (((blen X : Nat)) : Int)) (congrArg iI hz2) ?_
    refine J_isub d_M_nearest_22 ?_
    refine J_aload_n 0 d_M_nearest_23 rfl rfl ?_
    refine J_iload_n 2 d_M_nearest_24 rfl rfl ?_
    refine J_callVi cw_M_62 nh_M_bits pn_M_bits rfl rfl (by omega) (by rw [va_up_self]) (As := [.int (iI (d : Int))]) (rest := [.int (iI (53 - (((blen X : Nat)) : Int)))]) rfl (Nat.le_of_ble_eq_true rfl) ⟨by decide, by decide⟩ rfl ⟨by decide, by decide⟩ d_M_nearest_25 (k_M_bits hfl (a := d) (hh := hh) (ll := ll) (V := V) (br := br) (hN := hN) (hO := (by rw [va_up_self])) (hB := (by rw [va_up_ne _ _ (by decide)]; exact hB)) (hL := (by rw [va_up_ne _ _ (by decide)]; exact hL)) (hR := hR) (ha := by omega) (hxa := hY) (bra := brd)) (fun z3 F3 hq => ?_)
    obtain ⟨hz3, eF3⟩ := hq
    refine J_eqF eF3 ?_
    refine J_topi (r := (((blen Y : Nat)) : Int)) (congrArg iI hz3) ?_
    refine J_iadd d_M_nearest_28 ?_
    obtain ⟨b0, hb0⟩ : ∃ b : Int, b = 53 + blen Y - blen X := ⟨_, rfl⟩
    have hX0 : X ≠ 0 := by omega
    have hns : ns X Y = if 9007199254740992 * sd Y b0 ≤ su X b0 then b0 - 1 else b0 := by
      unfold ns; rw [← hb0]; split <;> omega
    refine J_topi (r := b0) (congrArg iI (by omega)) ?_
    refine J_istore_n (lv' := [(3, .int (iI b0)), (0, .ref (ad 98)), (1, .int (iI (u : Int))), (2, .int (iI (d : Int)))]) d_M_nearest_29 rfl (by decide) rfl ?_
    refine J_aload_n 1 d_M_nearest_30 rfl rfl ?_
    have lab49 : ∀ (bb : Int) (hbb : (bb = 1 ∧ (160 < b0 ∨ b0 < -60)) ∨ (bb = 0 ∧ -60 ≤ b0 ∧ b0 ≤ 160)) , J l rm_M_nearest (0, 0) "NumberTowerModel" b_M_nearest 10 (Option.some Jvm.ClassFile.FieldType.double) D jCl (jTys g) A (fun _ me => me.name = y_M_nearest.name) (jd ad N (fun z F' => ∃ (hh' ll' : Nat → Int) (W : Nat → Nat) (b : Int), reg br hh' ll' W ∧ (∀ k, ¬(24 ≤ k ∧ k ≤ 30) → W k = V k) ∧ ((X ≠ 0 ∧ ¬ isR (nq X Y (ns X Y)) (-ns X Y) ∧ b = 1 ∧ z = fd false 0 0) ∨ (X = 0 ∧ b = 0 ∧ z = fd false 0 0) ∨ (X ≠ 0 ∧ isR (nq X Y (ns X Y)) (-ns X Y) ∧ b = 0 ∧ z = fd false (nq X Y (ns X Y)) (-ns X Y))) ∧ F' = va_up (va_up (va_up F 98 (oM ad (va_up f 8 b) v)) 99 (aB g hh')) 100 (aL g ll'))) ad N 0 0 49 [(0, .ref (ad 98)), (1, .int (iI (u : Int))), (2, .int (iI (d : Int))), (3, .int (iI b0))] [.int (iI bb), .ref (ad 98)] (va_up F 98 (oM ad (va_up f 8 0) v)) := by
      intro bb hbb
      refine pf_M_94 (by omega) (by rw [va_up_self]) (Nat.le_of_ble_eq_true rfl) (nb01 (by omega)) d_M_nearest_49 ?_
      refine J_eqF (F2 := va_up (va_up F 98 (oM ad (va_up f 8 0) v)) 98 (oM ad (va_up f 8 bb) v)) rfl ?_
      refine J_eqF (F2 := va_up F 98 (oM ad (va_up f 8 bb) v)) (up_in0) ?_
      refine J_aload_n 0 d_M_nearest_52 rfl rfl ?_
      refine gf_M_94 (by omega) (by rw [va_up_self]) rfl d_M_nearest_53 ?_
      refine J_topi (r := bb) (congrArg iI (va_up_self ..)) ?_
      refine J_ifeq (tgt := 61) d_M_nearest_56 (by decide) ⟨by omega, by omega⟩ (fun c56 => ?_) (fun c56 => ?_)
      · refine J_aload_n 0 d_M_nearest_61 rfl rfl ?_
        refine J_iload_n 1 d_M_nearest_62 rfl rfl ?_
        refine J_iload_n 2 d_M_nearest_63 rfl rfl ?_
        refine J_iload_n 3 d_M_nearest_64 rfl rfl ?_
        refine J_callVv cw_M_98 nh_M_quotient pn_M_quotient rfl rfl (by omega) (by rw [va_up_self]) (As := [.int (iI (u : Int)), .int (iI (d : Int)), .int (iI b0)]) (rest := []) rfl (Nat.le_of_ble_eq_true rfl) ⟨by decide, by decide⟩ rfl ⟨by decide, by decide⟩ d_M_nearest_65 (k_M_quotient hfl (u := u) (d := d) (s := b0) (hh := hh) (ll := ll) (V := V) (xu := X) (xd := Y) (hN := hN) (hO := (by rw [va_up_self])) (hB := (by rw [va_up_ne _ _ (by decide)]; exact hB)) (hL := (by rw [va_up_ne _ _ (by decide)]; exact hL)) (hR := hR) (hzz := hzz) (bru := bru) (brd := brd) (hu := by omega) (hd := by omega) (hu2 := by omega) (hd2 := by omega) (hs := by omega) (hd0 := by omega) (hlu := by omega) (hld := by omega) (hxu := hX) (hxd := hY)) (fun  F4 hq => ?_)
        obtain ⟨bh4, bl5, j6, hR7, eF4⟩ := hq
        refine J_eqF (F2 := va_up (va_up (va_up F 98 (oM ad (va_up f 8 bb) v)) 99 (.inl (g 0, 858, .inl (aI bh4)))) 100 (.inl (g 0, 33, .inl (aI bl5)))) eF4 ?_
        have hR8 := (congrArg (fun qq : Nat => reg _ _ _ (va_up (va_up (va_up (va_up (va_up V 29 qq) 30 (Y * 2 ^ (-b0).toNat)) 26 j6) 25 (X * 2 ^ (b0).toNat % (Y * 2 ^ (-b0).toNat))) 24 (X * 2 ^ (b0).toNat / (Y * 2 ^ (-b0).toNat)))) (show (X * 2 ^ (b0).toNat) = (su X b0) from rfl)).mp hR7
        have hR9 := (congrArg (fun qq : Nat => reg _ _ _ (va_up (va_up (va_up (va_up (va_up V 29 (su X b0)) 30 qq) 26 j6) 25 (X * 2 ^ (b0).toNat % (Y * 2 ^ (-b0).toNat))) 24 (X * 2 ^ (b0).toNat / (Y * 2 ^ (-b0).toNat)))) (show (Y * 2 ^ (-b0).toNat) = (sd Y b0) from rfl)).mp hR8
        have hR10 := (congrArg (fun qq : Nat => reg _ _ _ (va_up (va_up (va_up (va_up (va_up V 29 (su X b0)) 30 (sd Y b0)) 26 j6) 25 qq) 24 (X * 2 ^ (b0).toNat / (Y * 2 ^ (-b0).toNat)))) (show (X * 2 ^ (b0).toNat % (Y * 2 ^ (-b0).toNat)) = (su X b0 % sd Y b0) from rfl)).mp hR9
        have hR11 := (congrArg (fun qq : Nat => reg _ _ _ (va_up (va_up (va_up (va_up (va_up V 29 (su X b0)) 30 (sd Y b0)) 26 j6) 25 (su X b0 % sd Y b0)) 24 qq)) (show (X * 2 ^ (b0).toNat / (Y * 2 ^ (-b0).toNat)) = (su X b0 / sd Y b0) from rfl)).mp hR10
        have hsp := sd_pos hY0 b0
        have hq0 : blen (su X b0 / sd Y b0) ≤ 53 ↔ ¬ 9007199254740992 * sd Y b0 ≤ su X b0 := by
          rw [blen_le, Nat.div_lt_iff_lt_mul hsp]; omega
        have hq54 : blen (su X b0 / sd Y b0) ≤ 54 := by
          rw [blen_le, Nat.div_lt_iff_lt_mul hsp]
          have h := (s_rng (U := X) (D := Y) (by omega) hY0).2
          rw [← hb0] at h
          exact h
        refine J_aload_n 0 d_M_nearest_68 rfl rfl ?_
        refine J_bipush d_M_nearest_69 (i8_ok (by decide)) ?_
        refine J_callVi cw_M_62 nh_M_bits pn_M_bits rfl rfl (by omega) (by rw [va_up_ne _ _ (by decide), va_up_ne _ _ (by decide), va_up_self]) (As := [.int (iI 24)]) (rest := []) rfl (Nat.le_of_ble_eq_true rfl) ⟨by decide, by decide⟩ rfl ⟨by decide, by decide⟩ d_M_nearest_71 (k_M_bits hfl (a := 24) (hh := bh4) (ll := bl5) (V := va_up (va_up (va_up (va_up (va_up V 29 (su X b0)) 30 (sd Y b0)) 26 j6) 25 (su X b0 % sd Y b0)) 24 (su X b0 / sd Y b0)) (br := br) (hN := hN) (hO := (by rw [va_up_ne _ _ (by decide), va_up_ne _ _ (by decide), va_up_self])) (hB := (by rw [va_up_ne _ _ (by decide), va_up_self])) (hL := (by rw [va_up_self])) (hR := hR11) (ha := by omega) (hxa := (va_up_self ..)) (bra := (hzz.2 24 (by decide) (by decide)))) (fun z12 F5 hq => ?_)
        obtain ⟨hz12, eF5⟩ := hq
        refine J_eqF eF5 ?_
        refine J_topi (r := (((blen (su X b0 / sd Y b0) : Nat)) : Int)) (congrArg iI hz12) ?_
        refine J_bipush d_M_nearest_74 (i8_ok (by decide)) ?_
        refine J_if_icmple (tgt := 89) d_M_nearest_76 (by decide) ⟨by omega, by omega⟩ ⟨by omega, by omega⟩ (fun c76 => ?_) (fun c76 => ?_)
        · refine J_pick (lv' := [(0, .ref (ad 98)), (3, .int (iI b0))]) [0, 3] rfl ?_
          have lab89 : ∀ (n : Int) (j3 : Nat) (w29 : Nat) (e1 : Nat → Int) (e2 : Nat → Int) (hn : n = ns X Y) (hRL89 : reg br e1 e2 (va_up (va_up (va_up (va_up (va_up V 29 w29) 30 (sd Y n)) 26 j3) 25 (su X n % sd Y n)) 24 (su X n / sd Y n))) , J l rm_M_nearest (0, 0) "NumberTowerModel" b_M_nearest 10 (Option.some Jvm.ClassFile.FieldType.double) D jCl (jTys g) A (fun _ me => me.name = y_M_nearest.name) (jd ad N (fun z F' => ∃ (hh' ll' : Nat → Int) (W : Nat → Nat) (b : Int), reg br hh' ll' W ∧ (∀ k, ¬(24 ≤ k ∧ k ≤ 30) → W k = V k) ∧ ((X ≠ 0 ∧ ¬ isR (nq X Y (ns X Y)) (-ns X Y) ∧ b = 1 ∧ z = fd false 0 0) ∨ (X = 0 ∧ b = 0 ∧ z = fd false 0 0) ∨ (X ≠ 0 ∧ isR (nq X Y (ns X Y)) (-ns X Y) ∧ b = 0 ∧ z = fd false (nq X Y (ns X Y)) (-ns X Y))) ∧ F' = va_up (va_up (va_up F 98 (oM ad (va_up f 8 b) v)) 99 (aB g hh')) 100 (aL g ll'))) ad N 0 0 89 [(0, .ref (ad 98)), (3, .int (iI n))] [] (va_up (va_up (va_up F 98 (oM ad (va_up f 8 bb) v)) 99 (.inl (g 0, 858, .inl (aI e1)))) 100 (.inl (g 0, 33, .inl (aI e2)))) := by
            intro n j3 w29 e1 e2 hn hRL89
            have hnb : b0 - 1 ≤ n ∧ n ≤ b0 := by rw [hn, hns]; split <;> omega
            obtain ⟨i1, i2⟩ := ns_inR (Nat.pos_of_ne_zero hX0) hY0
            rw [← hn] at i1 i2
            have hsp := sd_pos hY0 n
            obtain ⟨q1, q2⟩ := nq_rng hY0 (ns_inR (Nat.pos_of_ne_zero hX0) hY0)
            have hqb : su X n / sd Y n < 9007199254740992 := by rw [Nat.div_lt_iff_lt_mul hsp]; exact i2
            have hrb := Nat.mod_lt (su X n) hsp
            have hsl : lnw 28 (sd Y n) ≤ 25 := by
              unfold sd
              exact Nat.le_trans lnw_up8 (by omega)
            have hrl : lnw 28 (su X n % sd Y n) ≤ 25 := Nat.le_trans (lnw_mono8 (Nat.le_of_lt hrb)) hsl
            have hc1 := cmpN_gt (a := su X n % sd Y n * 2 ^ 1) (b := sd Y n)
            have hc2 := cmpN_0 (a := su X n % sd Y n * 2 ^ 1) (b := sd Y n)
            have hc3 := cmpN_rng (su X n % sd Y n * 2 ^ 1) (sd Y n)
            have hnq := nq_rnd (X := X) (Y := Y) (n := n)
            have hq53 : exD (nq X Y (ns X Y)) 0 := ⟨q2, by decide, by decide⟩
            refine J_aload_n 0 d_M_nearest_89 rfl rfl ?_
            refine J_bipush d_M_nearest_90 (i8_ok (by decide)) ?_
            refine J_callVl cw_M_101 nh_M_low pn_M_low rfl rfl (by omega) (by rw [va_up_ne _ _ (by decide), va_up_ne _ _ (by decide), va_up_self]) (As := [.int (iI 24)]) (rest := []) rfl (Nat.le_of_ble_eq_true rfl) ⟨by decide, by decide⟩ rfl ⟨by decide, by decide⟩ d_M_nearest_92 (k_M_low hfl (a := 24) (hh := e1) (ll := e2) (V := va_up (va_up (va_up (va_up (va_up V 29 w29) 30 (sd Y n)) 26 j3) 25 (su X n % sd Y n)) 24 (su X n / sd Y n)) (br := br) (hN := hN) (hO := (by rw [va_up_ne _ _ (by decide), va_up_ne _ _ (by decide), va_up_self])) (hB := (by rw [va_up_ne _ _ (by decide), va_up_self])) (hL := (by rw [va_up_self])) (hR := hRL89) (ha := by omega) (hxa := (va_up_self ..)) (bra := (hzz.2 24 (by decide) (by decide)))) (fun z13 F6 hq => ?_)
            obtain ⟨hz13, eF6⟩ := hq
            refine J_eqF eF6 ?_
            refine J_topl (r := (((su X n / sd Y n) % 18446744073709551616 : Nat) : Int)) (congrArg lI hz13) ?_
            refine J_topl (r := ((su X n / sd Y n : Nat) : Int)) (congrArg lI (by rw [Nat.mod_eq_of_lt (Nat.lt_trans hqb (by decide))])) ?_
            refine J_lstore (lv' := [(4, .long (lI ((su X n / sd Y n : Nat) : Int))), (0, .ref (ad 98)), (3, .int (iI n))]) d_M_nearest_95 (by decide) rfl ?_
            refine J_aload_n 1 d_M_nearest_97 rfl rfl ?_
            refine J_bipush d_M_nearest_98 (i8_ok (by decide)) ?_
            refine J_iconst d_M_nearest_100 ?_
            refine J_callVv cw_M_66 nh_M_up pn_M_up rfl rfl (by omega) (by rw [va_up_ne _ _ (by decide), va_up_ne _ _ (by decide), va_up_self]) (As := [.int (iI 25), .int (iI 1)]) (rest := []) rfl (Nat.le_of_ble_eq_true rfl) ⟨by decide, by decide⟩ rfl ⟨by decide, by decide⟩ d_M_nearest_101 (k_M_up hfl (a := 25) (n := 1) (hh := e1) (ll := e2) (V := va_up (va_up (va_up (va_up (va_up V 29 w29) 30 (sd Y n)) 26 j3) 25 (su X n % sd Y n)) 24 (su X n / sd Y n)) (br := br) (hN := hN) (hO := (by rw [va_up_ne _ _ (by decide), va_up_ne _ _ (by decide), va_up_self])) (hB := (by rw [va_up_ne _ _ (by decide), va_up_self])) (hL := (by rw [va_up_self])) (hR := hRL89) (ha := by omega) (hxa := ((va_up_ne _ _ (by decide)).trans (va_up_self ..))) (bra := (hzz.2 25 (by decide) (by decide))) (hn := by omega) (hT := Or.inr (by omega))) (fun  F7 hq => ?_)
            obtain ⟨bh14, bl15, hR16, eF7⟩ := hq
            refine J_eqF (F2 := va_up (va_up (va_up F 98 (oM ad (va_up f 8 bb) v)) 99 (.inl (g 0, 858, .inl (aI bh14)))) 100 (.inl (g 0, 33, .inl (aI bl15)))) (eF7.trans (Eq.trans (congrArg (fun q : Nat → va_E => va_up q 100 (.inl (g 0, 33, .inl (aI bl15)))) (up_in1 (by decide))) (up_in0))) ?_
            have hR19 := reg_w1 (hzz.1 _) hR16
            have hR20 := (congrArg (fun qq : Nat → Nat => reg _ _ _ (qq)) (up_in1 (by decide))).mp hR19
            refine J_aload_n 1 d_M_nearest_104 rfl rfl ?_
            refine J_bipush d_M_nearest_105 (i8_ok (by decide)) ?_
            refine J_bipush d_M_nearest_107 (i8_ok (by decide)) ?_
            refine J_callVi cw_M_105 nh_M_order pn_M_order rfl rfl (by omega) (by rw [va_up_ne _ _ (by decide), va_up_ne _ _ (by decide), va_up_self]) (As := [.int (iI 25), .int (iI 30)]) (rest := []) rfl (Nat.le_of_ble_eq_true rfl) ⟨by decide, by decide⟩ rfl ⟨by decide, by decide⟩ d_M_nearest_109 (k_M_order hfl (a := 25) (b := 30) (hh := bh14) (ll := bl15) (V := va_up (va_up (va_up (va_up (va_up V 29 w29) 30 (sd Y n)) 26 j3) 25 ((su X n % sd Y n) * 2 ^ 1)) 24 (su X n / sd Y n)) (br := br) (hN := hN) (hO := (by rw [va_up_ne _ _ (by decide), va_up_ne _ _ (by decide), va_up_self])) (hB := (by rw [va_up_ne _ _ (by decide), va_up_self])) (hL := (by rw [va_up_self])) (hR := hR20) (ha := by omega) (hb := by omega) (hxa := ((va_up_ne _ _ (by decide)).trans (va_up_self ..))) (bra := (hzz.2 25 (by decide) (by decide))) (hxb := ((va_up_ne _ _ (by decide)).trans ((va_up_ne _ _ (by decide)).trans ((va_up_ne _ _ (by decide)).trans (va_up_self ..))))) (brb := (hzz.2 30 (by decide) (by decide)))) (fun z21 F8 hq => ?_)
            obtain ⟨hz21, eF8⟩ := hq
            refine J_eqF eF8 ?_
            refine J_topi (r := cmpN ((su X n % sd Y n) * 2 ^ 1) (sd Y n)) (congrArg iI hz21) ?_
            refine J_istore (lv' := [(6, .int (iI (cmpN ((su X n % sd Y n) * 2 ^ 1) (sd Y n)))), (4, .long (lI ((su X n / sd Y n : Nat) : Int))), (0, .ref (ad 98)), (3, .int (iI n))]) d_M_nearest_112 (by decide) rfl ?_
            have lab139 : ∀ (qq : Nat) (hqq : qq = nq X Y n) , J l rm_M_nearest (0, 0) "NumberTowerModel" b_M_nearest 10 (Option.some Jvm.ClassFile.FieldType.double) D jCl (jTys g) A (fun _ me => me.name = y_M_nearest.name) (jd ad N (fun z F' => ∃ (hh' ll' : Nat → Int) (W : Nat → Nat) (b : Int), reg br hh' ll' W ∧ (∀ k, ¬(24 ≤ k ∧ k ≤ 30) → W k = V k) ∧ ((X ≠ 0 ∧ ¬ isR (nq X Y (ns X Y)) (-ns X Y) ∧ b = 1 ∧ z = fd false 0 0) ∨ (X = 0 ∧ b = 0 ∧ z = fd false 0 0) ∨ (X ≠ 0 ∧ isR (nq X Y (ns X Y)) (-ns X Y) ∧ b = 0 ∧ z = fd false (nq X Y (ns X Y)) (-ns X Y))) ∧ F' = va_up (va_up (va_up F 98 (oM ad (va_up f 8 b) v)) 99 (aB g hh')) 100 (aL g ll'))) ad N 0 0 139 [(0, .ref (ad 98)), (3, .int (iI n)), (4, .long (lI (qq : Int)))] [] (va_up (va_up (va_up F 98 (oM ad (va_up f 8 bb) v)) 99 (.inl (g 0, 858, .inl (aI bh14)))) 100 (.inl (g 0, 33, .inl (aI bl15)))) := by
              intro qq hqq
              have hqb2 : qq ≤ 9007199254740992 := by rw [hqq, hn]; exact q2
              refine J_lload 2 d_M_nearest_139 rfl ?_
              refine J_l2d d_M_nearest_141 ?_
              refine J_topd (y := (fd false qq (-0))) (by rw [show Jvm.FP.l2d (lI (qq : Int)) = _ from fd_l2d (by omega)]; rfl) ?_
              refine J_dstore (lv' := [(7, .double (fd false qq (-0))), (0, .ref (ad 98)), (3, .int (iI n)), (4, .long (lI (qq : Int)))]) d_M_nearest_142 (by decide) rfl ?_
              refine J_iconst d_M_nearest_144 ?_
              refine J_istore (lv' := [(9, .int (iI 0)), (7, .double (fd false qq (-0))), (0, .ref (ad 98)), (3, .int (iI n)), (4, .long (lI (qq : Int)))]) d_M_nearest_145 (by decide) rfl ?_
              refine J_pick (lv' := [(0, .ref (ad 98)), (3, .int (iI n)), (7, .double (fd false qq (-0))), (9, .int (iI 0))]) [2, 3, 1, 0] rfl ?_
              have loop147 : ∀ (fuel : Nat) (k : Int) (hk : 0 ≤ k ∧ (k = 0 ∨ k ≤ n)) (hfu : (n - k).toNat < fuel), J l rm_M_nearest (0, 0) "NumberTowerModel" b_M_nearest 10 (Option.some Jvm.ClassFile.FieldType.double) D jCl (jTys g) A (fun _ me => me.name = y_M_nearest.name) (jd ad N (fun z F' => ∃ (hh' ll' : Nat → Int) (W : Nat → Nat) (b : Int), reg br hh' ll' W ∧ (∀ k, ¬(24 ≤ k ∧ k ≤ 30) → W k = V k) ∧ ((X ≠ 0 ∧ ¬ isR (nq X Y (ns X Y)) (-ns X Y) ∧ b = 1 ∧ z = fd false 0 0) ∨ (X = 0 ∧ b = 0 ∧ z = fd false 0 0) ∨ (X ≠ 0 ∧ isR (nq X Y (ns X Y)) (-ns X Y) ∧ b = 0 ∧ z = fd false (nq X Y (ns X Y)) (-ns X Y))) ∧ F' = va_up (va_up (va_up F 98 (oM ad (va_up f 8 b) v)) 99 (aB g hh')) 100 (aL g ll'))) ad N 0 0 147 [(0, .ref (ad 98)), (3, .int (iI n)), (7, .double (fd false qq (-k))), (9, .int (iI k))] [] (va_up (va_up (va_up F 98 (oM ad (va_up f 8 bb) v)) 99 (.inl (g 0, 858, .inl (aI bh14)))) 100 (.inl (g 0, 33, .inl (aI bl15)))) := by
                intro fuel
                induction fuel with
                | zero => intro k hk hfu; exact absurd hfu (Nat.not_lt_zero _)
                | succ fuel ih =>
                  intro k hk hfu
                  refine J_iload 3 d_M_nearest_147 rfl ?_
                  refine J_iload_n 1 d_M_nearest_149 rfl rfl ?_
                  refine J_if_icmpge (tgt := 167) d_M_nearest_150 (by decide) ⟨by omega, by omega⟩ ⟨by omega, by omega⟩ (fun c150 => ?_) (fun c150 => ?_)
                  · obtain ⟨p, hp⟩ : ∃ p : Int, p = k := ⟨_, rfl⟩
                    refine J_iconst d_M_nearest_167 ?_
                    refine J_istore (lv' := [(9, .int (iI 0)), (0, .ref (ad 98)), (3, .int (iI n)), (7, .double (fd false qq (-k)))]) d_M_nearest_168 (by decide) rfl ?_
                    refine J_pick (lv' := [(0, .ref (ad 98)), (3, .int (iI n)), (7, .double (fd false qq (-k))), (9, .int (iI 0))]) [1, 2, 3, 0] rfl ?_
                    have loop170 : ∀ (fuel : Nat) (k : Int) (dv : UInt64) (hk2 : k ≤ 0 ∧ (k = 0 ∨ n ≤ k)) (hdv : dv = fd false qq (-p - k)) (hfu : (k - n).toNat < fuel), J l rm_M_nearest (0, 0) "NumberTowerModel" b_M_nearest 10 (Option.some Jvm.ClassFile.FieldType.double) D jCl (jTys g) A (fun _ me => me.name = y_M_nearest.name) (jd ad N (fun z F' => ∃ (hh' ll' : Nat → Int) (W : Nat → Nat) (b : Int), reg br hh' ll' W ∧ (∀ k, ¬(24 ≤ k ∧ k ≤ 30) → W k = V k) ∧ ((X ≠ 0 ∧ ¬ isR (nq X Y (ns X Y)) (-ns X Y) ∧ b = 1 ∧ z = fd false 0 0) ∨ (X = 0 ∧ b = 0 ∧ z = fd false 0 0) ∨ (X ≠ 0 ∧ isR (nq X Y (ns X Y)) (-ns X Y) ∧ b = 0 ∧ z = fd false (nq X Y (ns X Y)) (-ns X Y))) ∧ F' = va_up (va_up (va_up F 98 (oM ad (va_up f 8 b) v)) 99 (aB g hh')) 100 (aL g ll'))) ad N 0 0 170 [(0, .ref (ad 98)), (3, .int (iI n)), (7, .double dv), (9, .int (iI k))] [] (va_up (va_up (va_up F 98 (oM ad (va_up f 8 bb) v)) 99 (.inl (g 0, 858, .inl (aI bh14)))) 100 (.inl (g 0, 33, .inl (aI bl15)))) := by
                      intro fuel
                      induction fuel with
                      | zero => intro k dv hk2 hdv hfu; exact absurd hfu (Nat.not_lt_zero _)
                      | succ fuel ih =>
                        intro k dv hk2 hdv hfu
                        refine J_iload 3 d_M_nearest_170 rfl ?_
                        refine J_iload_n 1 d_M_nearest_172 rfl rfl ?_
                        refine J_if_icmple (tgt := 190) d_M_nearest_173 (by decide) ⟨by omega, by omega⟩ ⟨by omega, by omega⟩ (fun c173 => ?_) (fun c173 => ?_)
                        · have hpk : -p - k = -n := by omega
                          have hqe : qq = nq X Y (ns X Y) := by rw [hqq, hn]
                          have hfv : fd false qq (-p - k) = fd false (nq X Y (ns X Y)) (-ns X Y) := by rw [hpk, hqe, hn]
                          refine J_aload_n 0 d_M_nearest_190 rfl rfl ?_
                          have lab204 : ∀ (b2 : Int) (hb2 : (b2 = 0 ∧ isR (nq X Y (ns X Y)) (-ns X Y)) ∨ (b2 = 1 ∧ ¬ isR (nq X Y (ns X Y)) (-ns X Y))) , J l rm_M_nearest (0, 0) "NumberTowerModel" b_M_nearest 10 (Option.some Jvm.ClassFile.FieldType.double) D jCl (jTys g) A (fun _ me => me.name = y_M_nearest.name) (jd ad N (fun z F' => ∃ (hh' ll' : Nat → Int) (W : Nat → Nat) (b : Int), reg br hh' ll' W ∧ (∀ k, ¬(24 ≤ k ∧ k ≤ 30) → W k = V k) ∧ ((X ≠ 0 ∧ ¬ isR (nq X Y (ns X Y)) (-ns X Y) ∧ b = 1 ∧ z = fd false 0 0) ∨ (X = 0 ∧ b = 0 ∧ z = fd false 0 0) ∨ (X ≠ 0 ∧ isR (nq X Y (ns X Y)) (-ns X Y) ∧ b = 0 ∧ z = fd false (nq X Y (ns X Y)) (-ns X Y))) ∧ F' = va_up (va_up (va_up F 98 (oM ad (va_up f 8 b) v)) 99 (aB g hh')) 100 (aL g ll'))) ad N 0 0 204 [(0, .ref (ad 98)), (7, .double dv)] [.int (iI b2), .ref (ad 98)] (va_up (va_up (va_up F 98 (oM ad (va_up f 8 bb) v)) 99 (.inl (g 0, 858, .inl (aI bh14)))) 100 (.inl (g 0, 33, .inl (aI bl15)))) := by
                            intro b2 hb2
                            refine pf_M_94 (by omega) (by rw [va_up_ne _ _ (by decide), va_up_ne _ _ (by decide), va_up_self]) (Nat.le_of_ble_eq_true rfl) (nb01 (by omega)) d_M_nearest_204 ?_
                            refine J_eqF (F2 := va_up (va_up (va_up (va_up F 98 (oM ad (va_up f 8 bb) v)) 99 (.inl (g 0, 858, .inl (aI bh14)))) 100 (.inl (g 0, 33, .inl (aI bl15)))) 98 (oM ad (va_up f 8 b2) v)) rfl ?_
                            refine J_eqF (F2 := va_up (va_up (va_up F 98 (oM ad (va_up f 8 b2) v)) 99 (.inl (g 0, 858, .inl (aI bh14)))) 100 (.inl (g 0, 33, .inl (aI bl15)))) (up_in2 (by decide) (by decide)) ?_
                            refine J_aload_n 0 d_M_nearest_207 rfl rfl ?_
                            refine gf_M_94 (by omega) (by rw [va_up_ne _ _ (by decide), va_up_ne _ _ (by decide), va_up_self]) rfl d_M_nearest_208 ?_
                            refine J_topi (r := b2) (congrArg iI (va_up_self ..)) ?_
                            refine J_ifeq (tgt := 218) d_M_nearest_211 (by decide) ⟨by omega, by omega⟩ (fun c211 => ?_) (fun c211 => ?_)
                            · refine J_dload 1 d_M_nearest_218 rfl ?_
                              refine J_dret rfl d_M_nearest_220 ⟨by decide, by decide⟩ ?_
                              exact ⟨_, rfl, rfl, rfl, _, _, _, b2, hR20, fun k hk => by rw [va_up_ne _ _ (by omega), va_up_ne _ _ (by omega), va_up_ne _ _ (by omega), va_up_ne _ _ (by omega), va_up_ne _ _ (by omega)], Or.inr (Or.inr ⟨by omega, by rcases hb2 with ⟨w1, w2⟩ | ⟨w1, w2⟩; exact w2; omega, by omega, hdv.trans hfv⟩), rfl⟩
                            · refine J_dconst0 d_M_nearest_214 ?_
                              refine J_goto (tgt := 220) d_M_nearest_215 (by decide) ?_
                              refine J_dret rfl d_M_nearest_220 ⟨by decide, by decide⟩ ?_
                              exact ⟨_, rfl, rfl, rfl, _, _, _, b2, hR20, fun k hk => by rw [va_up_ne _ _ (by omega), va_up_ne _ _ (by omega), va_up_ne _ _ (by omega), va_up_ne _ _ (by omega), va_up_ne _ _ (by omega)], Or.inl ⟨by omega, by rcases hb2 with ⟨w1, w2⟩ | ⟨w1, w2⟩; omega; exact w2, by omega, c_d0⟩, rfl⟩
                          refine J_dload 2 d_M_nearest_191 rfl ?_
                          refine J_topd (y := (fd false (nq X Y (ns X Y)) (-ns X Y))) (hdv.trans hfv) ?_
                          refine J_callSi cw_M_108 nh_M_isReal pn_M_isReal rfl (As := [.double (fd false (nq X Y (ns X Y)) (-ns X Y))]) (rest := [.ref (ad 98)]) rfl (Nat.le_of_ble_eq_true rfl) ⟨by decide, by decide⟩ rfl ⟨by decide, by decide⟩ d_M_nearest_193 (c_M_isReal hfl (q := nq X Y (ns X Y)) (e := -ns X Y) ⟨by omega, by omega, by omega⟩ ⟨by omega, by omega⟩) (fun ir F9 hq => ?_)
                          obtain ⟨hir, eF9⟩ := hq
                          refine J_eqF eF9 ?_
                          refine J_ifne (tgt := 203) d_M_nearest_196 (by decide) ⟨by omega, by omega⟩ (fun c196 => ?_) (fun c196 => ?_)
                          · refine J_iconst d_M_nearest_203 ?_
                            refine J_pick (lv' := [(0, .ref (ad 98)), (7, .double dv)]) [0, 2] rfl ?_
                            exact lab204 (0 : Int) (by rcases hir with ⟨w1, w2⟩ | ⟨w1, w2⟩ <;> first | exact Or.inl ⟨rfl, w2⟩ | exact Or.inr ⟨rfl, w2⟩ | omega)
                          · refine J_iconst d_M_nearest_199 ?_
                            refine J_goto (tgt := 204) d_M_nearest_200 (by decide) ?_
                            refine J_pick (lv' := [(0, .ref (ad 98)), (7, .double dv)]) [0, 2] rfl ?_
                            exact lab204 (1 : Int) (by rcases hir with ⟨w1, w2⟩ | ⟨w1, w2⟩ <;> first | exact Or.inl ⟨rfl, w2⟩ | exact Or.inr ⟨rfl, w2⟩ | omega)
                        · refine J_dload 2 d_M_nearest_176 rfl ?_
                          refine J_topd (y := (fd false qq (-p - k))) hdv ?_
                          refine J_ldc2d d_M_nearest_178 wd_1156 ?_
                          refine J_topd (y := (fd false 1 1)) c_two ?_
                          refine J_dmul (r := (fd false qq (-p - k + 1))) d_M_nearest_181 (fd_two ⟨by omega, by omega, by omega⟩) (fd_n64 _ _ _) ?_
                          refine J_topd (y := (fd false qq (-p - (k - 1)))) (by rw [show -p - (k - 1) = -p - k + 1 by omega]) ?_
                          refine J_dstore (lv' := [(7, .double (fd false qq (-p - (k - 1)))), (0, .ref (ad 98)), (3, .int (iI n)), (9, .int (iI k))]) d_M_nearest_182 (by decide) rfl ?_
                          refine J_iinc (j := 3) (b := k - 1) (lv' := [(9, .int (iI (k - 1))), (7, .double (fd false qq (-p - (k - 1)))), (0, .ref (ad 98)), (3, .int (iI n))]) d_M_nearest_184 rfl (by omega) (by decide) rfl ?_
                          refine J_goto (tgt := 170) d_M_nearest_187 (by decide) ?_
                          refine J_pick (lv' := [(0, .ref (ad 98)), (3, .int (iI n)), (7, .double (fd false qq (-p - (k - 1)))), (9, .int (iI (k - 1)))]) [2, 3, 1, 0] rfl ?_
                          exact ih (k - 1) (fd false qq (-p - (k - 1))) (by omega) rfl (by omega)
                    exact loop170 ((((0 : Int) - n).toNat) + 1) (0 : Int) (fd false qq (-k)) (by omega) (by rw [hp, Int.sub_zero]) (Nat.lt_succ_self _)
                  · refine J_dload 2 d_M_nearest_153 rfl ?_
                    refine J_ldc2d d_M_nearest_155 wd_1155 ?_
                    refine J_topd (y := (fd false 1 (-1))) c_half ?_
                    refine J_dmul (r := (fd false qq (-k - 1))) d_M_nearest_158 (fd_half ⟨by omega, by omega, by omega⟩) (fd_n64 _ _ _) ?_
                    refine J_topd (y := (fd false qq (-(k + 1)))) (by rw [show -(k + 1) = -k - 1 by omega]) ?_
                    refine J_dstore (lv' := [(7, .double (fd false qq (-(k + 1)))), (0, .ref (ad 98)), (3, .int (iI n)), (9, .int (iI k))]) d_M_nearest_159 (by decide) rfl ?_
                    refine J_iinc (j := 3) (b := k + 1) (lv' := [(9, .int (iI (k + 1))), (7, .double (fd false qq (-(k + 1)))), (0, .ref (ad 98)), (3, .int (iI n))]) d_M_nearest_161 rfl (by omega) (by decide) rfl ?_
                    refine J_goto (tgt := 147) d_M_nearest_164 (by decide) ?_
                    refine J_pick (lv' := [(0, .ref (ad 98)), (3, .int (iI n)), (7, .double (fd false qq (-(k + 1)))), (9, .int (iI (k + 1)))]) [2, 3, 1, 0] rfl ?_
                    exact ih (k + 1) (by omega) (by omega)
              exact loop147 (((n - (0 : Int)).toNat) + 1) (0 : Int) (by omega) (Nat.lt_succ_self _)
            refine J_iload 0 d_M_nearest_114 rfl ?_
            refine J_ifgt (tgt := 133) d_M_nearest_116 (by decide) ⟨by omega, by omega⟩ (fun c116 => ?_) (fun c116 => ?_)
            · refine J_lload 1 d_M_nearest_133 rfl ?_
              refine J_lconst (v := 1) d_M_nearest_135 rfl ?_
              refine J_ladd d_M_nearest_136 ?_
              refine J_topl (r := ((su X n / sd Y n + 1 : Nat) : Int)) (congrArg lI (by omega)) ?_
              refine J_lstore (lv' := [(4, .long (lI ((su X n / sd Y n + 1 : Nat) : Int))), (6, .int (iI (cmpN ((su X n % sd Y n) * 2 ^ 1) (sd Y n)))), (0, .ref (ad 98)), (3, .int (iI n))]) d_M_nearest_137 (by decide) rfl ?_
              refine J_pick (lv' := [(0, .ref (ad 98)), (3, .int (iI n)), (4, .long (lI ((su X n / sd Y n + 1 : Nat) : Int)))]) [2, 3, 0] rfl ?_
              exact lab139 (su X n / sd Y n + 1) (by rw [hnq]; first | rw [if_pos (by omega)] | rw [if_neg (by omega)])
            · refine J_iload 0 d_M_nearest_119 rfl ?_
              refine J_ifne (tgt := 139) d_M_nearest_121 (by decide) ⟨by omega, by omega⟩ (fun c121 => ?_) (fun c121 => ?_)
              · refine J_pick (lv' := [(0, .ref (ad 98)), (3, .int (iI n)), (4, .long (lI ((su X n / sd Y n : Nat) : Int)))]) [2, 3, 1] rfl ?_
                exact lab139 (su X n / sd Y n) (by rw [hnq]; first | rw [if_pos (by omega)] | rw [if_neg (by omega)])
              · refine J_lload 1 d_M_nearest_124 rfl ?_
                refine J_lconst (v := 1) d_M_nearest_126 rfl ?_
                refine J_land (r := (((su X n / sd Y n) % 2 : Nat) : Int)) d_M_nearest_127 (lI_andn 1 (by decide)) ?_
                refine J_lconst (v := 1) d_M_nearest_128 rfl ?_
                refine J_lcmpne (tgt := 139) d_M_nearest_129 d_M_nearest_130 (by decide) ⟨by omega, by omega⟩ ⟨by omega, by omega⟩ (fun c129 => ?_) (fun c129 => ?_)
                · refine J_pick (lv' := [(0, .ref (ad 98)), (3, .int (iI n)), (4, .long (lI ((su X n / sd Y n : Nat) : Int)))]) [2, 3, 1] rfl ?_
                  exact lab139 (su X n / sd Y n) (by rw [hnq]; first | rw [if_pos (by omega)] | rw [if_neg (by omega)])
                · refine J_lload 1 d_M_nearest_133 rfl ?_
                  refine J_lconst (v := 1) d_M_nearest_135 rfl ?_
                  refine J_ladd d_M_nearest_136 ?_
                  refine J_topl (r := ((su X n / sd Y n + 1 : Nat) : Int)) (congrArg lI (by omega)) ?_
                  refine J_lstore (lv' := [(4, .long (lI ((su X n / sd Y n + 1 : Nat) : Int))), (6, .int (iI (cmpN ((su X n % sd Y n) * 2 ^ 1) (sd Y n)))), (0, .ref (ad 98)), (3, .int (iI n))]) d_M_nearest_137 (by decide) rfl ?_
                  refine J_pick (lv' := [(0, .ref (ad 98)), (3, .int (iI n)), (4, .long (lI ((su X n / sd Y n + 1 : Nat) : Int)))]) [2, 3, 0] rfl ?_
                  exact lab139 (su X n / sd Y n + 1) (by rw [hnq]; first | rw [if_pos (by omega)] | rw [if_neg (by omega)])
          exact lab89 b0 j6 (su X b0) bh4 bl5 (by rw [hns]; first | rw [if_pos (by omega)] | rw [if_neg (by omega)]) hR11
        · refine J_iinc (j := 3) (b := b0 - 1) (lv' := [(3, .int (iI (b0 - 1))), (0, .ref (ad 98)), (1, .int (iI (u : Int))), (2, .int (iI (d : Int)))]) d_M_nearest_79 rfl (by omega) (by decide) rfl ?_
          refine J_aload_n 1 d_M_nearest_82 rfl rfl ?_
          refine J_iload_n 2 d_M_nearest_83 rfl rfl ?_
          refine J_iload_n 3 d_M_nearest_84 rfl rfl ?_
          refine J_iload_n 0 d_M_nearest_85 rfl rfl ?_
          refine J_callVv cw_M_98 nh_M_quotient pn_M_quotient rfl rfl (by omega) (by rw [va_up_ne _ _ (by decide), va_up_ne _ _ (by decide), va_up_self]) (As := [.int (iI (u : Int)), .int (iI (d : Int)), .int (iI (b0 - 1))]) (rest := []) rfl (Nat.le_of_ble_eq_true rfl) ⟨by decide, by decide⟩ rfl ⟨by decide, by decide⟩ d_M_nearest_86 (k_M_quotient hfl (u := u) (d := d) (s := b0 - 1) (hh := bh4) (ll := bl5) (V := va_up (va_up (va_up (va_up (va_up V 29 (su X b0)) 30 (sd Y b0)) 26 j6) 25 (su X b0 % sd Y b0)) 24 (su X b0 / sd Y b0)) (xu := X) (xd := Y) (hN := hN) (hO := (by rw [va_up_ne _ _ (by decide), va_up_ne _ _ (by decide), va_up_self])) (hB := (by rw [va_up_ne _ _ (by decide), va_up_self])) (hL := (by rw [va_up_self])) (hR := hR11) (hzz := hzz) (bru := bru) (brd := brd) (hu := by omega) (hd := by omega) (hu2 := by omega) (hd2 := by omega) (hs := by omega) (hd0 := by omega) (hlu := by omega) (hld := by omega) (hxu := ((va_up_ne _ _ (by omega)).trans ((va_up_ne _ _ (by omega)).trans ((va_up_ne _ _ (by omega)).trans ((va_up_ne _ _ (by omega)).trans ((va_up_ne _ _ (by omega)).trans hX)))))) (hxd := ((va_up_ne _ _ (by omega)).trans ((va_up_ne _ _ (by omega)).trans ((va_up_ne _ _ (by omega)).trans ((va_up_ne _ _ (by omega)).trans ((va_up_ne _ _ (by omega)).trans hY))))))) (fun  F10 hq => ?_)
          obtain ⟨bh22, bl23, j24, hR25, eF10⟩ := hq
          refine J_eqF (F2 := va_up (va_up (va_up F 98 (oM ad (va_up f 8 bb) v)) 99 (.inl (g 0, 858, .inl (aI bh22)))) 100 (.inl (g 0, 33, .inl (aI bl23)))) (eF10.trans (Eq.trans (congrArg (fun q : Nat → va_E => va_up q 100 (.inl (g 0, 33, .inl (aI bl23)))) (up_in1 (by decide))) (up_in0))) ?_
          have hR26 := (congrArg (fun qq : Nat → Nat => reg _ _ _ (va_up (va_up (va_up (va_up (qq) 30 (Y * 2 ^ (-(b0 - 1)).toNat)) 26 j24) 25 (X * 2 ^ (b0 - 1).toNat % (Y * 2 ^ (-(b0 - 1)).toNat))) 24 (X * 2 ^ (b0 - 1).toNat / (Y * 2 ^ (-(b0 - 1)).toNat)))) (up_in4 (by decide) (by decide) (by decide) (by decide))).mp hR25
          have hR27 := (congrArg (fun qq : Nat → Nat => reg _ _ _ (va_up (va_up (va_up (qq) 26 j24) 25 (X * 2 ^ (b0 - 1).toNat % (Y * 2 ^ (-(b0 - 1)).toNat))) 24 (X * 2 ^ (b0 - 1).toNat / (Y * 2 ^ (-(b0 - 1)).toNat)))) (up_in3 (by decide) (by decide) (by decide))).mp hR26
          have hR28 := (congrArg (fun qq : Nat → Nat => reg _ _ _ (va_up (va_up (qq) 25 (X * 2 ^ (b0 - 1).toNat % (Y * 2 ^ (-(b0 - 1)).toNat))) 24 (X * 2 ^ (b0 - 1).toNat / (Y * 2 ^ (-(b0 - 1)).toNat)))) (up_in2 (by decide) (by decide))).mp hR27
          have hR29 := (congrArg (fun qq : Nat → Nat => reg _ _ _ (va_up (qq) 24 (X * 2 ^ (b0 - 1).toNat / (Y * 2 ^ (-(b0 - 1)).toNat)))) (up_in1 (by decide))).mp hR28
          have hR30 := (congrArg (fun qq : Nat → Nat => reg _ _ _ (qq)) (up_in0)).mp hR29
          have hR31 := (congrArg (fun qq : Nat => reg _ _ _ (va_up (va_up (va_up (va_up (va_up V 29 qq) 30 (Y * 2 ^ (-(b0 - 1)).toNat)) 26 j24) 25 (X * 2 ^ (b0 - 1).toNat % (Y * 2 ^ (-(b0 - 1)).toNat))) 24 (X * 2 ^ (b0 - 1).toNat / (Y * 2 ^ (-(b0 - 1)).toNat)))) (show (X * 2 ^ (b0 - 1).toNat) = (su X (b0 - 1)) from rfl)).mp hR30
          have hR32 := (congrArg (fun qq : Nat => reg _ _ _ (va_up (va_up (va_up (va_up (va_up V 29 (su X (b0 - 1))) 30 qq) 26 j24) 25 (X * 2 ^ (b0 - 1).toNat % (Y * 2 ^ (-(b0 - 1)).toNat))) 24 (X * 2 ^ (b0 - 1).toNat / (Y * 2 ^ (-(b0 - 1)).toNat)))) (show (Y * 2 ^ (-(b0 - 1)).toNat) = (sd Y (b0 - 1)) from rfl)).mp hR31
          have hR33 := (congrArg (fun qq : Nat => reg _ _ _ (va_up (va_up (va_up (va_up (va_up V 29 (su X (b0 - 1))) 30 (sd Y (b0 - 1))) 26 j24) 25 qq) 24 (X * 2 ^ (b0 - 1).toNat / (Y * 2 ^ (-(b0 - 1)).toNat)))) (show (X * 2 ^ (b0 - 1).toNat % (Y * 2 ^ (-(b0 - 1)).toNat)) = (su X (b0 - 1) % sd Y (b0 - 1)) from rfl)).mp hR32
          have hR34 := (congrArg (fun qq : Nat => reg _ _ _ (va_up (va_up (va_up (va_up (va_up V 29 (su X (b0 - 1))) 30 (sd Y (b0 - 1))) 26 j24) 25 (su X (b0 - 1) % sd Y (b0 - 1))) 24 qq)) (show (X * 2 ^ (b0 - 1).toNat / (Y * 2 ^ (-(b0 - 1)).toNat)) = (su X (b0 - 1) / sd Y (b0 - 1)) from rfl)).mp hR33
          refine J_pick (lv' := [(0, .ref (ad 98)), (3, .int (iI (b0 - 1)))]) [1, 0] rfl ?_
          have lab89 : ∀ (n : Int) (j3 : Nat) (w29 : Nat) (e1 : Nat → Int) (e2 : Nat → Int) (hn : n = ns X Y) (hRL89 : reg br e1 e2 (va_up (va_up (va_up (va_up (va_up V 29 w29) 30 (sd Y n)) 26 j3) 25 (su X n % sd Y n)) 24 (su X n / sd Y n))) , J l rm_M_nearest (0, 0) "NumberTowerModel" b_M_nearest 10 (Option.some Jvm.ClassFile.FieldType.double) D jCl (jTys g) A (fun _ me => me.name = y_M_nearest.name) (jd ad N (fun z F' => ∃ (hh' ll' : Nat → Int) (W : Nat → Nat) (b : Int), reg br hh' ll' W ∧ (∀ k, ¬(24 ≤ k ∧ k ≤ 30) → W k = V k) ∧ ((X ≠ 0 ∧ ¬ isR (nq X Y (ns X Y)) (-ns X Y) ∧ b = 1 ∧ z = fd false 0 0) ∨ (X = 0 ∧ b = 0 ∧ z = fd false 0 0) ∨ (X ≠ 0 ∧ isR (nq X Y (ns X Y)) (-ns X Y) ∧ b = 0 ∧ z = fd false (nq X Y (ns X Y)) (-ns X Y))) ∧ F' = va_up (va_up (va_up F 98 (oM ad (va_up f 8 b) v)) 99 (aB g hh')) 100 (aL g ll'))) ad N 0 0 89 [(0, .ref (ad 98)), (3, .int (iI n))] [] (va_up (va_up (va_up F 98 (oM ad (va_up f 8 bb) v)) 99 (.inl (g 0, 858, .inl (aI e1)))) 100 (.inl (g 0, 33, .inl (aI e2)))) := by
            intro n j3 w29 e1 e2 hn hRL89
            have hnb : b0 - 1 ≤ n ∧ n ≤ b0 := by rw [hn, hns]; split <;> omega
            obtain ⟨i1, i2⟩ := ns_inR (Nat.pos_of_ne_zero hX0) hY0
            rw [← hn] at i1 i2
            have hsp := sd_pos hY0 n
            obtain ⟨q1, q2⟩ := nq_rng hY0 (ns_inR (Nat.pos_of_ne_zero hX0) hY0)
            have hqb : su X n / sd Y n < 9007199254740992 := by rw [Nat.div_lt_iff_lt_mul hsp]; exact i2
            have hrb := Nat.mod_lt (su X n) hsp
            have hsl : lnw 28 (sd Y n) ≤ 25 := by
              unfold sd
              exact Nat.le_trans lnw_up8 (by omega)
            have hrl : lnw 28 (su X n % sd Y n) ≤ 25 := Nat.le_trans (lnw_mono8 (Nat.le_of_lt hrb)) hsl
            have hc1 := cmpN_gt (a := su X n % sd Y n * 2 ^ 1) (b := sd Y n)
            have hc2 := cmpN_0 (a := su X n % sd Y n * 2 ^ 1) (b := sd Y n)
            have hc3 := cmpN_rng (su X n % sd Y n * 2 ^ 1) (sd Y n)
            have hnq := nq_rnd (X := X) (Y := Y) (n := n)
            have hq53 : exD (nq X Y (ns X Y)) 0 := ⟨q2, by decide, by decide⟩
            refine J_aload_n 0 d_M_nearest_89 rfl rfl ?_
            refine J_bipush d_M_nearest_90 (i8_ok (by decide)) ?_
            refine J_callVl cw_M_101 nh_M_low pn_M_low rfl rfl (by omega) (by rw [va_up_ne _ _ (by decide), va_up_ne _ _ (by decide), va_up_self]) (As := [.int (iI 24)]) (rest := []) rfl (Nat.le_of_ble_eq_true rfl) ⟨by decide, by decide⟩ rfl ⟨by decide, by decide⟩ d_M_nearest_92 (k_M_low hfl (a := 24) (hh := e1) (ll := e2) (V := va_up (va_up (va_up (va_up (va_up V 29 w29) 30 (sd Y n)) 26 j3) 25 (su X n % sd Y n)) 24 (su X n / sd Y n)) (br := br) (hN := hN) (hO := (by rw [va_up_ne _ _ (by decide), va_up_ne _ _ (by decide), va_up_self])) (hB := (by rw [va_up_ne _ _ (by decide), va_up_self])) (hL := (by rw [va_up_self])) (hR := hRL89) (ha := by omega) (hxa := (va_up_self ..)) (bra := (hzz.2 24 (by decide) (by decide)))) (fun z35 F11 hq => ?_)
            obtain ⟨hz35, eF11⟩ := hq
            refine J_eqF eF11 ?_
            refine J_topl (r := (((su X n / sd Y n) % 18446744073709551616 : Nat) : Int)) (congrArg lI hz35) ?_
            refine J_topl (r := ((su X n / sd Y n : Nat) : Int)) (congrArg lI (by rw [Nat.mod_eq_of_lt (Nat.lt_trans hqb (by decide))])) ?_
            refine J_lstore (lv' := [(4, .long (lI ((su X n / sd Y n : Nat) : Int))), (0, .ref (ad 98)), (3, .int (iI n))]) d_M_nearest_95 (by decide) rfl ?_
            refine J_aload_n 1 d_M_nearest_97 rfl rfl ?_
            refine J_bipush d_M_nearest_98 (i8_ok (by decide)) ?_
            refine J_iconst d_M_nearest_100 ?_
            refine J_callVv cw_M_66 nh_M_up pn_M_up rfl rfl (by omega) (by rw [va_up_ne _ _ (by decide), va_up_ne _ _ (by decide), va_up_self]) (As := [.int (iI 25), .int (iI 1)]) (rest := []) rfl (Nat.le_of_ble_eq_true rfl) ⟨by decide, by decide⟩ rfl ⟨by decide, by decide⟩ d_M_nearest_101 (k_M_up hfl (a := 25) (n := 1) (hh := e1) (ll := e2) (V := va_up (va_up (va_up (va_up (va_up V 29 w29) 30 (sd Y n)) 26 j3) 25 (su X n % sd Y n)) 24 (su X n / sd Y n)) (br := br) (hN := hN) (hO := (by rw [va_up_ne _ _ (by decide), va_up_ne _ _ (by decide), va_up_self])) (hB := (by rw [va_up_ne _ _ (by decide), va_up_self])) (hL := (by rw [va_up_self])) (hR := hRL89) (ha := by omega) (hxa := ((va_up_ne _ _ (by decide)).trans (va_up_self ..))) (bra := (hzz.2 25 (by decide) (by decide))) (hn := by omega) (hT := Or.inr (by omega))) (fun  F12 hq => ?_)
            obtain ⟨bh36, bl37, hR38, eF12⟩ := hq
            refine J_eqF (F2 := va_up (va_up (va_up F 98 (oM ad (va_up f 8 bb) v)) 99 (.inl (g 0, 858, .inl (aI bh36)))) 100 (.inl (g 0, 33, .inl (aI bl37)))) (eF12.trans (Eq.trans (congrArg (fun q : Nat → va_E => va_up q 100 (.inl (g 0, 33, .inl (aI bl37)))) (up_in1 (by decide))) (up_in0))) ?_
            have hR41 := reg_w1 (hzz.1 _) hR38
            have hR42 := (congrArg (fun qq : Nat → Nat => reg _ _ _ (qq)) (up_in1 (by decide))).mp hR41
            refine J_aload_n 1 d_M_nearest_104 rfl rfl ?_
            refine J_bipush d_M_nearest_105 (i8_ok (by decide)) ?_
            refine J_bipush d_M_nearest_107 (i8_ok (by decide)) ?_
            refine J_callVi cw_M_105 nh_M_order pn_M_order rfl rfl (by omega) (by rw [va_up_ne _ _ (by decide), va_up_ne _ _ (by decide), va_up_self]) (As := [.int (iI 25), .int (iI 30)]) (rest := []) rfl (Nat.le_of_ble_eq_true rfl) ⟨by decide, by decide⟩ rfl ⟨by decide, by decide⟩ d_M_nearest_109 (k_M_order hfl (a := 25) (b := 30) (hh := bh36) (ll := bl37) (V := va_up (va_up (va_up (va_up (va_up V 29 w29) 30 (sd Y n)) 26 j3) 25 ((su X n % sd Y n) * 2 ^ 1)) 24 (su X n / sd Y n)) (br := br) (hN := hN) (hO := (by rw [va_up_ne _ _ (by decide), va_up_ne _ _ (by decide), va_up_self])) (hB := (by rw [va_up_ne _ _ (by decide), va_up_self])) (hL := (by rw [va_up_self])) (hR := hR42) (ha := by omega) (hb := by omega) (hxa := ((va_up_ne _ _ (by decide)).trans (va_up_self ..))) (bra := (hzz.2 25 (by decide) (by decide))) (hxb := ((va_up_ne _ _ (by decide)).trans ((va_up_ne _ _ (by decide)).trans ((va_up_ne _ _ (by decide)).trans (va_up_self ..))))) (brb := (hzz.2 30 (by decide) (by decide)))) (fun z43 F13 hq => ?_)
            obtain ⟨hz43, eF13⟩ := hq
            refine J_eqF eF13 ?_
            refine J_topi (r := cmpN ((su X n % sd Y n) * 2 ^ 1) (sd Y n)) (congrArg iI hz43) ?_
            refine J_istore (lv' := [(6, .int (iI (cmpN ((su X n % sd Y n) * 2 ^ 1) (sd Y n)))), (4, .long (lI ((su X n / sd Y n : Nat) : Int))), (0, .ref (ad 98)), (3, .int (iI n))]) d_M_nearest_112 (by decide) rfl ?_
            have lab139 : ∀ (qq : Nat) (hqq : qq = nq X Y n) , J l rm_M_nearest (0, 0) "NumberTowerModel" b_M_nearest 10 (Option.some Jvm.ClassFile.FieldType.double) D jCl (jTys g) A (fun _ me => me.name = y_M_nearest.name) (jd ad N (fun z F' => ∃ (hh' ll' : Nat → Int) (W : Nat → Nat) (b : Int), reg br hh' ll' W ∧ (∀ k, ¬(24 ≤ k ∧ k ≤ 30) → W k = V k) ∧ ((X ≠ 0 ∧ ¬ isR (nq X Y (ns X Y)) (-ns X Y) ∧ b = 1 ∧ z = fd false 0 0) ∨ (X = 0 ∧ b = 0 ∧ z = fd false 0 0) ∨ (X ≠ 0 ∧ isR (nq X Y (ns X Y)) (-ns X Y) ∧ b = 0 ∧ z = fd false (nq X Y (ns X Y)) (-ns X Y))) ∧ F' = va_up (va_up (va_up F 98 (oM ad (va_up f 8 b) v)) 99 (aB g hh')) 100 (aL g ll'))) ad N 0 0 139 [(0, .ref (ad 98)), (3, .int (iI n)), (4, .long (lI (qq : Int)))] [] (va_up (va_up (va_up F 98 (oM ad (va_up f 8 bb) v)) 99 (.inl (g 0, 858, .inl (aI bh36)))) 100 (.inl (g 0, 33, .inl (aI bl37)))) := by
              intro qq hqq
              have hqb2 : qq ≤ 9007199254740992 := by rw [hqq, hn]; exact q2
              refine J_lload 2 d_M_nearest_139 rfl ?_
              refine J_l2d d_M_nearest_141 ?_
              refine J_topd (y := (fd false qq (-0))) (by rw [show Jvm.FP.l2d (lI (qq : Int)) = _ from fd_l2d (by omega)]; rfl) ?_
              refine J_dstore (lv' := [(7, .double (fd false qq (-0))), (0, .ref (ad 98)), (3, .int (iI n)), (4, .long (lI (qq : Int)))]) d_M_nearest_142 (by decide) rfl ?_
              refine J_iconst d_M_nearest_144 ?_
              refine J_istore (lv' := [(9, .int (iI 0)), (7, .double (fd false qq (-0))), (0, .ref (ad 98)), (3, .int (iI n)), (4, .long (lI (qq : Int)))]) d_M_nearest_145 (by decide) rfl ?_
              refine J_pick (lv' := [(0, .ref (ad 98)), (3, .int (iI n)), (7, .double (fd false qq (-0))), (9, .int (iI 0))]) [2, 3, 1, 0] rfl ?_
              have loop147 : ∀ (fuel : Nat) (k : Int) (hk : 0 ≤ k ∧ (k = 0 ∨ k ≤ n)) (hfu : (n - k).toNat < fuel), J l rm_M_nearest (0, 0) "NumberTowerModel" b_M_nearest 10 (Option.some Jvm.ClassFile.FieldType.double) D jCl (jTys g) A (fun _ me => me.name = y_M_nearest.name) (jd ad N (fun z F' => ∃ (hh' ll' : Nat → Int) (W : Nat → Nat) (b : Int), reg br hh' ll' W ∧ (∀ k, ¬(24 ≤ k ∧ k ≤ 30) → W k = V k) ∧ ((X ≠ 0 ∧ ¬ isR (nq X Y (ns X Y)) (-ns X Y) ∧ b = 1 ∧ z = fd false 0 0) ∨ (X = 0 ∧ b = 0 ∧ z = fd false 0 0) ∨ (X ≠ 0 ∧ isR (nq X Y (ns X Y)) (-ns X Y) ∧ b = 0 ∧ z = fd false (nq X Y (ns X Y)) (-ns X Y))) ∧ F' = va_up (va_up (va_up F 98 (oM ad (va_up f 8 b) v)) 99 (aB g hh')) 100 (aL g ll'))) ad N 0 0 147 [(0, .ref (ad 98)), (3, .int (iI n)), (7, .double (fd false qq (-k))), (9, .int (iI k))] [] (va_up (va_up (va_up F 98 (oM ad (va_up f 8 bb) v)) 99 (.inl (g 0, 858, .inl (aI bh36)))) 100 (.inl (g 0, 33, .inl (aI bl37)))) := by
                intro fuel
                induction fuel with
                | zero => intro k hk hfu; exact absurd hfu (Nat.not_lt_zero _)
                | succ fuel ih =>
                  intro k hk hfu
                  refine J_iload 3 d_M_nearest_147 rfl ?_
                  refine J_iload_n 1 d_M_nearest_149 rfl rfl ?_
                  refine J_if_icmpge (tgt := 167) d_M_nearest_150 (by decide) ⟨by omega, by omega⟩ ⟨by omega, by omega⟩ (fun c150 => ?_) (fun c150 => ?_)
                  · obtain ⟨p, hp⟩ : ∃ p : Int, p = k := ⟨_, rfl⟩
                    refine J_iconst d_M_nearest_167 ?_
                    refine J_istore (lv' := [(9, .int (iI 0)), (0, .ref (ad 98)), (3, .int (iI n)), (7, .double (fd false qq (-k)))]) d_M_nearest_168 (by decide) rfl ?_
                    refine J_pick (lv' := [(0, .ref (ad 98)), (3, .int (iI n)), (7, .double (fd false qq (-k))), (9, .int (iI 0))]) [1, 2, 3, 0] rfl ?_
                    have loop170 : ∀ (fuel : Nat) (k : Int) (dv : UInt64) (hk2 : k ≤ 0 ∧ (k = 0 ∨ n ≤ k)) (hdv : dv = fd false qq (-p - k)) (hfu : (k - n).toNat < fuel), J l rm_M_nearest (0, 0) "NumberTowerModel" b_M_nearest 10 (Option.some Jvm.ClassFile.FieldType.double) D jCl (jTys g) A (fun _ me => me.name = y_M_nearest.name) (jd ad N (fun z F' => ∃ (hh' ll' : Nat → Int) (W : Nat → Nat) (b : Int), reg br hh' ll' W ∧ (∀ k, ¬(24 ≤ k ∧ k ≤ 30) → W k = V k) ∧ ((X ≠ 0 ∧ ¬ isR (nq X Y (ns X Y)) (-ns X Y) ∧ b = 1 ∧ z = fd false 0 0) ∨ (X = 0 ∧ b = 0 ∧ z = fd false 0 0) ∨ (X ≠ 0 ∧ isR (nq X Y (ns X Y)) (-ns X Y) ∧ b = 0 ∧ z = fd false (nq X Y (ns X Y)) (-ns X Y))) ∧ F' = va_up (va_up (va_up F 98 (oM ad (va_up f 8 b) v)) 99 (aB g hh')) 100 (aL g ll'))) ad N 0 0 170 [(0, .ref (ad 98)), (3, .int (iI n)), (7, .double dv), (9, .int (iI k))] [] (va_up (va_up (va_up F 98 (oM ad (va_up f 8 bb) v)) 99 (.inl (g 0, 858, .inl (aI bh36)))) 100 (.inl (g 0, 33, .inl (aI bl37)))) := by
                      intro fuel
                      induction fuel with
                      | zero => intro k dv hk2 hdv hfu; exact absurd hfu (Nat.not_lt_zero _)
                      | succ fuel ih =>
                        intro k dv hk2 hdv hfu
                        refine J_iload 3 d_M_nearest_170 rfl ?_
                        refine J_iload_n 1 d_M_nearest_172 rfl rfl ?_
                        refine J_if_icmple (tgt := 190) d_M_nearest_173 (by decide) ⟨by omega, by omega⟩ ⟨by omega, by omega⟩ (fun c173 => ?_) (fun c173 => ?_)
                        · have hpk : -p - k = -n := by omega
                          have hqe : qq = nq X Y (ns X Y) := by rw [hqq, hn]
                          have hfv : fd false qq (-p - k) = fd false (nq X Y (ns X Y)) (-ns X Y) := by rw [hpk, hqe, hn]
                          refine J_aload_n 0 d_M_nearest_190 rfl rfl ?_
                          have lab204 : ∀ (b2 : Int) (hb2 : (b2 = 0 ∧ isR (nq X Y (ns X Y)) (-ns X Y)) ∨ (b2 = 1 ∧ ¬ isR (nq X Y (ns X Y)) (-ns X Y))) , J l rm_M_nearest (0, 0) "NumberTowerModel" b_M_nearest 10 (Option.some Jvm.ClassFile.FieldType.double) D jCl (jTys g) A (fun _ me => me.name = y_M_nearest.name) (jd ad N (fun z F' => ∃ (hh' ll' : Nat → Int) (W : Nat → Nat) (b : Int), reg br hh' ll' W ∧ (∀ k, ¬(24 ≤ k ∧ k ≤ 30) → W k = V k) ∧ ((X ≠ 0 ∧ ¬ isR (nq X Y (ns X Y)) (-ns X Y) ∧ b = 1 ∧ z = fd false 0 0) ∨ (X = 0 ∧ b = 0 ∧ z = fd false 0 0) ∨ (X ≠ 0 ∧ isR (nq X Y (ns X Y)) (-ns X Y) ∧ b = 0 ∧ z = fd false (nq X Y (ns X Y)) (-ns X Y))) ∧ F' = va_up (va_up (va_up F 98 (oM ad (va_up f 8 b) v)) 99 (aB g hh')) 100 (aL g ll'))) ad N 0 0 204 [(0, .ref (ad 98)), (7, .double dv)] [.int (iI b2), .ref (ad 98)] (va_up (va_up (va_up F 98 (oM ad (va_up f 8 bb) v)) 99 (.inl (g 0, 858, .inl (aI bh36)))) 100 (.inl (g 0, 33, .inl (aI bl37)))) := by
                            intro b2 hb2
                            refine pf_M_94 (by omega) (by rw [va_up_ne _ _ (by decide), va_up_ne _ _ (by decide), va_up_self]) (Nat.le_of_ble_eq_true rfl) (nb01 (by omega)) d_M_nearest_204 ?_
                            refine J_eqF (F2 := va_up (va_up (va_up (va_up F 98 (oM ad (va_up f 8 bb) v)) 99 (.inl (g 0, 858, .inl (aI bh36)))) 100 (.inl (g 0, 33, .inl (aI bl37)))) 98 (oM ad (va_up f 8 b2) v)) rfl ?_
                            refine J_eqF (F2 := va_up (va_up (va_up F 98 (oM ad (va_up f 8 b2) v)) 99 (.inl (g 0, 858, .inl (aI bh36)))) 100 (.inl (g 0, 33, .inl (aI bl37)))) (up_in2 (by decide) (by decide)) ?_
                            refine J_aload_n 0 d_M_nearest_207 rfl rfl ?_
                            refine gf_M_94 (by omega) (by rw [va_up_ne _ _ (by decide), va_up_ne _ _ (by decide), va_up_self]) rfl d_M_nearest_208 ?_
                            refine J_topi (r := b2) (congrArg iI (va_up_self ..)) ?_
                            refine J_ifeq (tgt := 218) d_M_nearest_211 (by decide) ⟨by omega, by omega⟩ (fun c211 => ?_) (fun c211 => ?_)
                            · refine J_dload 1 d_M_nearest_218 rfl ?_
                              refine J_dret rfl d_M_nearest_220 ⟨by decide, by decide⟩ ?_
                              exact ⟨_, rfl, rfl, rfl, _, _, _, b2, hR42, fun k hk => by rw [va_up_ne _ _ (by omega), va_up_ne _ _ (by omega), va_up_ne _ _ (by omega), va_up_ne _ _ (by omega), va_up_ne _ _ (by omega)], Or.inr (Or.inr ⟨by omega, by rcases hb2 with ⟨w1, w2⟩ | ⟨w1, w2⟩; exact w2; omega, by omega, hdv.trans hfv⟩), rfl⟩
                            · refine J_dconst0 d_M_nearest_214 ?_
                              refine J_goto (tgt := 220) d_M_nearest_215 (by decide) ?_
                              refine J_dret rfl d_M_nearest_220 ⟨by decide, by decide⟩ ?_
                              exact ⟨_, rfl, rfl, rfl, _, _, _, b2, hR42, fun k hk => by rw [va_up_ne _ _ (by omega), va_up_ne _ _ (by omega), va_up_ne _ _ (by omega), va_up_ne _ _ (by omega), va_up_ne _ _ (by omega)], Or.inl ⟨by omega, by rcases hb2 with ⟨w1, w2⟩ | ⟨w1, w2⟩; omega; exact w2, by omega, c_d0⟩, rfl⟩
                          refine J_dload 2 d_M_nearest_191 rfl ?_
                          refine J_topd (y := (fd false (nq X Y (ns X Y)) (-ns X Y))) (hdv.trans hfv) ?_
                          refine J_callSi cw_M_108 nh_M_isReal pn_M_isReal rfl (As := [.double (fd false (nq X Y (ns X Y)) (-ns X Y))]) (rest := [.ref (ad 98)]) rfl (Nat.le_of_ble_eq_true rfl) ⟨by decide, by decide⟩ rfl ⟨by decide, by decide⟩ d_M_nearest_193 (c_M_isReal hfl (q := nq X Y (ns X Y)) (e := -ns X Y) ⟨by omega, by omega, by omega⟩ ⟨by omega, by omega⟩) (fun ir F14 hq => ?_)
                          obtain ⟨hir, eF14⟩ := hq
                          refine J_eqF eF14 ?_
                          refine J_ifne (tgt := 203) d_M_nearest_196 (by decide) ⟨by omega, by omega⟩ (fun c196 => ?_) (fun c196 => ?_)
                          · refine J_iconst d_M_nearest_203 ?_
                            refine J_pick (lv' := [(0, .ref (ad 98)), (7, .double dv)]) [0, 2] rfl ?_
                            exact lab204 (0 : Int) (by rcases hir with ⟨w1, w2⟩ | ⟨w1, w2⟩ <;> first | exact Or.inl ⟨rfl, w2⟩ | exact Or.inr ⟨rfl, w2⟩ | omega)
                          · refine J_iconst d_M_nearest_199 ?_
                            refine J_goto (tgt := 204) d_M_nearest_200 (by decide) ?_
                            refine J_pick (lv' := [(0, .ref (ad 98)), (7, .double dv)]) [0, 2] rfl ?_
                            exact lab204 (1 : Int) (by rcases hir with ⟨w1, w2⟩ | ⟨w1, w2⟩ <;> first | exact Or.inl ⟨rfl, w2⟩ | exact Or.inr ⟨rfl, w2⟩ | omega)
                        · refine J_dload 2 d_M_nearest_176 rfl ?_
                          refine J_topd (y := (fd false qq (-p - k))) hdv ?_
                          refine J_ldc2d d_M_nearest_178 wd_1156 ?_
                          refine J_topd (y := (fd false 1 1)) c_two ?_
                          refine J_dmul (r := (fd false qq (-p - k + 1))) d_M_nearest_181 (fd_two ⟨by omega, by omega, by omega⟩) (fd_n64 _ _ _) ?_
                          refine J_topd (y := (fd false qq (-p - (k - 1)))) (by rw [show -p - (k - 1) = -p - k + 1 by omega]) ?_
                          refine J_dstore (lv' := [(7, .double (fd false qq (-p - (k - 1)))), (0, .ref (ad 98)), (3, .int (iI n)), (9, .int (iI k))]) d_M_nearest_182 (by decide) rfl ?_
                          refine J_iinc (j := 3) (b := k - 1) (lv' := [(9, .int (iI (k - 1))), (7, .double (fd false qq (-p - (k - 1)))), (0, .ref (ad 98)), (3, .int (iI n))]) d_M_nearest_184 rfl (by omega) (by decide) rfl ?_
                          refine J_goto (tgt := 170) d_M_nearest_187 (by decide) ?_
                          refine J_pick (lv' := [(0, .ref (ad 98)), (3, .int (iI n)), (7, .double (fd false qq (-p - (k - 1)))), (9, .int (iI (k - 1)))]) [2, 3, 1, 0] rfl ?_
                          exact ih (k - 1) (fd false qq (-p - (k - 1))) (by omega) rfl (by omega)
                    exact loop170 ((((0 : Int) - n).toNat) + 1) (0 : Int) (fd false qq (-k)) (by omega) (by rw [hp, Int.sub_zero]) (Nat.lt_succ_self _)
                  · refine J_dload 2 d_M_nearest_153 rfl ?_
                    refine J_ldc2d d_M_nearest_155 wd_1155 ?_
                    refine J_topd (y := (fd false 1 (-1))) c_half ?_
                    refine J_dmul (r := (fd false qq (-k - 1))) d_M_nearest_158 (fd_half ⟨by omega, by omega, by omega⟩) (fd_n64 _ _ _) ?_
                    refine J_topd (y := (fd false qq (-(k + 1)))) (by rw [show -(k + 1) = -k - 1 by omega]) ?_
                    refine J_dstore (lv' := [(7, .double (fd false qq (-(k + 1)))), (0, .ref (ad 98)), (3, .int (iI n)), (9, .int (iI k))]) d_M_nearest_159 (by decide) rfl ?_
                    refine J_iinc (j := 3) (b := k + 1) (lv' := [(9, .int (iI (k + 1))), (7, .double (fd false qq (-(k + 1)))), (0, .ref (ad 98)), (3, .int (iI n))]) d_M_nearest_161 rfl (by omega) (by decide) rfl ?_
                    refine J_goto (tgt := 147) d_M_nearest_164 (by decide) ?_
                    refine J_pick (lv' := [(0, .ref (ad 98)), (3, .int (iI n)), (7, .double (fd false qq (-(k + 1)))), (9, .int (iI (k + 1)))]) [2, 3, 1, 0] rfl ?_
                    exact ih (k + 1) (by omega) (by omega)
              exact loop147 (((n - (0 : Int)).toNat) + 1) (0 : Int) (by omega) (Nat.lt_succ_self _)
            refine J_iload 0 d_M_nearest_114 rfl ?_
            refine J_ifgt (tgt := 133) d_M_nearest_116 (by decide) ⟨by omega, by omega⟩ (fun c116 => ?_) (fun c116 => ?_)
            · refine J_lload 1 d_M_nearest_133 rfl ?_
              refine J_lconst (v := 1) d_M_nearest_135 rfl ?_
              refine J_ladd d_M_nearest_136 ?_
              refine J_topl (r := ((su X n / sd Y n + 1 : Nat) : Int)) (congrArg lI (by omega)) ?_
              refine J_lstore (lv' := [(4, .long (lI ((su X n / sd Y n + 1 : Nat) : Int))), (6, .int (iI (cmpN ((su X n % sd Y n) * 2 ^ 1) (sd Y n)))), (0, .ref (ad 98)), (3, .int (iI n))]) d_M_nearest_137 (by decide) rfl ?_
              refine J_pick (lv' := [(0, .ref (ad 98)), (3, .int (iI n)), (4, .long (lI ((su X n / sd Y n + 1 : Nat) : Int)))]) [2, 3, 0] rfl ?_
              exact lab139 (su X n / sd Y n + 1) (by rw [hnq]; first | rw [if_pos (by omega)] | rw [if_neg (by omega)])
            · refine J_iload 0 d_M_nearest_119 rfl ?_
              refine J_ifne (tgt := 139) d_M_nearest_121 (by decide) ⟨by omega, by omega⟩ (fun c121 => ?_) (fun c121 => ?_)
              · refine J_pick (lv' := [(0, .ref (ad 98)), (3, .int (iI n)), (4, .long (lI ((su X n / sd Y n : Nat) : Int)))]) [2, 3, 1] rfl ?_
                exact lab139 (su X n / sd Y n) (by rw [hnq]; first | rw [if_pos (by omega)] | rw [if_neg (by omega)])
              · refine J_lload 1 d_M_nearest_124 rfl ?_
                refine J_lconst (v := 1) d_M_nearest_126 rfl ?_
                refine J_land (r := (((su X n / sd Y n) % 2 : Nat) : Int)) d_M_nearest_127 (lI_andn 1 (by decide)) ?_
                refine J_lconst (v := 1) d_M_nearest_128 rfl ?_
                refine J_lcmpne (tgt := 139) d_M_nearest_129 d_M_nearest_130 (by decide) ⟨by omega, by omega⟩ ⟨by omega, by omega⟩ (fun c129 => ?_) (fun c129 => ?_)
                · refine J_pick (lv' := [(0, .ref (ad 98)), (3, .int (iI n)), (4, .long (lI ((su X n / sd Y n : Nat) : Int)))]) [2, 3, 1] rfl ?_
                  exact lab139 (su X n / sd Y n) (by rw [hnq]; first | rw [if_pos (by omega)] | rw [if_neg (by omega)])
                · refine J_lload 1 d_M_nearest_133 rfl ?_
                  refine J_lconst (v := 1) d_M_nearest_135 rfl ?_
                  refine J_ladd d_M_nearest_136 ?_
                  refine J_topl (r := ((su X n / sd Y n + 1 : Nat) : Int)) (congrArg lI (by omega)) ?_
                  refine J_lstore (lv' := [(4, .long (lI ((su X n / sd Y n + 1 : Nat) : Int))), (6, .int (iI (cmpN ((su X n % sd Y n) * 2 ^ 1) (sd Y n)))), (0, .ref (ad 98)), (3, .int (iI n))]) d_M_nearest_137 (by decide) rfl ?_
                  refine J_pick (lv' := [(0, .ref (ad 98)), (3, .int (iI n)), (4, .long (lI ((su X n / sd Y n + 1 : Nat) : Int)))]) [2, 3, 0] rfl ?_
                  exact lab139 (su X n / sd Y n + 1) (by rw [hnq]; first | rw [if_pos (by omega)] | rw [if_neg (by omega)])
          exact lab89 (b0 - 1) j24 (su X (b0 - 1)) bh22 bl23 (by rw [hns]; first | rw [if_pos (by omega)] | rw [if_neg (by omega)]) hR34
      · refine J_dconst0 d_M_nearest_59 ?_
        refine J_eqF (F2 := va_up (va_up F 98 (oM ad (va_up f 8 bb) v)) 99 (.inl (g 0, 858, .inl (aI hh)))) (up_same1 (by rw [va_up_ne _ _ (by decide)]; exact hB)) ?_
        refine J_eqF (F2 := va_up (va_up (va_up F 98 (oM ad (va_up f 8 bb) v)) 99 (.inl (g 0, 858, .inl (aI hh)))) 100 (.inl (g 0, 33, .inl (aI ll)))) (up_same1 (by rw [va_up_ne _ _ (by decide), va_up_ne _ _ (by decide)]; exact hL)) ?_
        refine J_dret rfl d_M_nearest_60 ⟨by decide, by decide⟩ ?_
        exact ⟨_, rfl, rfl, rfl, hh, ll, V, bb, hR, fun _ _ => rfl, Or.inl ⟨by omega, far_isR (by omega) hY0 hb0 (by omega), by omega, c_d0⟩, rfl⟩
    refine J_iload_n 0 d_M_nearest_31 rfl rfl ?_
    refine J_sipush d_M_nearest_32 (i16_ok (by decide)) ?_
    refine J_if_icmpgt (tgt := 44) d_M_nearest_35 (by decide) ⟨by omega, by omega⟩ ⟨by omega, by omega⟩ (fun c35 => ?_) (fun c35 => ?_)
    · refine J_iconst d_M_nearest_44 ?_
      refine J_goto (tgt := 49) d_M_nearest_45 (by decide) ?_
      refine J_pick (lv' := [(0, .ref (ad 98)), (1, .int (iI (u : Int))), (2, .int (iI (d : Int))), (3, .int (iI b0))]) [1, 2, 3, 0] rfl ?_
      exact lab49 (1 : Int) (by omega)
    · refine J_iload_n 0 d_M_nearest_38 rfl rfl ?_
      refine J_bipush d_M_nearest_39 (i8_ok (by decide)) ?_
      refine J_if_icmpge (tgt := 48) d_M_nearest_41 (by decide) ⟨by omega, by omega⟩ ⟨by omega, by omega⟩ (fun c41 => ?_) (fun c41 => ?_)
      · refine J_iconst d_M_nearest_48 ?_
        refine J_pick (lv' := [(0, .ref (ad 98)), (1, .int (iI (u : Int))), (2, .int (iI (d : Int))), (3, .int (iI b0))]) [1, 2, 3, 0] rfl ?_
        exact lab49 (0 : Int) (by omega)
      · refine J_iconst d_M_nearest_44 ?_
        refine J_goto (tgt := 49) d_M_nearest_45 (by decide) ?_
        refine J_pick (lv' := [(0, .ref (ad 98)), (1, .int (iI (u : Int))), (2, .int (iI (d : Int))), (3, .int (iI b0))]) [1, 2, 3, 0] rfl ?_
        exact lab49 (1 : Int) (by omega)
  · refine J_dconst0 d_M_nearest_13 ?_
    refine J_eqF (F2 := va_up (va_up F 98 (oM ad (va_up f 8 0) v)) 99 (.inl (g 0, 858, .inl (aI hh)))) (up_same1 (by rw [va_up_ne _ _ (by decide)]; exact hB)) ?_
    refine J_eqF (F2 := va_up (va_up (va_up F 98 (oM ad (va_up f 8 0) v)) 99 (.inl (g 0, 858, .inl (aI hh)))) 100 (.inl (g 0, 33, .inl (aI ll)))) (up_same1 (by rw [va_up_ne _ _ (by decide), va_up_ne _ _ (by decide)]; exact hL)) ?_
    refine J_dret rfl d_M_nearest_14 ⟨by decide, by decide⟩ ?_
    exact ⟨_, rfl, rfl, rfl, hh, ll, V, 0, hR, fun _ _ => rfl, Or.inr (Or.inl ⟨by omega, rfl, c_d0⟩), rfl⟩
