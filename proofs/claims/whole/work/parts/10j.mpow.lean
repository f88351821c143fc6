/-! the Model: powers -/
set_option maxRecDepth 100000 in
set_option maxHeartbeats 4000000 in
theorem c_M_powered {l : Launch} (hfl : l.flags = flags0) {D : va_G} {g : Nat → ClassId} {ad : Nat → Nat} {N : Nat} {F : Nat → va_E} {hh ll f : Nat → Int} {v : UInt64} {V : Nat → Nat} {br : Nat → Nat} {a b ux dx : Nat} {kd sx xs n : Int}
    (hN : 109 ≤ N) (hO : F 98 = oM ad f v) (hB : F 99 = aB g hh) (hL : F 100 = aL g ll) (hR : reg br hh ll V) (hzz : okB br) (h16 : V 16 = a) (h17 : V 17 = b) (h5 : f 5 = xs) (hkd : 0 ≤ kd ∧ kd ≤ 2) (hn : 0 ≤ n ∧ n ≤ 40) (hb0 : 0 < b) (hdx : 0 < dx) (hab : a * dx = ux * b) (hab2 : a < 2 ^ 168 ∧ b < 2 ^ 168) (hxs2 : xs = if sx < 0 then 1 else 0) (hs0 : sx = 0 ↔ ux = 0) (hsx : -1 ≤ sx ∧ sx ≤ 1) :
    JC l y_M_powered b_M_powered 4 (Option.some Jvm.ClassFile.FieldType.boolean) rm_M_powered (0, 0) D jCl (jTys g) ad N F [.ref (ad 98), .int (iI kd), .int (iI n)] (ji ad N (fun z F' => ∃ (hh' ll' f' : Nat → Int) (W : Nat → Nat) (v' : UInt64), reg br hh' ll' W ∧ (∀ k, k < 16 → W k = V k) ∧ (∀ j, 9 ≤ j → f' j = f j) ∧ ((z = 0 ∧ powF kd sx ux dx n.toNat = none) ∨ (z = 1 ∧ ∃ s u d, powF kd sx ux dx n.toNat = some (kd, s, u, d) ∧ W 20 * d = u * W 21 ∧ 0 < W 21 ∧ W 20 < 2 ^ 224 ∧ W 21 < 2 ^ 224 ∧ 0 < d ∧ f' 7 = (if s < 0 then 1 else 0) ∧ (-1 ≤ s ∧ s ≤ 1))) ∧ F' = va_up (va_up (va_up F 98 (oM ad f' v')) 99 (aB g hh')) 100 (aL g ll'))) := by
  have hx01 : xs = 0 ∨ xs = 1 := by rw [hxs2]; split <;> omega
  have hla : lnw 28 a ≤ 6 := lnw_154 hab2.1
  have hlb : lnw 28 b ≤ 6 := lnw_154 hab2.2
  refine JC.go hfl (own := "NumberTowerModel") (lv := [(0, .ref (ad 98)), (1, .int (iI kd)), (2, .int (iI n))]) rfl (by decide +kernel) (Nat.le_of_ble_eq_true rfl) rfl (fun A => ?_)
  refine J_aload_n 0 d_M_powered_0 rfl rfl ?_
  refine J_bipush d_M_powered_1 (i8_ok (by decide)) ?_
  refine J_bipush d_M_powered_3 (i8_ok (by decide)) ?_
  refine J_callVv cw_M_58 nh_M_copy pn_M_copy rfl rfl (by omega) hO (As := [.int (iI 16), .int (iI 18)]) (rest := []) rfl (Nat.le_of_ble_eq_true rfl) ⟨by decide, by decide⟩ rfl ⟨by decide, by decide⟩ d_M_powered_5 (k_M_copy hfl (a := 16) (b := 18) (hh := hh) (ll := ll) (V := V) (br := br) (hN := hN) (hO := hO) (hB := hB) (hL := hL) (hR := hR) (ha := by omega) (hb := by omega) (hxa := h16) (bra := (hzz.2 16 (by decide) (by decide)))) (fun  F1 hq => ?_)
  obtain ⟨bh1, bl2, hR3, eF1⟩ := hq
  refine J_eqF (F2 := va_up (va_up F 99 (.inl (g 0, 858, .inl (aI bh1)))) 100 (.inl (g 0, 33, .inl (aI bl2)))) eF1 ?_
  have hR6 := reg_w1 (hzz.1 _) hR3
  refine J_aload_n 0 d_M_powered_8 rfl rfl ?_
  refine J_bipush d_M_powered_9 (i8_ok (by decide)) ?_
  refine J_bipush d_M_powered_11 (i8_ok (by decide)) ?_
  refine J_callVv cw_M_58 nh_M_copy pn_M_copy rfl rfl (by omega) (by rw [va_up_ne _ _ (by decide), va_up_ne _ _ (by decide)]; exact hO) (As := [.int (iI 17), .int (iI 19)]) (rest := []) rfl (Nat.le_of_ble_eq_true rfl) ⟨by decide, by decide⟩ rfl ⟨by decide, by decide⟩ d_M_powered_13 (k_M_copy hfl (a := 17) (b := 19) (hh := bh1) (ll := bl2) (V := va_up V 18 a) (br := br) (hN := hN) (hO := (by rw [va_up_ne _ _ (by decide), va_up_ne _ _ (by decide)]; exact hO)) (hB := (by rw [va_up_ne _ _ (by decide), va_up_self])) (hL := (by rw [va_up_self])) (hR := hR6) (ha := by omega) (hb := by omega) (hxa := ((va_up_ne _ _ (by decide)).trans h17)) (bra := (hzz.2 17 (by decide) (by decide)))) (fun  F2 hq => ?_)
  obtain ⟨bh7, bl8, hR9, eF2⟩ := hq
  refine J_eqF (F2 := va_up (va_up F 99 (.inl (g 0, 858, .inl (aI bh7)))) 100 (.inl (g 0, 33, .inl (aI bl8)))) (eF2.trans (Eq.trans (congrArg (fun q : Nat → va_E => va_up q 100 (.inl (g 0, 33, .inl (aI bl8)))) (up_in1 (by decide))) (up_in0))) ?_
  have hR12 := reg_w1 (hzz.1 _) hR9
  refine J_aload_n 0 d_M_powered_16 rfl rfl ?_
  refine J_aload_n 0 d_M_powered_17 rfl rfl ?_
  refine gf_M_149 (by omega) (by rw [va_up_ne _ _ (by decide), va_up_ne _ _ (by decide)]; exact hO) rfl d_M_powered_18 ?_
  refine J_topi (r := xs) (congrArg iI h5) ?_
  refine pf_M_152 (by omega) (by rw [va_up_ne _ _ (by decide), va_up_ne _ _ (by decide)]; exact hO) (Nat.le_of_ble_eq_true rfl) (nb01 (by omega)) d_M_powered_21 ?_
  refine J_eqF (F2 := va_up (va_up (va_up F 99 (.inl (g 0, 858, .inl (aI bh7)))) 100 (.inl (g 0, 33, .inl (aI bl8)))) 98 (oM ad (va_up f 6 xs) v)) rfl ?_
  refine J_aload_n 0 d_M_powered_24 rfl rfl ?_
  refine J_bipush d_M_powered_25 (i8_ok (by decide)) ?_
  refine J_lconst (v := 1) d_M_powered_27 rfl ?_
  refine J_callVv cw_M_82 nh_M_put pn_M_put rfl rfl (by omega) (by rw [va_up_self]) (As := [.int (iI 20), .long (lI 1)]) (rest := []) rfl (Nat.le_of_ble_eq_true rfl) ⟨by decide, by decide⟩ rfl ⟨by decide, by decide⟩ d_M_powered_28 (k_M_put hfl (a := 20) (n := 1) (hh := bh7) (ll := bl8) (V := va_up (va_up V 18 a) 19 b) (br := br) (hN := hN) (hO := (by rw [va_up_self])) (hB := (by rw [va_up_ne _ _ (by decide), va_up_ne _ _ (by decide), va_up_self])) (hL := (by rw [va_up_ne _ _ (by decide), va_up_self])) (hR := hR12) (ha := by omega) (hn := by decide)) (fun  F3 hq => ?_)
  obtain ⟨bh13, bl14, hR15, eF3⟩ := hq
  refine J_eqF (F2 := va_up (va_up (va_up F 99 (.inl (g 0, 858, .inl (aI bh13)))) 100 (.inl (g 0, 33, .inl (aI bl14)))) 98 (oM ad (va_up f 6 xs) v)) (eF3.trans (Eq.trans (congrArg (fun q : Nat → va_E => va_up q 100 (.inl (g 0, 33, .inl (aI bl14)))) (up_in2 (by decide) (by decide))) (up_in1 (by decide)))) ?_
  have hR18 := reg_w1 (hzz.1 _) hR15
  refine J_aload_n 0 d_M_powered_31 rfl rfl ?_
  refine J_bipush d_M_powered_32 (i8_ok (by decide)) ?_
  refine J_lconst (v := 1) d_M_powered_34 rfl ?_
  refine J_callVv cw_M_82 nh_M_put pn_M_put rfl rfl (by omega) (by rw [va_up_self]) (As := [.int (iI 21), .long (lI 1)]) (rest := []) rfl (Nat.le_of_ble_eq_true rfl) ⟨by decide, by decide⟩ rfl ⟨by decide, by decide⟩ d_M_powered_35 (k_M_put hfl (a := 21) (n := 1) (hh := bh13) (ll := bl14) (V := va_up (va_up (va_up V 18 a) 19 b) 20 1) (br := br) (hN := hN) (hO := (by rw [va_up_self])) (hB := (by rw [va_up_ne _ _ (by decide), va_up_ne _ _ (by decide), va_up_self])) (hL := (by rw [va_up_ne _ _ (by decide), va_up_self])) (hR := hR18) (ha := by omega) (hn := by decide)) (fun  F4 hq => ?_)
  obtain ⟨bh19, bl20, hR21, eF4⟩ := hq
  refine J_eqF (F2 := va_up (va_up (va_up F 99 (.inl (g 0, 858, .inl (aI bh19)))) 100 (.inl (g 0, 33, .inl (aI bl20)))) 98 (oM ad (va_up f 6 xs) v)) (eF4.trans (Eq.trans (congrArg (fun q : Nat → va_E => va_up q 100 (.inl (g 0, 33, .inl (aI bl20)))) (up_in2 (by decide) (by decide))) (up_in1 (by decide)))) ?_
  have hR24 := reg_w1 (hzz.1 _) hR21
  refine J_aload_n 0 d_M_powered_38 rfl rfl ?_
  refine J_iconst d_M_powered_39 ?_
  refine pf_M_129 (by omega) (by rw [va_up_self]) (Nat.le_of_ble_eq_true rfl) (nb01 (by omega)) d_M_powered_40 ?_
  refine J_eqF (F2 := va_up (va_up (va_up (va_up F 99 (.inl (g 0, 858, .inl (aI bh19)))) 100 (.inl (g 0, 33, .inl (aI bl20)))) 98 (oM ad (va_up f 6 xs) v)) 98 (oM ad (va_up (va_up f 6 xs) 7 0) v)) rfl ?_
  refine J_eqF (F2 := va_up (va_up (va_up F 99 (.inl (g 0, 858, .inl (aI bh19)))) 100 (.inl (g 0, 33, .inl (aI bl20)))) 98 (oM ad (va_up (va_up f 6 xs) 7 0) v)) (up_in0) ?_
  refine J_iconst d_M_powered_43 ?_
  refine J_istore_n (lv' := [(3, .int (iI 0)), (0, .ref (ad 98)), (1, .int (iI kd)), (2, .int (iI n))]) d_M_powered_44 rfl (by decide) rfl ?_
  refine J_pick (lv' := [(0, .ref (ad 98)), (1, .int (iI kd)), (2, .int (iI n)), (3, .int (iI 0))]) [1, 2, 3, 0] rfl ?_
  refine J_eqF (F2 := va_up (va_up (va_up F 98 (oM ad (va_up (va_up f 6 xs) 7 0) v)) 99 (.inl (g 0, 858, .inl (aI bh19)))) 100 (.inl (g 0, 33, .inl (aI bl20)))) (Eq.trans (up_cm (by decide)) (congrArg (fun qq : Nat → va_E => va_up qq 100 (.inl (g 0, 33, .inl (aI bl20)))) (up_cm (by decide)))) ?_
  have loop45 : ∀ (fuel : Nat) (i : Nat) (W1 : Nat → Nat) (f1 : Nat → Int) (v1 : UInt64) (e1 : Nat → Int) (e2 : Nat → Int) (U : Nat) (Y : Nat) (s : Int) (u : Nat) (d : Nat) (r7 : Int) (hi : (i : Int) ≤ n) (hR1 : reg br e1 e2 W1) (hf1 : ∀ k, k < 16 → W1 k = V k) (g8 : ∀ j, 9 ≤ j → f1 j = f j) (k18 : W1 18 = a) (k19 : W1 19 = b) (k20 : W1 20 = U) (k21 : W1 21 = Y) (g6 : f1 6 = xs) (g7 : f1 7 = r7) (hr7 : r7 = if s < 0 then 1 else 0) (hp : powF kd sx ux dx i = some (kd, s, u, d)) (hUd : U * d = u * Y) (hY0 : 0 < Y) (hd0 : 0 < d) (hUb : U < 2 ^ 224 ∧ Y < 2 ^ 224) (hsr : -1 ≤ s ∧ s ≤ 1) (hsz : s = 0 ↔ u = 0) (hfu : n.toNat - i < fuel), J l rm_M_powered (0, 0) "NumberTowerModel" b_M_powered 4 (Option.some Jvm.ClassFile.FieldType.boolean) D jCl (jTys g) A (fun _ me => me.name = y_M_powered.name) (ji ad N (fun z F' => ∃ (hh' ll' f' : Nat → Int) (W : Nat → Nat) (v' : UInt64), reg br hh' ll' W ∧ (∀ k, k < 16 → W k = V k) ∧ (∀ j, 9 ≤ j → f' j = f j) ∧ ((z = 0 ∧ powF kd sx ux dx n.toNat = none) ∨ (z = 1 ∧ ∃ s u d, powF kd sx ux dx n.toNat = some (kd, s, u, d) ∧ W 20 * d = u * W 21 ∧ 0 < W 21 ∧ W 20 < 2 ^ 224 ∧ W 21 < 2 ^ 224 ∧ 0 < d ∧ f' 7 = (if s < 0 then 1 else 0) ∧ (-1 ≤ s ∧ s ≤ 1))) ∧ F' = va_up (va_up (va_up F 98 (oM ad f' v')) 99 (aB g hh')) 100 (aL g ll'))) ad N 0 0 45 [(0, .ref (ad 98)), (1, .int (iI kd)), (2, .int (iI n)), (3, .int (iI (i : Int)))] [] (va_up (va_up (va_up F 98 (oM ad f1 v1)) 99 (.inl (g 0, 858, .inl (aI e1)))) 100 (.inl (g 0, 33, .inl (aI e2)))) := by
    intro fuel
    induction fuel with
    | zero => intro i W1 f1 v1 e1 e2 U Y s u d r7 hi hR1 hf1 g8 k18 k19 k20 k21 g6 g7 hr7 hp hUd hY0 hd0 hUb hsr hsz hfu; exact absurd hfu (Nat.not_lt_zero _)
    | succ fuel ih =>
      intro i W1 f1 v1 e1 e2 U Y s u d r7 hi hR1 hf1 g8 k18 k19 k20 k21 g6 g7 hr7 hp hUd hY0 hd0 hUb hsr hsz hfu
      have hr01 : r7 = 0 ∨ r7 = 1 := by rw [hr7]; split <;> omega
      have hlU : lnw 28 U ≤ 8 := (lnw_le (by decide)).mpr hUb.1
      have hlY : lnw 28 Y ≤ 8 := (lnw_le (by decide)).mpr hUb.2
      refine J_iload_n 3 d_M_powered_45 rfl rfl ?_
      refine J_iload_n 2 d_M_powered_46 rfl rfl ?_
      refine J_if_icmpge (tgt := 98) d_M_powered_47 (by decide) ⟨by omega, by omega⟩ ⟨by omega, by omega⟩ (fun c47 => ?_) (fun c47 => ?_)
      · refine J_iconst d_M_powered_98 ?_
        refine J_iret rfl (nb01 (by omega)).1 d_M_powered_99 ⟨by decide, by decide⟩ ?_
        exact ⟨_, rfl, rfl, rfl, e1, e2, f1, W1, v1, hR1, hf1, g8, Or.inr ⟨rfl, s, u, d, by rw [show n.toNat = i by omega]; exact hp, by rw [k20, k21]; exact hUd, by rw [k21]; exact hY0, by rw [k20]; exact hUb.1, by rw [k21]; exact hUb.2, hd0, by rw [g7]; exact hr7, hsr⟩, rfl⟩
      · refine J_aload_n 0 d_M_powered_50 rfl rfl ?_
        refine J_bipush d_M_powered_51 (i8_ok (by decide)) ?_
        refine J_bipush d_M_powered_53 (i8_ok (by decide)) ?_
        refine J_callVv cw_M_58 nh_M_copy pn_M_copy rfl rfl (by omega) (by rw [va_up_ne _ _ (by decide), va_up_ne _ _ (by decide), va_up_self]) (As := [.int (iI 20), .int (iI 16)]) (rest := []) rfl (Nat.le_of_ble_eq_true rfl) ⟨by decide, by decide⟩ rfl ⟨by decide, by decide⟩ d_M_powered_55 (k_M_copy hfl (a := 20) (b := 16) (hh := e1) (ll := e2) (V := W1) (br := br) (hN := hN) (hO := (by rw [va_up_ne _ _ (by decide), va_up_ne _ _ (by decide), va_up_self])) (hB := (by rw [va_up_ne _ _ (by decide), va_up_self])) (hL := (by rw [va_up_self])) (hR := hR1) (ha := by omega) (hb := by omega) (hxa := k20) (bra := (hzz.2 20 (by decide) (by decide)))) (fun  F5 hq => ?_)
        obtain ⟨bh25, bl26, hR27, eF5⟩ := hq
        refine J_eqF (F2 := va_up (va_up (va_up F 98 (oM ad f1 v1)) 99 (.inl (g 0, 858, .inl (aI bh25)))) 100 (.inl (g 0, 33, .inl (aI bl26)))) (eF5.trans (Eq.trans (congrArg (fun q : Nat → va_E => va_up q 100 (.inl (g 0, 33, .inl (aI bl26)))) (up_in1 (by decide))) (up_in0))) ?_
        have hR30 := reg_w1 (hzz.1 _) hR27
        refine J_aload_n 0 d_M_powered_58 rfl rfl ?_
        refine J_bipush d_M_powered_59 (i8_ok (by decide)) ?_
        refine J_bipush d_M_powered_61 (i8_ok (by decide)) ?_
        refine J_callVv cw_M_58 nh_M_copy pn_M_copy rfl rfl (by omega) (by rw [va_up_ne _ _ (by decide), va_up_ne _ _ (by decide), va_up_self]) (As := [.int (iI 21), .int (iI 17)]) (rest := []) rfl (Nat.le_of_ble_eq_true rfl) ⟨by decide, by decide⟩ rfl ⟨by decide, by decide⟩ d_M_powered_63 (k_M_copy hfl (a := 21) (b := 17) (hh := bh25) (ll := bl26) (V := va_up W1 16 U) (br := br) (hN := hN) (hO := (by rw [va_up_ne _ _ (by decide), va_up_ne _ _ (by decide), va_up_self])) (hB := (by rw [va_up_ne _ _ (by decide), va_up_self])) (hL := (by rw [va_up_self])) (hR := hR30) (ha := by omega) (hb := by omega) (hxa := ((va_up_ne _ _ (by decide)).trans k21)) (bra := (hzz.2 21 (by decide) (by decide)))) (fun  F6 hq => ?_)
        obtain ⟨bh31, bl32, hR33, eF6⟩ := hq
        refine J_eqF (F2 := va_up (va_up (va_up F 98 (oM ad f1 v1)) 99 (.inl (g 0, 858, .inl (aI bh31)))) 100 (.inl (g 0, 33, .inl (aI bl32)))) (eF6.trans (Eq.trans (congrArg (fun q : Nat → va_E => va_up q 100 (.inl (g 0, 33, .inl (aI bl32)))) (up_in1 (by decide))) (up_in0))) ?_
        have hR36 := reg_w1 (hzz.1 _) hR33
        refine J_aload_n 0 d_M_powered_66 rfl rfl ?_
        refine J_aload_n 0 d_M_powered_67 rfl rfl ?_
        refine gf_M_129 (by omega) (by rw [va_up_ne _ _ (by decide), va_up_ne _ _ (by decide), va_up_self]) rfl d_M_powered_68 ?_
        refine J_topi (r := r7) (congrArg iI g7) ?_
        refine pf_M_149 (by omega) (by rw [va_up_ne _ _ (by decide), va_up_ne _ _ (by decide), va_up_self]) (Nat.le_of_ble_eq_true rfl) (nb01 (by omega)) d_M_powered_71 ?_
        refine J_eqF (F2 := va_up (va_up (va_up (va_up F 98 (oM ad f1 v1)) 99 (.inl (g 0, 858, .inl (aI bh31)))) 100 (.inl (g 0, 33, .inl (aI bl32)))) 98 (oM ad (va_up f1 5 r7) v1)) rfl ?_
        refine J_eqF (F2 := va_up (va_up (va_up F 98 (oM ad (va_up f1 5 r7) v1)) 99 (.inl (g 0, 858, .inl (aI bh31)))) 100 (.inl (g 0, 33, .inl (aI bl32)))) (up_in2 (by decide) (by decide)) ?_
        refine J_aload_n 0 d_M_powered_74 rfl rfl ?_
        refine J_callVv cw_M_188 nh_M_product pn_M_product rfl rfl (by omega) (by rw [va_up_ne _ _ (by decide), va_up_ne _ _ (by decide), va_up_self]) (As := []) (rest := []) rfl (Nat.le_of_ble_eq_true rfl) ⟨by decide, by decide⟩ rfl ⟨by decide, by decide⟩ d_M_powered_75 (c_M_product hfl (a := U) (b := Y) (c := a) (d := b) (xs := r7) (ys := xs) (hh := bh31) (ll := bl32) (f := va_up f1 5 r7) (v := v1) (V := va_up (va_up W1 16 U) 17 Y) (br := br) hN (by rw [va_up_ne _ _ (by decide), va_up_ne _ _ (by decide), va_up_self]) (by rw [va_up_ne _ _ (by decide), va_up_self]) (by rw [va_up_self]) hR36 hzz (((va_up_ne _ _ (by decide)).trans (va_up_self ..))) ((va_up_self ..)) (((va_up_ne _ _ (by decide)).trans ((va_up_ne _ _ (by decide)).trans k18))) (((va_up_ne _ _ (by decide)).trans ((va_up_ne _ _ (by decide)).trans k19))) ((va_up_self ..)) (((va_up_ne _ _ (by decide)).trans g6)) hr01 hx01 ⟨by omega, by omega, by omega, by omega⟩) (fun  F7 hq => ?_)
        obtain ⟨bh37, bl38, hR39, eF7⟩ := hq
        refine J_eqF (F2 := va_up (va_up (va_up F 98 (oM ad (va_up (va_up f1 5 r7) 7 (if r7 = xs then 0 else 1)) v1)) 99 (.inl (g 0, 858, .inl (aI bh37)))) 100 (.inl (g 0, 33, .inl (aI bl38)))) (eF7.trans (Eq.trans (Eq.trans (congrArg (fun q : Nat → va_E => va_up q 100 (.inl (g 0, 33, .inl (aI bl38)))) (congrArg (fun q : Nat → va_E => va_up q 99 (.inl (g 0, 858, .inl (aI bh37)))) (up_in2 (by decide) (by decide)))) (congrArg (fun q : Nat → va_E => va_up q 100 (.inl (g 0, 33, .inl (aI bl38)))) (up_in1 (by decide)))) (up_in0))) ?_
        refine J_aload_n 0 d_M_powered_78 rfl rfl ?_
        refine J_iload_n 1 d_M_powered_79 rfl rfl ?_
        obtain ⟨sn, hsn⟩ : ∃ z : Int, z = if (if r7 = xs then (0 : Int) else 1) = 1 then -1 else 1 := ⟨_, rfl⟩
        have hsn2 : (if r7 = xs then (0 : Int) else 1) = if sn < 0 then 1 else 0 := by rw [hsn]; split <;> split <;> omega
        have hfs : fin kd sn (U * a) (Y * b) = fin kd (s * sx) (u * ux) (d * dx) := by
          rw [fin_ratio (kd := kd) (s := sn) (U' := u * ux) (D' := d * dx) (Nat.mul_pos hY0 hb0) (Nat.mul_pos hd0 hdx) (by
            have e1 : U * a * (d * dx) = (U * d) * (a * dx) := by ac_rfl
            rw [e1, hUd, hab]; ac_rfl)]
          apply fin_sg
          intro hz
          have z1 : u ≠ 0 := fun e => hz (by rw [e, Nat.zero_mul])
          have z2 : ux ≠ 0 := fun e => hz (by rw [e, Nat.mul_zero])
          have z3 : s ≠ 0 := fun e => z1 (hsz.mp e)
          have z4 : sx ≠ 0 := fun e => z2 (hs0.mp e)
          rw [hsn, hr7, hxs2]
          obtain w | w : s = 1 ∨ s = -1 := by omega
          all_goals (obtain w2 | w2 : sx = 1 ∨ sx = -1 := by omega)
          all_goals (rw [w, w2]; decide)
        refine J_callVv cw_M_132 nh_M_form pn_M_form rfl rfl (by omega) (by rw [va_up_ne _ _ (by decide), va_up_ne _ _ (by decide), va_up_self]) (As := [.int (iI kd)]) (rest := []) rfl (Nat.le_of_ble_eq_true rfl) ⟨by decide, by decide⟩ rfl ⟨by decide, by decide⟩ d_M_powered_80 (c_M_form hfl (X := U * a) (Y := Y * b) (kd := kd) (s := sn) (hh := bh37) (ll := bl38) (f := va_up (va_up f1 5 r7) 7 (if r7 = xs then 0 else 1)) (v := v1) (V := va_up (va_up (va_up (va_up W1 16 U) 17 Y) 20 (U * a)) 21 (Y * b)) (br := br) hN (by rw [va_up_ne _ _ (by decide), va_up_ne _ _ (by decide), va_up_self]) (by rw [va_up_ne _ _ (by decide), va_up_self]) (by rw [va_up_self]) hR39 hzz (((va_up_ne _ _ (by decide)).trans (va_up_self ..))) ((va_up_self ..)) (Nat.mul_pos hY0 hb0) (Nat.le_trans lnw_mul8 (by omega)) (Nat.le_trans lnw_mul8 (by omega)) (blen_le.mpr (Nat.lt_of_lt_of_le (Nat.mul_lt_mul'' hUb.1 hab2.1) (by decide))) (blen_le.mpr (Nat.lt_of_lt_of_le (Nat.mul_lt_mul'' hUb.2 hab2.2) (by decide))) hkd (((va_up_self ..)).trans hsn2) (by rw [hsn]; split <;> omega)) (fun  F8 hq => ?_)
        obtain ⟨bh40, bl41, W42, b43, r44, v45, hR46, hf47, hb48, hc49, eF8⟩ := hq
        refine J_eqF (F2 := va_up (va_up (va_up F 98 (oM ad (va_up (va_up (va_up f1 5 r7) 7 r44) 8 b43) v45)) 99 (.inl (g 0, 858, .inl (aI bh40)))) 100 (.inl (g 0, 33, .inl (aI bl41)))) (eF8.trans (Eq.trans (Eq.trans (congrArg (fun q : Nat → va_E => va_up q 100 (.inl (g 0, 33, .inl (aI bl41)))) (congrArg (fun q : Nat → va_E => va_up q 99 (.inl (g 0, 858, .inl (aI bh40)))) (up_in2 (by decide) (by decide)))) (congrArg (fun q : Nat → va_E => va_up q 100 (.inl (g 0, 33, .inl (aI bl41)))) (up_in1 (by decide)))) (up_in0))) ?_
        obtain ⟨HC, hHC⟩ : ∃ P : Prop, P = ((b43 = 1 ∧ fin kd sn (U * a) (Y * b) = none) ∨ (b43 = 0 ∧ ∃ s' u d, fin kd sn (U * a) (Y * b) = some (kd, s', u, d) ∧ (kd ≠ 2 → W42 20 = u ∧ W42 21 = d) ∧ (kd = 2 → v45 = fd false u (1 - (blen d : Int)) ∧ W42 20 * d = u * W42 21 ∧ 0 < W42 21 ∧ W42 20 < 2 ^ 224 ∧ W42 21 < 2 ^ 224) ∧ r44 = (if s' < 0 then 1 else 0))) := ⟨_, rfl⟩
        rw [← hHC] at hc49
        refine J_aload_n 0 d_M_powered_83 rfl rfl ?_
        refine gf_M_94 (by omega) (by rw [va_up_ne _ _ (by decide), va_up_ne _ _ (by decide), va_up_self]) rfl d_M_powered_84 ?_
        refine J_topi (r := b43) (congrArg iI (va_up_self ..)) ?_
        refine J_ifeq (tgt := 92) d_M_powered_87 (by decide) ⟨by omega, by omega⟩ (fun c87 => ?_) (fun c87 => ?_)
        · refine J_iinc (j := 3) (b := (i : Int) + 1) (lv' := [(3, .int (iI ((i : Int) + 1))), (0, .ref (ad 98)), (1, .int (iI kd)), (2, .int (iI n))]) d_M_powered_92 rfl (by omega) (by decide) rfl ?_
          refine J_goto (tgt := 45) d_M_powered_95 (by decide) ?_
          refine J_pick (lv' := [(0, .ref (ad 98)), (1, .int (iI kd)), (2, .int (iI n)), (3, .int (iI ((i : Int) + 1)))]) [1, 2, 3, 0] rfl ?_
          rw [hHC] at hc49
          obtain ⟨w1, s', u', d', x2, x3, x4, x5⟩ : b43 = 0 ∧ ∃ s' u' d', fin kd sn (U * a) (Y * b) = some (kd, s', u', d') ∧ (W42 20 * d' = u' * W42 21 ∧ 0 < W42 21 ∧ W42 20 < 2 ^ 224 ∧ W42 21 < 2 ^ 224) ∧ True ∧ r44 = (if s' < 0 then 1 else 0) := by
            rcases hc49 with ⟨w1, w2⟩ | ⟨w1, s', u', d', w2, w3, w4, w5⟩
            · omega
            · refine ⟨w1, s', u', d', w2, ?_, trivial, w5⟩
              by_cases k2 : kd = 2
              · exact (w4 k2).2
              · obtain ⟨y1, y2⟩ := w3 k2
                obtain ⟨-, o2, o3, o4, -, -, -⟩ := fin_out w2 (Nat.mul_pos hY0 hb0)
                rw [y1, y2]
                exact ⟨rfl, o2, Nat.lt_trans o3 (by decide), Nat.lt_trans o4 (by decide)⟩
          clear hc49
          obtain ⟨-, o2, o3, o4, o5, o6, -⟩ := fin_out x2 (Nat.mul_pos hY0 hb0)
          have hsr2 : -1 ≤ s' ∧ s' ≤ 1 := by rw [o6, hsn]; split; omega; split <;> omega
          have hsz2 : s' = 0 ↔ u' = 0 := by rw [o5, o6, hsn]; split; omega; split <;> omega
          exact ih (i + 1) W42 (va_up (va_up (va_up f1 5 r7) 7 r44) 8 b43) v45 bh40 bl41 (W42 20) (W42 21) s' u' d' r44 (by omega) hR46 (fun k hk => (((show (W42) k = W42 k from by rfl).trans ((hf47 k (by omega) (by omega) (by omega)).trans (show (va_up (va_up (va_up (va_up W1 16 U) 17 Y) 20 (U * a)) 21 (Y * b)) k = W1 k from by rw [va_up_ne _ _ (by omega), va_up_ne _ _ (by omega), va_up_ne _ _ (by omega), va_up_ne _ _ (by omega)])))).trans (hf1 k hk)) (fun j hj => (show (va_up (va_up (va_up f1 5 r7) 7 r44) 8 b43) j = f1 j from by rw [va_up_ne _ _ (by omega), va_up_ne _ _ (by omega), va_up_ne _ _ (by omega)]).trans (g8 j hj)) ((((hf47 _ (by omega) (by omega) (by omega))).trans ((va_up_ne _ _ (by decide)).trans ((va_up_ne _ _ (by decide)).trans ((va_up_ne _ _ (by decide)).trans ((va_up_ne _ _ (by decide)).trans k18)))))) ((((hf47 _ (by omega) (by omega) (by omega))).trans ((va_up_ne _ _ (by decide)).trans ((va_up_ne _ _ (by decide)).trans ((va_up_ne _ _ (by decide)).trans ((va_up_ne _ _ (by decide)).trans k19)))))) rfl rfl (((va_up_ne _ _ (by decide)).trans ((va_up_ne _ _ (by decide)).trans ((va_up_ne _ _ (by decide)).trans g6)))) (((va_up_ne _ _ (by decide)).trans (va_up_self ..))) x5 (by rw [powF_s hp, ← hfs]; exact x2) x3.1 x3.2.1 o2 x3.2.2 hsr2 hsz2 (by omega)
        · refine J_iconst d_M_powered_90 ?_
          refine J_iret rfl (nb01 (by omega)).1 d_M_powered_91 ⟨by decide, by decide⟩ ?_
          rw [hHC] at hc49
          rcases hc49 with ⟨w1, w2⟩ | ⟨w1, w2⟩
          · exact ⟨_, rfl, rfl, rfl, _, _, va_up (va_up (va_up f1 5 r7) 7 r44) 8 b43, _, _, hR46, fun k hk => (((show (W42) k = W42 k from by rfl).trans ((hf47 k (by omega) (by omega) (by omega)).trans (show (va_up (va_up (va_up (va_up W1 16 U) 17 Y) 20 (U * a)) 21 (Y * b)) k = W1 k from by rw [va_up_ne _ _ (by omega), va_up_ne _ _ (by omega), va_up_ne _ _ (by omega), va_up_ne _ _ (by omega)])))).trans (hf1 k hk), fun j hj => (show (va_up (va_up (va_up f1 5 r7) 7 r44) 8 b43) j = f1 j from by rw [va_up_ne _ _ (by omega), va_up_ne _ _ (by omega), va_up_ne _ _ (by omega)]).trans (g8 j hj), Or.inl ⟨rfl, powF_none (i := i + 1) (by rw [powF_s hp, ← hfs]; exact w2) _ (by omega)⟩, rfl⟩
          · omega
  exact loop45 ((n.toNat - 0) + 1) 0 (va_up (va_up (va_up (va_up V 18 a) 19 b) 20 1) 21 1) (va_up (va_up f 6 xs) 7 0) v bh19 bl20 1 1 (1 : Int) 1 1 (0 : Int) (by omega) hR24 (fun k hk => (show (va_up (va_up (va_up (va_up V 18 a) 19 b) 20 1) 21 1) k = V k from by rw [va_up_ne _ _ (by omega), va_up_ne _ _ (by omega), va_up_ne _ _ (by omega), va_up_ne _ _ (by omega)])) (fun j hj => by rw [va_up_ne _ _ (by omega), va_up_ne _ _ (by omega)]) (((va_up_ne _ _ (by decide)).trans ((va_up_ne _ _ (by decide)).trans ((va_up_ne _ _ (by decide)).trans (va_up_self ..))))) (((va_up_ne _ _ (by decide)).trans ((va_up_ne _ _ (by decide)).trans (va_up_self ..)))) (((va_up_ne _ _ (by decide)).trans (va_up_self ..))) ((va_up_self ..)) (((va_up_ne _ _ (by decide)).trans (va_up_self ..))) ((va_up_self ..)) rfl rfl rfl (by decide) (by decide) (by decide) (by decide) (by decide) (Nat.lt_succ_self _)
