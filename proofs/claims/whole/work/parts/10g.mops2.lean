/-! the Model: rests, shifts, what an operation takes -/
theorem rest_b {a b c d : Nat} {rs : Int} (hb : b ≠ 0) (hc : c ≠ 0) (ha : lnw 28 a ≤ 6) (hb6 : lnw 28 b ≤ 6) (hc6 : lnw 28 c ≤ 6) (hd : lnw 28 d ≤ 6) : lnw 28 (c * flM rs (a * d) (b * c)) ≤ 13 := by
  have h1 : flM rs (a * d) (b * c) ≤ a * d / (b * c) + 1 := by unfold flM; split <;> omega
  have h2 : c * flM rs (a * d) (b * c) ≤ a * d + b * c := by
    have h3 : c * flM rs (a * d) (b * c) ≤ c * (a * d / (b * c) + 1) := Nat.mul_le_mul_left _ h1
    have h4 : c * (a * d / (b * c)) ≤ b * c * (a * d / (b * c)) := Nat.mul_le_mul_right _ (Nat.le_mul_of_pos_left _ (Nat.pos_of_ne_zero hb))
    have h5 : b * c * (a * d / (b * c)) ≤ a * d := Nat.mul_div_le _ _
    have h6 : c ≤ b * c := Nat.le_mul_of_pos_left _ (Nat.pos_of_ne_zero hb)
    rw [Nat.mul_add, Nat.mul_one] at h3
    omega
  have h7 : lnw 28 (a * d) ≤ 12 := Nat.le_trans lnw_mul8 (by omega)
  have h8 : lnw 28 (b * c) ≤ 12 := Nat.le_trans lnw_mul8 (by omega)
  exact Nat.le_trans (lnw_mono8 h2) (Nat.le_trans lnw_add8 (by omega))
set_option maxRecDepth 100000 in
set_option maxHeartbeats 4000000 in
theorem c_M_rest {l : Launch} (hfl : l.flags = flags0) {D : va_G} {g : Nat → ClassId} {ad : Nat → Nat} {N : Nat} {F : Nat → va_E} {hh ll f : Nat → Int} {v : UInt64} {V : Nat → Nat} {br : Nat → Nat} {a b c d : Nat} {xs ys : Int}
    (hN : 109 ≤ N) (hO : F 98 = oM ad f v) (hB : F 99 = aB g hh) (hL : F 100 = aL g ll) (hR : reg br hh ll V) (hzz : okB br) (h16 : V 16 = a) (h17 : V 17 = b) (h18 : V 18 = c) (h19 : V 19 = d) (h5 : f 5 = xs) (h6 : f 6 = ys) (hxs : xs = 0 ∨ xs = 1) (hys : ys = 0 ∨ ys = 1) (hl : lnw 28 a ≤ 6 ∧ lnw 28 b ≤ 6 ∧ lnw 28 c ≤ 6 ∧ lnw 28 d ≤ 6) (hb0 : b ≠ 0) (hc0 : c ≠ 0) :
    JC l y_M_rest b_M_rest 1 (Option.none : Option Jvm.ClassFile.FieldType) rm_M_rest (0, 0) D jCl (jTys g) ad N F [.ref (ad 98)] (jv ad N (fun F' => ∃ (hh' ll' f' : Nat → Int) (W : Nat → Nat) (y2 : Int), reg br hh' ll' W ∧ (∀ k, k < 16 → W k = V k) ∧ (∀ j, 8 ≤ j → f' j = f j) ∧ y2 = (if ys = flS (if xs = ys then 0 else 1) (a * d) (b * c) then 1 else 0) ∧ W 20 = plM xs y2 (a * d) (c * flM (if xs = ys then 0 else 1) (a * d) (b * c) * b) ∧ W 21 = b * d ∧ f' 7 = plS xs y2 (a * d) (c * flM (if xs = ys then 0 else 1) (a * d) (b * c) * b) ∧ F' = va_up (va_up (va_up F 98 (oM ad f' v)) 99 (aB g hh')) 100 (aL g ll'))) := by
  refine JC.go hfl (own := "NumberTowerModel") (lv := [(0, .ref (ad 98))]) rfl (by decide +kernel) (Nat.le_of_ble_eq_true rfl) rfl (fun A => ?_)
  refine J_aload_n 0 d_M_rest_0 rfl rfl ?_
  refine J_callVv cw_M_164 nh_M_ratio pn_M_ratio rfl rfl (by omega) hO (As := []) (rest := []) rfl (Nat.le_of_ble_eq_true rfl) ⟨by decide, by decide⟩ rfl ⟨by decide, by decide⟩ d_M_rest_1 (c_M_ratio hfl (a := a) (b := b) (c := c) (d := d) (xs := xs) (ys := ys) (hh := hh) (ll := ll) (f := f) (v := v) (V := V) (br := br) hN hO hB hL hR hzz (h16) (h17) (h18) (h19) (h5) (h6) hxs hys ⟨by omega, by omega, by omega, by omega⟩) (fun  F1 hq => ?_)
  obtain ⟨bh1, bl2, hR3, eF1⟩ := hq
  refine J_eqF (F2 := va_up (va_up (va_up F 98 (oM ad (va_up f 7 (if xs = ys then 0 else 1)) v)) 99 (.inl (g 0, 858, .inl (aI bh1)))) 100 (.inl (g 0, 33, .inl (aI bl2)))) eF1 ?_
  refine J_aload_n 0 d_M_rest_4 rfl rfl ?_
  refine J_callVv cw_M_167 nh_M_floor pn_M_floor rfl rfl (by omega) (by rw [va_up_ne _ _ (by decide), va_up_ne _ _ (by decide), va_up_self]) (As := []) (rest := []) rfl (Nat.le_of_ble_eq_true rfl) ⟨by decide, by decide⟩ rfl ⟨by decide, by decide⟩ d_M_rest_5 (c_M_floor hfl (a := a * d) (b := b * c) (rs := if xs = ys then 0 else 1) (hh := bh1) (ll := bl2) (f := va_up f 7 (if xs = ys then 0 else 1)) (v := v) (V := va_up (va_up V 20 (a * d)) 21 (b * c)) (br := br) hN (by rw [va_up_ne _ _ (by decide), va_up_ne _ _ (by decide), va_up_self]) (by rw [va_up_ne _ _ (by decide), va_up_self]) (by rw [va_up_self]) hR3 hzz (((va_up_ne _ _ (by decide)).trans (va_up_self ..))) ((va_up_self ..)) ((va_up_self ..)) (by split <;> omega) (Nat.mul_ne_zero hb0 hc0) (Nat.le_trans lnw_mul8 (by omega)) (Nat.le_trans lnw_mul8 (by omega))) (fun  F2 hq => ?_)
  obtain ⟨bh4, bl5, W6, hR7, hf8, w9, w10, eF2⟩ := hq
  refine J_eqF (F2 := va_up (va_up (va_up F 98 (oM ad (va_up f 7 (flS (if xs = ys then 0 else 1) (a * d) (b * c))) v)) 99 (.inl (g 0, 858, .inl (aI bh4)))) 100 (.inl (g 0, 33, .inl (aI bl5)))) (eF2.trans (Eq.trans (Eq.trans (congrArg (fun q : Nat → va_E => va_up q 100 (.inl (g 0, 33, .inl (aI bl5)))) (congrArg (fun q : Nat → va_E => va_up q 99 (.inl (g 0, 858, .inl (aI bh4)))) (up_in2 (by decide) (by decide)))) (congrArg (fun q : Nat → va_E => va_up q 100 (.inl (g 0, 33, .inl (aI bl5)))) (up_in1 (by decide)))) (up_in0))) ?_
  obtain ⟨r0, hr0⟩ : ∃ r : Int, r = if xs = ys then 0 else 1 := ⟨_, rfl⟩
  have hr01 : r0 = 0 ∨ r0 = 1 := by rw [hr0]; split <;> omega
  have hq := rest_b (rs := r0) (d := d) hb0 hc0 hl.1 hl.2.1 hl.2.2.1 hl.2.2.2
  have hqq : lnw 28 (flM r0 (a * d) (b * c)) ≤ 13 := by
    have h7 : lnw 28 (a * d) ≤ 12 := Nat.le_trans lnw_mul8 (by omega)
    exact Nat.le_trans (lnw_mono8 flM_le) (Nat.le_trans (lnw_small8 (by decide)) (by omega))
  rw [hr0] at hq hqq
  obtain ⟨r1, hr1⟩ : ∃ r : Int, r = flS (if xs = ys then 0 else 1) (a * d) (b * c) := ⟨_, rfl⟩
  have hr11 : r1 = 0 ∨ r1 = 1 := by rw [hr1, ← hr0]; exact fl01 hr01
  refine J_aload_n 0 d_M_rest_8 rfl rfl ?_
  refine J_bipush d_M_rest_9 (i8_ok (by decide)) ?_
  refine J_bipush d_M_rest_11 (i8_ok (by decide)) ?_
  refine J_bipush d_M_rest_13 (i8_ok (by decide)) ?_
  refine J_callVv cw_M_146 nh_M_times pn_M_times rfl rfl (by omega) (by rw [va_up_ne _ _ (by decide), va_up_ne _ _ (by decide), va_up_self]) (As := [.int (iI 18), .int (iI 20), .int (iI 22)]) (rest := []) rfl (Nat.le_of_ble_eq_true rfl) ⟨by decide, by decide⟩ rfl ⟨by decide, by decide⟩ d_M_rest_15 (k_M_times hfl (a := 18) (b := 20) (t := 22) (hh := bh4) (ll := bl5) (V := W6) (br := br) (hN := hN) (hO := (by rw [va_up_ne _ _ (by decide), va_up_ne _ _ (by decide), va_up_self])) (hB := (by rw [va_up_ne _ _ (by decide), va_up_self])) (hL := (by rw [va_up_self])) (hR := hR7) (ha := by omega) (hb := by omega) (ht := by omega) (hxa := (((hf8 _ (by omega) (by omega) (by omega) (by omega) (by omega) (by omega))).trans ((va_up_ne _ _ (by decide)).trans ((va_up_ne _ _ (by decide)).trans h18)))) (bra := (hzz.2 18 (by decide) (by decide))) (hxb := w9) (brb := (hzz.2 20 (by decide) (by decide))) (hat := by decide) (hbt := by decide) (hs := by omega)) (fun  F3 hq => ?_)
  obtain ⟨bh11, bl12, hR13, eF3⟩ := hq
  refine J_eqF (F2 := va_up (va_up (va_up F 98 (oM ad (va_up f 7 (flS (if xs = ys then 0 else 1) (a * d) (b * c))) v)) 99 (.inl (g 0, 858, .inl (aI bh11)))) 100 (.inl (g 0, 33, .inl (aI bl12)))) (eF3.trans (Eq.trans (congrArg (fun q : Nat → va_E => va_up q 100 (.inl (g 0, 33, .inl (aI bl12)))) (up_in1 (by decide))) (up_in0))) ?_
  refine J_aload_n 0 d_M_rest_18 rfl rfl ?_
  refine J_bipush d_M_rest_19 (i8_ok (by decide)) ?_
  refine J_bipush d_M_rest_21 (i8_ok (by decide)) ?_
  refine J_callVv cw_M_58 nh_M_copy pn_M_copy rfl rfl (by omega) (by rw [va_up_ne _ _ (by decide), va_up_ne _ _ (by decide), va_up_self]) (As := [.int (iI 22), .int (iI 18)]) (rest := []) rfl (Nat.le_of_ble_eq_true rfl) ⟨by decide, by decide⟩ rfl ⟨by decide, by decide⟩ d_M_rest_23 (k_M_copy hfl (a := 22) (b := 18) (hh := bh11) (ll := bl12) (V := va_up W6 22 (c * (flM (if xs = ys then 0 else 1) (a * d) (b * c)))) (br := va_up br 22 0) (hN := hN) (hO := (by rw [va_up_ne _ _ (by decide), va_up_ne _ _ (by decide), va_up_self])) (hB := (by rw [va_up_ne _ _ (by decide), va_up_self])) (hL := (by rw [va_up_self])) (hR := hR13) (ha := by omega) (hb := by omega) (hxa := (va_up_self ..)) (bra := (va_up_self ..))) (fun  F4 hq => ?_)
  obtain ⟨bh16, bl17, hR18, eF4⟩ := hq
  refine J_eqF (F2 := va_up (va_up (va_up F 98 (oM ad (va_up f 7 (flS (if xs = ys then 0 else 1) (a * d) (b * c))) v)) 99 (.inl (g 0, 858, .inl (aI bh16)))) 100 (.inl (g 0, 33, .inl (aI bl17)))) (eF4.trans (Eq.trans (congrArg (fun q : Nat → va_E => va_up q 100 (.inl (g 0, 33, .inl (aI bl17)))) (up_in1 (by decide))) (up_in0))) ?_
  have hR21 := reg_w1 ((hzz_up hzz).1 _) hR18
  refine J_aload_n 0 d_M_rest_26 rfl rfl ?_
  refine J_aload_n 0 d_M_rest_27 rfl rfl ?_
  refine gf_M_152 (by omega) (by rw [va_up_ne _ _ (by decide), va_up_ne _ _ (by decide), va_up_self]) rfl d_M_rest_28 ?_
  refine J_topi (r := ys) (congrArg iI ((va_up_ne _ _ (by decide)).trans h6)) ?_
  refine J_aload_n 0 d_M_rest_31 rfl rfl ?_
  have lab43 : ∀ (y2 : Int) (hy2 : y2 = if ys = r1 then 1 else 0) , J l rm_M_rest (0, 0) "NumberTowerModel" b_M_rest 1 (Option.none : Option Jvm.ClassFile.FieldType) D jCl (jTys g) A (fun _ me => me.name = y_M_rest.name) (jv ad N (fun F' => ∃ (hh' ll' f' : Nat → Int) (W : Nat → Nat) (y2 : Int), reg br hh' ll' W ∧ (∀ k, k < 16 → W k = V k) ∧ (∀ j, 8 ≤ j → f' j = f j) ∧ y2 = (if ys = flS (if xs = ys then 0 else 1) (a * d) (b * c) then 1 else 0) ∧ W 20 = plM xs y2 (a * d) (c * flM (if xs = ys then 0 else 1) (a * d) (b * c) * b) ∧ W 21 = b * d ∧ f' 7 = plS xs y2 (a * d) (c * flM (if xs = ys then 0 else 1) (a * d) (b * c) * b) ∧ F' = va_up (va_up (va_up F 98 (oM ad f' v)) 99 (aB g hh')) 100 (aL g ll'))) ad N 0 0 43 [(0, .ref (ad 98))] [.int (iI y2), .ref (ad 98)] (va_up (va_up (va_up F 98 (oM ad (va_up f 7 (flS (if xs = ys then 0 else 1) (a * d) (b * c))) v)) 99 (.inl (g 0, 858, .inl (aI bh16)))) 100 (.inl (g 0, 33, .inl (aI bl17)))) := by
    intro y2 hy2
    refine pf_M_152 (by omega) (by rw [va_up_ne _ _ (by decide), va_up_ne _ _ (by decide), va_up_self]) (Nat.le_of_ble_eq_true rfl) (nb01 (by rw [hy2]; split <;> omega)) d_M_rest_43 ?_
    refine J_eqF (F2 := va_up (va_up (va_up (va_up F 98 (oM ad (va_up f 7 (flS (if xs = ys then 0 else 1) (a * d) (b * c))) v)) 99 (.inl (g 0, 858, .inl (aI bh16)))) 100 (.inl (g 0, 33, .inl (aI bl17)))) 98 (oM ad (va_up (va_up f 7 (flS (if xs = ys then 0 else 1) (a * d) (b * c))) 6 y2) v)) rfl ?_
    refine J_eqF (F2 := va_up (va_up (va_up F 98 (oM ad (va_up (va_up f 7 (flS (if xs = ys then 0 else 1) (a * d) (b * c))) 6 y2) v)) 99 (.inl (g 0, 858, .inl (aI bh16)))) 100 (.inl (g 0, 33, .inl (aI bl17)))) (up_in2 (by decide) (by decide)) ?_
    refine J_aload_n 0 d_M_rest_46 rfl rfl ?_
    refine J_callVv cw_M_170 nh_M_plus pn_M_plus rfl rfl (by omega) (by rw [va_up_ne _ _ (by decide), va_up_ne _ _ (by decide), va_up_self]) (As := []) (rest := []) rfl (Nat.le_of_ble_eq_true rfl) ⟨by decide, by decide⟩ rfl ⟨by decide, by decide⟩ d_M_rest_47 (c_M_plus hfl (a := a) (b := b) (c := c * (flM (if xs = ys then 0 else 1) (a * d) (b * c))) (d := d) (xs := xs) (ys := y2) (hh := bh16) (ll := bl17) (f := va_up (va_up f 7 (flS (if xs = ys then 0 else 1) (a * d) (b * c))) 6 y2) (v := v) (V := va_up (va_up W6 22 (c * (flM (if xs = ys then 0 else 1) (a * d) (b * c)))) 18 (c * (flM (if xs = ys then 0 else 1) (a * d) (b * c)))) (br := va_up br 22 0) hN (by rw [va_up_ne _ _ (by decide), va_up_ne _ _ (by decide), va_up_self]) (by rw [va_up_ne _ _ (by decide), va_up_self]) (by rw [va_up_self]) hR21 (hzz_up hzz) (((va_up_ne _ _ (by decide)).trans ((va_up_ne _ _ (by decide)).trans (((hf8 _ (by omega) (by omega) (by omega) (by omega) (by omega) (by omega))).trans ((va_up_ne _ _ (by decide)).trans ((va_up_ne _ _ (by decide)).trans h16)))))) (((va_up_ne _ _ (by decide)).trans ((va_up_ne _ _ (by decide)).trans (((hf8 _ (by omega) (by omega) (by omega) (by omega) (by omega) (by omega))).trans ((va_up_ne _ _ (by decide)).trans ((va_up_ne _ _ (by decide)).trans h17)))))) ((va_up_self ..)) (((va_up_ne _ _ (by decide)).trans ((va_up_ne _ _ (by decide)).trans (((hf8 _ (by omega) (by omega) (by omega) (by omega) (by omega) (by omega))).trans ((va_up_ne _ _ (by decide)).trans ((va_up_ne _ _ (by decide)).trans h19)))))) (((va_up_ne _ _ (by decide)).trans ((va_up_ne _ _ (by decide)).trans h5))) ((va_up_self ..)) hxs (by rw [hy2]; split <;> omega) ⟨by omega, by omega, by omega⟩) (fun  F5 hq => ?_)
    obtain ⟨bh22, bl23, hR24, eF5⟩ := hq
    refine J_eqF (F2 := va_up (va_up (va_up F 98 (oM ad (va_up (va_up f 7 (plS xs y2 (a * d) ((c * (flM (if xs = ys then 0 else 1) (a * d) (b * c))) * b))) 6 y2) v)) 99 (.inl (g 0, 858, .inl (aI bh22)))) 100 (.inl (g 0, 33, .inl (aI bl23)))) (eF5.trans (Eq.trans (Eq.trans (congrArg (fun q : Nat → va_E => va_up q 100 (.inl (g 0, 33, .inl (aI bl23)))) (congrArg (fun q : Nat → va_E => va_up q 99 (.inl (g 0, 858, .inl (aI bh22)))) (up_in2 (by decide) (by decide)))) (congrArg (fun q : Nat → va_E => va_up q 100 (.inl (g 0, 33, .inl (aI bl23)))) (up_in1 (by decide)))) (up_in0))) ?_
    have hR25 := (congrArg (fun qq : Nat → Nat => reg _ _ _ (va_up (va_up (va_up (qq) 23 ((c * (flM (if xs = ys then 0 else 1) (a * d) (b * c))) * b)) 21 (b * d)) 20 (plM xs y2 (a * d) ((c * (flM (if xs = ys then 0 else 1) (a * d) (b * c))) * b)))) (up_in1 (by decide))).mp hR24
    have hR26 := (reg_w1 (hzz.1 _) hR25)
    refine J_vret rfl d_M_rest_50 ⟨by decide, by decide⟩ ?_
    exact ⟨rfl, rfl, rfl, _, _, va_up (va_up f 7 (plS xs y2 (a * d) ((c * (flM (if xs = ys then 0 else 1) (a * d) (b * c))) * b))) 6 y2, _, y2, hR26, fun k hk => ((show (va_up (va_up (va_up (va_up (va_up W6 22 (a * d)) 18 (c * (flM (if xs = ys then 0 else 1) (a * d) (b * c)))) 23 ((c * (flM (if xs = ys then 0 else 1) (a * d) (b * c))) * b)) 21 (b * d)) 20 (plM xs y2 (a * d) ((c * (flM (if xs = ys then 0 else 1) (a * d) (b * c))) * b))) k = W6 k from by rw [va_up_ne _ _ (by omega), va_up_ne _ _ (by omega), va_up_ne _ _ (by omega), va_up_ne _ _ (by omega), va_up_ne _ _ (by omega)]).trans ((hf8 k (by omega) (by omega) (by omega) (by omega) (by omega) (by omega)).trans (show (va_up (va_up V 20 (a * d)) 21 (b * c)) k = V k from by rw [va_up_ne _ _ (by omega), va_up_ne _ _ (by omega)]))), fun j hj => by rw [va_up_ne _ _ (by omega), va_up_ne _ _ (by omega)], by rw [hy2, hr1], (va_up_self ..), ((va_up_ne _ _ (by decide)).trans (va_up_self ..)), ((va_up_ne _ _ (by decide)).trans (va_up_self ..)), rfl⟩
  refine gf_M_129 (by omega) (by rw [va_up_ne _ _ (by decide), va_up_ne _ _ (by decide), va_up_self]) rfl d_M_rest_32 ?_
  refine J_topi (r := flS (if xs = ys then 0 else 1) (a * d) (b * c)) (congrArg iI (va_up_self ..)) ?_
  refine J_topi (r := r1) (congrArg iI hr1.symm) ?_
  refine J_if_icmpne (tgt := 42) d_M_rest_35 (by decide) ⟨by omega, by omega⟩ ⟨by omega, by omega⟩ (fun c35 => ?_) (fun c35 => ?_)
  · refine J_iconst d_M_rest_42 ?_
    exact lab43 (0 : Int) (by first | rw [if_pos (by omega)] | rw [if_neg (by omega)])
  · refine J_iconst d_M_rest_38 ?_
    refine J_goto (tgt := 43) d_M_rest_39 (by decide) ?_
    exact lab43 (1 : Int) (by first | rw [if_pos (by omega)] | rw [if_neg (by omega)])
set_option maxRecDepth 100000 in
set_option maxHeartbeats 4000000 in
theorem c_M_even {l : Launch} (hfl : l.flags = flags0) {D : va_G} {g : Nat → ClassId} {ad : Nat → Nat} {N : Nat} {F : Nat → va_E} {hh ll f : Nat → Int} {v : UInt64} {V : Nat → Nat} {br : Nat → Nat} {u d x y : Nat}
    (hN : 109 ≤ N) (hO : F 98 = oM ad f v) (hB : F 99 = aB g hh) (hL : F 100 = aL g ll) (hR : reg br hh ll V) (hzz : okB br) (hu : u < 24) (hd : d < 24) (bru : br u = 0) (brd : br d = 0) (hx : V u = x) (hy : V d = y) (hy0 : y ≠ 0) (hlx : lnw 28 x ≤ 20) (hly : lnw 28 y ≤ 20) :
    JC l y_M_even b_M_even 4 (Option.none : Option Jvm.ClassFile.FieldType) rm_M_even (0, 0) D jCl (jTys g) ad N F [.ref (ad 98), .int (iI (u : Int)), .int (iI (d : Int))] (jv ad N (fun F' => ∃ (hh' ll' : Nat → Int) (W : Nat → Nat), reg br hh' ll' W ∧ (∀ k, k ≠ 24 → k ≠ 25 → k ≠ 26 → k ≠ 32 → W k = V k) ∧ W 24 = rnd (x / y) (x % y) y ∧ F' = va_up (va_up F 99 (aB g hh')) 100 (aL g ll'))) := by
  have hq : lnw 28 (x / y) ≤ 20 := Nat.le_trans (lnw_mono8 (Nat.div_le_self _ _)) hlx
  have hr : lnw 28 (x % y) ≤ 20 := Nat.le_trans (lnw_mono8 (Nat.le_of_lt (Nat.mod_lt _ (Nat.pos_of_ne_zero hy0)))) hly
  have hc1 := cmpN_gt (a := x % y * 2 ^ 1) (b := y)
  have hc2 := cmpN_0 (a := x % y * 2 ^ 1) (b := y)
  have hc3 := cmpN_rng (x % y * 2 ^ 1) y
  have hdq := dgt_008 (x / y)
  have hdn := dg_nat8 (x / y) 0
  have hdb := dgt_b8 (x / y) 0
  refine JC.go hfl (own := "NumberTowerModel") (lv := [(0, .ref (ad 98)), (1, .int (iI (u : Int))), (2, .int (iI (d : Int)))]) rfl (by decide +kernel) (Nat.le_of_ble_eq_true rfl) rfl (fun A => ?_)
  refine J_aload_n 0 d_M_even_0 rfl rfl ?_
  refine J_iload_n 1 d_M_even_1 rfl rfl ?_
  refine J_iload_n 2 d_M_even_2 rfl rfl ?_
  refine J_callVv cw_M_79 nh_M_divide pn_M_divide rfl rfl (by omega) hO (As := [.int (iI (u : Int)), .int (iI (d : Int))]) (rest := []) rfl (Nat.le_of_ble_eq_true rfl) ⟨by decide, by decide⟩ rfl ⟨by decide, by decide⟩ d_M_even_3 (k_M_divide hfl (a := u) (b := d) (hh := hh) (ll := ll) (V := V) (br := br) (hN := hN) (hO := hO) (hB := hB) (hL := hL) (hR := hR) (ha := by omega) (hb := by omega) (hxa := hx) (bra := bru) (hxb := hy) (brb := brd) (hzz := hzz) (ha2 := by omega) (hb2 := by omega) (hb0 := hy0) (hla2 := by omega) (hlb2 := by omega)) (fun  F1 hq => ?_)
  obtain ⟨bh27, bl28, j32, hR29, eF1⟩ := hq
  refine J_eqF (F2 := va_up (va_up F 99 (.inl (g 0, 858, .inl (aI bh27)))) 100 (.inl (g 0, 33, .inl (aI bl28)))) eF1 ?_
  refine J_aload_n 0 d_M_even_6 rfl rfl ?_
  refine J_bipush d_M_even_7 (i8_ok (by decide)) ?_
  refine J_iconst d_M_even_9 ?_
  refine J_callVv cw_M_66 nh_M_up pn_M_up rfl rfl (by omega) (by rw [va_up_ne _ _ (by decide), va_up_ne _ _ (by decide)]; exact hO) (As := [.int (iI 25), .int (iI 1)]) (rest := []) rfl (Nat.le_of_ble_eq_true rfl) ⟨by decide, by decide⟩ rfl ⟨by decide, by decide⟩ d_M_even_10 (k_M_up hfl (a := 25) (n := 1) (hh := bh27) (ll := bl28) (V := va_up (va_up (va_up V 26 j32) 25 (x % y)) 24 (x / y)) (br := br) (hN := hN) (hO := (by rw [va_up_ne _ _ (by decide), va_up_ne _ _ (by decide)]; exact hO)) (hB := (by rw [va_up_ne _ _ (by decide), va_up_self])) (hL := (by rw [va_up_self])) (hR := hR29) (ha := by omega) (hxa := ((va_up_ne _ _ (by decide)).trans (va_up_self ..))) (bra := (hzz.2 25 (by decide) (by decide))) (hn := by decide) (hT := Or.inr (by omega))) (fun  F2 hq => ?_)
  obtain ⟨bh33, bl34, hR35, eF2⟩ := hq
  refine J_eqF (F2 := va_up (va_up F 99 (.inl (g 0, 858, .inl (aI bh33)))) 100 (.inl (g 0, 33, .inl (aI bl34)))) (eF2.trans (Eq.trans (congrArg (fun q : Nat → va_E => va_up q 100 (.inl (g 0, 33, .inl (aI bl34)))) (up_in1 (by decide))) (up_in0))) ?_
  have hR38 := reg_w1 (hzz.1 _) hR35
  have hR39 := (congrArg (fun qq : Nat → Nat => reg _ _ _ (qq)) (up_in1 (by decide))).mp hR38
  refine J_aload_n 0 d_M_even_13 rfl rfl ?_
  refine J_bipush d_M_even_14 (i8_ok (by decide)) ?_
  refine J_iload_n 2 d_M_even_16 rfl rfl ?_
  refine J_callVi cw_M_105 nh_M_order pn_M_order rfl rfl (by omega) (by rw [va_up_ne _ _ (by decide), va_up_ne _ _ (by decide)]; exact hO) (As := [.int (iI 25), .int (iI (d : Int))]) (rest := []) rfl (Nat.le_of_ble_eq_true rfl) ⟨by decide, by decide⟩ rfl ⟨by decide, by decide⟩ d_M_even_17 (k_M_order hfl (a := 25) (b := d) (hh := bh33) (ll := bl34) (V := va_up (va_up (va_up V 26 j32) 25 ((x % y) * 2 ^ 1)) 24 (x / y)) (br := br) (hN := hN) (hO := (by rw [va_up_ne _ _ (by decide), va_up_ne _ _ (by decide)]; exact hO)) (hB := (by rw [va_up_ne _ _ (by decide), va_up_self])) (hL := (by rw [va_up_self])) (hR := hR39) (ha := by omega) (hb := by omega) (hxa := ((va_up_ne _ _ (by decide)).trans (va_up_self ..))) (bra := (hzz.2 25 (by decide) (by decide))) (hxb := ((va_up_ne _ _ (by omega)).trans ((va_up_ne _ _ (by omega)).trans ((va_up_ne _ _ (by omega)).trans hy)))) (brb := brd)) (fun z40 F3 hq => ?_)
  obtain ⟨hz40, eF3⟩ := hq
  refine J_eqF eF3 ?_
  refine J_topi (r := cmpN ((x % y) * 2 ^ 1) y) (congrArg iI hz40) ?_
  refine J_istore_n (lv' := [(3, .int (iI (cmpN ((x % y) * 2 ^ 1) y))), (0, .ref (ad 98)), (1, .int (iI (u : Int))), (2, .int (iI (d : Int)))]) d_M_even_20 rfl (by decide) rfl ?_
  refine J_iload_n 0 d_M_even_21 rfl rfl ?_
  refine J_ifgt (tgt := 42) d_M_even_22 (by decide) ⟨by omega, by omega⟩ (fun c22 => ?_) (fun c22 => ?_)
  · refine J_aload_n 1 d_M_even_42 rfl rfl ?_
    refine J_bipush d_M_even_43 (i8_ok (by decide)) ?_
    refine J_callVv cw_M_161 nh_M_grow1 pn_M_grow1 rfl rfl (by omega) (by rw [va_up_ne _ _ (by decide), va_up_ne _ _ (by decide)]; exact hO) (As := [.int (iI 24)]) (rest := []) rfl (Nat.le_of_ble_eq_true rfl) ⟨by decide, by decide⟩ rfl ⟨by decide, by decide⟩ d_M_even_45 (c_M_grow1 hfl (a := 24) (x := x / y) (hh := bh33) (ll := bl34) (f := f) (v := v) (V := va_up (va_up (va_up V 26 j32) 25 ((x % y) * 2 ^ 1)) 24 (x / y)) (br := br) hN (by rw [va_up_ne _ _ (by decide), va_up_ne _ _ (by decide)]; exact hO) (by rw [va_up_ne _ _ (by decide), va_up_self]) (by rw [va_up_self]) hR39 hzz (by omega) (hzz.2 24 (by decide) (by decide)) ((va_up_self ..)) (by omega)) (fun  F4 hq => ?_)
    obtain ⟨bh41, bl42, hR43, eF4⟩ := hq
    refine J_eqF (F2 := va_up (va_up F 99 (.inl (g 0, 858, .inl (aI bh41)))) 100 (.inl (g 0, 33, .inl (aI bl42)))) (eF4.trans (Eq.trans (congrArg (fun q : Nat → va_E => va_up q 100 (.inl (g 0, 33, .inl (aI bl42)))) (up_in1 (by decide))) (up_in0))) ?_
    have hR44 := (congrArg (fun qq : Nat → Nat => reg _ _ _ (qq)) (up_in1 (by decide))).mp hR43
    refine J_vret rfl d_M_even_48 ⟨by decide, by decide⟩ ?_
    refine ⟨rfl, rfl, rfl, _, _, _, hR44, fun k k1 k2 k3 k4 => (show (va_up (va_up (va_up (va_up V 26 j32) 25 ((x % y) * 2 ^ 1)) 24 ((x / y) + 1)) 32 1) k = V k from by rw [va_up_ne _ _ (by omega), va_up_ne _ _ (by omega), va_up_ne _ _ (by omega), va_up_ne _ _ (by omega)]), ?_, rfl⟩
    rw [show (va_up (va_up (va_up (va_up V 26 j32) 25 ((x % y) * 2 ^ 1)) 24 ((x / y) + 1)) 32 1) 24 = (x / y) + 1 from ((va_up_ne _ _ (by decide)).trans (va_up_self ..))]
    unfold rnd
    first
    | rw [if_pos (by omega)]
    | rw [if_neg (by omega)]
  · refine J_iload_n 0 d_M_even_25 rfl rfl ?_
    refine J_ifne (tgt := 48) d_M_even_26 (by decide) ⟨by omega, by omega⟩ (fun c26 => ?_) (fun c26 => ?_)
    · refine J_vret rfl d_M_even_48 ⟨by decide, by decide⟩ ?_
      refine ⟨rfl, rfl, rfl, _, _, _, hR39, fun k k1 k2 k3 k4 => (show (va_up (va_up (va_up V 26 j32) 25 ((x % y) * 2 ^ 1)) 24 (x / y)) k = V k from by rw [va_up_ne _ _ (by omega), va_up_ne _ _ (by omega), va_up_ne _ _ (by omega)]), ?_, rfl⟩
      rw [show (va_up (va_up (va_up V 26 j32) 25 ((x % y) * 2 ^ 1)) 24 (x / y)) 24 = x / y from (va_up_self ..)]
      unfold rnd
      first
      | rw [if_pos (by omega)]
      | rw [if_neg (by omega)]
    · refine J_aload_n 1 d_M_even_29 rfl rfl ?_
      refine J_bipush d_M_even_30 (i8_ok (by decide)) ?_
      refine J_iconst d_M_even_32 ?_
      refine J_callVi cw_M_45 nh_M_limb pn_M_limb rfl rfl (by omega) (by rw [va_up_ne _ _ (by decide), va_up_ne _ _ (by decide)]; exact hO) (As := [.int (iI 24), .int (iI 0)]) (rest := []) rfl (Nat.le_of_ble_eq_true rfl) ⟨by decide, by decide⟩ rfl ⟨by decide, by decide⟩ d_M_even_33 (k_M_limb hfl (a := 24) (k := 0) (hh := bh33) (ll := bl34) (V := va_up (va_up (va_up V 26 j32) 25 ((x % y) * 2 ^ 1)) 24 (x / y)) (br := br) (hN := hN) (hO := (by rw [va_up_ne _ _ (by decide), va_up_ne _ _ (by decide)]; exact hO)) (hB := (by rw [va_up_ne _ _ (by decide), va_up_self])) (hL := (by rw [va_up_self])) (hR := hR39) (ha := by omega) (hxa := (va_up_self ..)) (bra := (hzz.2 24 (by decide) (by decide))) (hk := by omega)) (fun z45 F5 hq => ?_)
      obtain ⟨hz45, eF5⟩ := hq
      refine J_eqF eF5 ?_
      refine J_topi (r := dg8 (x / y) 0) (congrArg iI hz45) ?_
      refine J_topi (r := (((dgt 28 (x / y) 0 : Nat)) : Int)) (congrArg iI rfl) ?_
      refine J_iconst d_M_even_36 ?_
      refine J_iand (r := (((dgt 28 (x / y) 0) % 2 : Nat) : Int)) d_M_even_37 (iI_andn 1 (by decide)) ?_
      refine J_iconst d_M_even_38 ?_
      refine J_if_icmpne (tgt := 48) d_M_even_39 (by decide) ⟨by omega, by omega⟩ ⟨by omega, by omega⟩ (fun c39 => ?_) (fun c39 => ?_)
      · refine J_vret rfl d_M_even_48 ⟨by decide, by decide⟩ ?_
        refine ⟨rfl, rfl, rfl, _, _, _, hR39, fun k k1 k2 k3 k4 => (show (va_up (va_up (va_up V 26 j32) 25 ((x % y) * 2 ^ 1)) 24 (x / y)) k = V k from by rw [va_up_ne _ _ (by omega), va_up_ne _ _ (by omega), va_up_ne _ _ (by omega)]), ?_, rfl⟩
        rw [show (va_up (va_up (va_up V 26 j32) 25 ((x % y) * 2 ^ 1)) 24 (x / y)) 24 = x / y from (va_up_self ..)]
        unfold rnd
        first
        | rw [if_pos (by omega)]
        | rw [if_neg (by omega)]
      · refine J_aload_n 1 d_M_even_42 rfl rfl ?_
        refine J_bipush d_M_even_43 (i8_ok (by decide)) ?_
        refine J_callVv cw_M_161 nh_M_grow1 pn_M_grow1 rfl rfl (by omega) (by rw [va_up_ne _ _ (by decide), va_up_ne _ _ (by decide)]; exact hO) (As := [.int (iI 24)]) (rest := []) rfl (Nat.le_of_ble_eq_true rfl) ⟨by decide, by decide⟩ rfl ⟨by decide, by decide⟩ d_M_even_45 (c_M_grow1 hfl (a := 24) (x := x / y) (hh := bh33) (ll := bl34) (f := f) (v := v) (V := va_up (va_up (va_up V 26 j32) 25 ((x % y) * 2 ^ 1)) 24 (x / y)) (br := br) hN (by rw [va_up_ne _ _ (by decide), va_up_ne _ _ (by decide)]; exact hO) (by rw [va_up_ne _ _ (by decide), va_up_self]) (by rw [va_up_self]) hR39 hzz (by omega) (hzz.2 24 (by decide) (by decide)) ((va_up_self ..)) (by omega)) (fun  F6 hq => ?_)
        obtain ⟨bh46, bl47, hR48, eF6⟩ := hq
        refine J_eqF (F2 := va_up (va_up F 99 (.inl (g 0, 858, .inl (aI bh46)))) 100 (.inl (g 0, 33, .inl (aI bl47)))) (eF6.trans (Eq.trans (congrArg (fun q : Nat → va_E => va_up q 100 (.inl (g 0, 33, .inl (aI bl47)))) (up_in1 (by decide))) (up_in0))) ?_
        have hR49 := (congrArg (fun qq : Nat → Nat => reg _ _ _ (qq)) (up_in1 (by decide))).mp hR48
        refine J_vret rfl d_M_even_48 ⟨by decide, by decide⟩ ?_
        refine ⟨rfl, rfl, rfl, _, _, _, hR49, fun k k1 k2 k3 k4 => (show (va_up (va_up (va_up (va_up V 26 j32) 25 ((x % y) * 2 ^ 1)) 24 ((x / y) + 1)) 32 1) k = V k from by rw [va_up_ne _ _ (by omega), va_up_ne _ _ (by omega), va_up_ne _ _ (by omega), va_up_ne _ _ (by omega)]), ?_, rfl⟩
        rw [show (va_up (va_up (va_up (va_up V 26 j32) 25 ((x % y) * 2 ^ 1)) 24 ((x / y) + 1)) 32 1) 24 = (x / y) + 1 from ((va_up_ne _ _ (by decide)).trans (va_up_self ..))]
        unfold rnd
        first
        | rw [if_pos (by omega)]
        | rw [if_neg (by omega)]
set_option maxRecDepth 100000 in
set_option maxHeartbeats 4000000 in
theorem c_M_shift {l : Launch} (hfl : l.flags = flags0) {D : va_G} {g : Nat → ClassId} {ad : Nat → Nat} {N : Nat} {F : Nat → va_E} {hh ll f : Nat → Int} {v : UInt64} {V : Nat → Nat} {br : Nat → Nat} {a : Nat} {xs n : Int}
    (hN : 109 ≤ N) (hO : F 98 = oM ad f v) (hB : F 99 = aB g hh) (hL : F 100 = aL g ll) (hR : reg br hh ll V) (hzz : okB br) (h16 : V 16 = a) (h5 : f 5 = xs) (hxs : xs = 0 ∨ xs = 1) (hn : -120 ≤ n ∧ n ≤ 120) (hla : lnw 28 a ≤ 5) :
    JC l y_M_shift b_M_shift 2 (Option.none : Option Jvm.ClassFile.FieldType) rm_M_shift (0, 0) D jCl (jTys g) ad N F [.ref (ad 98), .int (iI n)] (jv ad N (fun F' => ∃ (hh' ll' f' : Nat → Int) (W : Nat → Nat), reg br hh' ll' W ∧ (∀ k, k < 16 → W k = V k) ∧ (∀ j, 8 ≤ j → f' j = f j) ∧ W 20 = (if 0 ≤ n then a * 2 ^ n.toNat else flM xs a (1 * 2 ^ (-n).toNat)) ∧ W 21 = 1 ∧ f' 7 = (if 0 ≤ n then xs else flS xs a (1 * 2 ^ (-n).toNat)) ∧ F' = va_up (va_up (va_up F 98 (oM ad f' v)) 99 (aB g hh')) 100 (aL g ll'))) := by
  have hl1 : lnw 28 1 = 1 := by decide
  have hl2 : lnw 28 (1 * 2 ^ (-n).toNat) ≤ 20 := Nat.le_trans lnw_up8 (by omega)
  have hnz : 1 * 2 ^ (-n).toNat ≠ 0 := Nat.mul_ne_zero (by decide) (Nat.ne_of_gt (Nat.two_pow_pos _))
  refine JC.go hfl (own := "NumberTowerModel") (lv := [(0, .ref (ad 98)), (1, .int (iI n))]) rfl (by decide +kernel) (Nat.le_of_ble_eq_true rfl) rfl (fun A => ?_)
  refine J_aload_n 0 d_M_shift_0 rfl rfl ?_
  refine J_bipush d_M_shift_1 (i8_ok (by decide)) ?_
  refine J_bipush d_M_shift_3 (i8_ok (by decide)) ?_
  refine J_callVv cw_M_58 nh_M_copy pn_M_copy rfl rfl (by omega) hO (As := [.int (iI 16), .int (iI 20)]) (rest := []) rfl (Nat.le_of_ble_eq_true rfl) ⟨by decide, by decide⟩ rfl ⟨by decide, by decide⟩ d_M_shift_5 (k_M_copy hfl (a := 16) (b := 20) (hh := hh) (ll := ll) (V := V) (br := br) (hN := hN) (hO := hO) (hB := hB) (hL := hL) (hR := hR) (ha := by omega) (hb := by omega) (hxa := h16) (bra := (hzz.2 16 (by decide) (by decide)))) (fun  F1 hq => ?_)
  obtain ⟨bh50, bl51, hR52, eF1⟩ := hq
  refine J_eqF (F2 := va_up (va_up F 99 (.inl (g 0, 858, .inl (aI bh50)))) 100 (.inl (g 0, 33, .inl (aI bl51)))) eF1 ?_
  have hR55 := reg_w1 (hzz.1 _) hR52
  refine J_aload_n 0 d_M_shift_8 rfl rfl ?_
  refine J_bipush d_M_shift_9 (i8_ok (by decide)) ?_
  refine J_lconst (v := 1) d_M_shift_11 rfl ?_
  refine J_callVv cw_M_82 nh_M_put pn_M_put rfl rfl (by omega) (by rw [va_up_ne _ _ (by decide), va_up_ne _ _ (by decide)]; exact hO) (As := [.int (iI 21), .long (lI 1)]) (rest := []) rfl (Nat.le_of_ble_eq_true rfl) ⟨by decide, by decide⟩ rfl ⟨by decide, by decide⟩ d_M_shift_12 (k_M_put hfl (a := 21) (n := 1) (hh := bh50) (ll := bl51) (V := va_up V 20 a) (br := br) (hN := hN) (hO := (by rw [va_up_ne _ _ (by decide), va_up_ne _ _ (by decide)]; exact hO)) (hB := (by rw [va_up_ne _ _ (by decide), va_up_self])) (hL := (by rw [va_up_self])) (hR := hR55) (ha := by omega) (hn := by decide)) (fun  F2 hq => ?_)
  obtain ⟨bh56, bl57, hR58, eF2⟩ := hq
  refine J_eqF (F2 := va_up (va_up F 99 (.inl (g 0, 858, .inl (aI bh56)))) 100 (.inl (g 0, 33, .inl (aI bl57)))) (eF2.trans (Eq.trans (congrArg (fun q : Nat → va_E => va_up q 100 (.inl (g 0, 33, .inl (aI bl57)))) (up_in1 (by decide))) (up_in0))) ?_
  have hR61 := reg_w1 (hzz.1 _) hR58
  refine J_aload_n 0 d_M_shift_15 rfl rfl ?_
  refine J_aload_n 0 d_M_shift_16 rfl rfl ?_
  refine gf_M_149 (by omega) (by rw [va_up_ne _ _ (by decide), va_up_ne _ _ (by decide)]; exact hO) rfl d_M_shift_17 ?_
  refine J_topi (r := xs) (congrArg iI h5) ?_
  refine pf_M_129 (by omega) (by rw [va_up_ne _ _ (by decide), va_up_ne _ _ (by decide)]; exact hO) (Nat.le_of_ble_eq_true rfl) (nb01 (by omega)) d_M_shift_20 ?_
  refine J_eqF (F2 := va_up (va_up (va_up F 99 (.inl (g 0, 858, .inl (aI bh56)))) 100 (.inl (g 0, 33, .inl (aI bl57)))) 98 (oM ad (va_up f 7 xs) v)) rfl ?_
  refine J_iload_n 1 d_M_shift_23 rfl rfl ?_
  refine J_iflt (tgt := 37) d_M_shift_24 (by decide) ⟨by omega, by omega⟩ (fun c24 => ?_) (fun c24 => ?_)
  · refine J_aload_n 0 d_M_shift_37 rfl rfl ?_
    refine J_bipush d_M_shift_38 (i8_ok (by decide)) ?_
    refine J_iload_n 1 d_M_shift_40 rfl rfl ?_
    refine J_ineg d_M_shift_41 ?_
    refine J_topi (r := (((-n).toNat : Nat) : Int)) (congrArg iI (by omega)) ?_
    refine J_callVv cw_M_66 nh_M_up pn_M_up rfl rfl (by omega) (by rw [va_up_self]) (As := [.int (iI 21), .int (iI (((-n).toNat : Nat) : Int))]) (rest := []) rfl (Nat.le_of_ble_eq_true rfl) ⟨by decide, by decide⟩ rfl ⟨by decide, by decide⟩ d_M_shift_42 (k_M_up hfl (a := 21) (n := (-n).toNat) (hh := bh56) (ll := bl57) (V := va_up (va_up V 20 a) 21 1) (br := br) (hN := hN) (hO := (by rw [va_up_self])) (hB := (by rw [va_up_ne _ _ (by decide), va_up_ne _ _ (by decide), va_up_self])) (hL := (by rw [va_up_ne _ _ (by decide), va_up_self])) (hR := hR61) (ha := by omega) (hxa := (va_up_self ..)) (bra := (hzz.2 21 (by decide) (by decide))) (hn := by omega) (hT := Or.inr (by omega))) (fun  F3 hq => ?_)
    obtain ⟨bh62, bl63, hR64, eF3⟩ := hq
    refine J_eqF (F2 := va_up (va_up (va_up F 99 (.inl (g 0, 858, .inl (aI bh62)))) 100 (.inl (g 0, 33, .inl (aI bl63)))) 98 (oM ad (va_up f 7 xs) v)) (eF3.trans (Eq.trans (congrArg (fun q : Nat → va_E => va_up q 100 (.inl (g 0, 33, .inl (aI bl63)))) (up_in2 (by decide) (by decide))) (up_in1 (by decide)))) ?_
    have hR67 := reg_w1 (hzz.1 _) hR64
    have hR68 := (congrArg (fun qq : Nat → Nat => reg _ _ _ (qq)) (up_in0)).mp hR67
    refine J_aload_n 0 d_M_shift_45 rfl rfl ?_
    refine J_callVv cw_M_167 nh_M_floor pn_M_floor rfl rfl (by omega) (by rw [va_up_self]) (As := []) (rest := []) rfl (Nat.le_of_ble_eq_true rfl) ⟨by decide, by decide⟩ rfl ⟨by decide, by decide⟩ d_M_shift_46 (c_M_floor hfl (a := a) (b := 1 * 2 ^ ((-n).toNat)) (rs := xs) (hh := bh62) (ll := bl63) (f := va_up f 7 xs) (v := v) (V := va_up (va_up V 20 a) 21 (1 * 2 ^ ((-n).toNat))) (br := br) hN (by rw [va_up_self]) (by rw [va_up_ne _ _ (by decide), va_up_ne _ _ (by decide), va_up_self]) (by rw [va_up_ne _ _ (by decide), va_up_self]) hR68 hzz (((va_up_ne _ _ (by decide)).trans (va_up_self ..))) ((va_up_self ..)) ((va_up_self ..)) hxs hnz (by omega) (by omega)) (fun  F4 hq => ?_)
    obtain ⟨bh69, bl70, W71, hR72, hf73, w74, w75, eF4⟩ := hq
    refine J_eqF (F2 := va_up (va_up (va_up F 99 (.inl (g 0, 858, .inl (aI bh69)))) 100 (.inl (g 0, 33, .inl (aI bl70)))) 98 (oM ad (va_up f 7 (flS xs a (1 * 2 ^ ((-n).toNat)))) v)) (eF4.trans (Eq.trans (Eq.trans (congrArg (fun q : Nat → va_E => va_up q 100 (.inl (g 0, 33, .inl (aI bl70)))) (congrArg (fun q : Nat → va_E => va_up q 99 (.inl (g 0, 858, .inl (aI bh69)))) (up_in0))) (congrArg (fun q : Nat → va_E => va_up q 100 (.inl (g 0, 33, .inl (aI bl70)))) (up_in2 (by decide) (by decide)))) (up_in1 (by decide)))) ?_
    refine J_eqF (F2 := va_up (va_up (va_up F 98 (oM ad (va_up f 7 (flS xs a (1 * 2 ^ ((-n).toNat)))) v)) 99 (.inl (g 0, 858, .inl (aI bh69)))) 100 (.inl (g 0, 33, .inl (aI bl70)))) (Eq.trans (up_cm (by decide)) (congrArg (fun qq : Nat → va_E => va_up qq 100 (.inl (g 0, 33, .inl (aI bl70)))) (up_cm (by decide)))) ?_
    refine J_vret rfl d_M_shift_49 ⟨by decide, by decide⟩ ?_
    exact ⟨rfl, rfl, rfl, _, _, va_up f 7 (flS xs a (1 * 2 ^ ((-n).toNat))), _, hR72, fun k hk => ((show (W71) k = W71 k from by rfl).trans ((hf73 k (by omega) (by omega) (by omega) (by omega) (by omega) (by omega)).trans (show (va_up (va_up V 20 a) 21 (1 * 2 ^ ((-n).toNat))) k = V k from by rw [va_up_ne _ _ (by omega), va_up_ne _ _ (by omega)]))), fun j hj => by rw [va_up_ne _ _ (by omega)], by rw [if_neg (by omega)]; exact w74, w75, by rw [if_neg (by omega)]; exact (va_up_self ..), rfl⟩
  · refine J_aload_n 0 d_M_shift_27 rfl rfl ?_
    refine J_bipush d_M_shift_28 (i8_ok (by decide)) ?_
    refine J_iload_n 1 d_M_shift_30 rfl rfl ?_
    refine J_topi (r := ((n.toNat : Nat) : Int)) (congrArg iI (by omega)) ?_
    refine J_callVv cw_M_66 nh_M_up pn_M_up rfl rfl (by omega) (by rw [va_up_self]) (As := [.int (iI 20), .int (iI ((n.toNat : Nat) : Int))]) (rest := []) rfl (Nat.le_of_ble_eq_true rfl) ⟨by decide, by decide⟩ rfl ⟨by decide, by decide⟩ d_M_shift_31 (k_M_up hfl (a := 20) (n := n.toNat) (hh := bh56) (ll := bl57) (V := va_up (va_up V 20 a) 21 1) (br := br) (hN := hN) (hO := (by rw [va_up_self])) (hB := (by rw [va_up_ne _ _ (by decide), va_up_ne _ _ (by decide), va_up_self])) (hL := (by rw [va_up_ne _ _ (by decide), va_up_self])) (hR := hR61) (ha := by omega) (hxa := ((va_up_ne _ _ (by decide)).trans (va_up_self ..))) (bra := (hzz.2 20 (by decide) (by decide))) (hn := by omega) (hT := Or.inr (by omega))) (fun  F5 hq => ?_)
    obtain ⟨bh76, bl77, hR78, eF5⟩ := hq
    refine J_eqF (F2 := va_up (va_up (va_up F 99 (.inl (g 0, 858, .inl (aI bh76)))) 100 (.inl (g 0, 33, .inl (aI bl77)))) 98 (oM ad (va_up f 7 xs) v)) (eF5.trans (Eq.trans (congrArg (fun q : Nat → va_E => va_up q 100 (.inl (g 0, 33, .inl (aI bl77)))) (up_in2 (by decide) (by decide))) (up_in1 (by decide)))) ?_
    have hR81 := reg_w1 (hzz.1 _) hR78
    have hR82 := (congrArg (fun qq : Nat → Nat => reg _ _ _ (qq)) (up_in1 (by decide))).mp hR81
    refine J_goto (tgt := 49) d_M_shift_34 (by decide) ?_
    refine J_eqF (F2 := va_up (va_up (va_up F 98 (oM ad (va_up f 7 xs) v)) 99 (.inl (g 0, 858, .inl (aI bh76)))) 100 (.inl (g 0, 33, .inl (aI bl77)))) (Eq.trans (up_cm (by decide)) (congrArg (fun qq : Nat → va_E => va_up qq 100 (.inl (g 0, 33, .inl (aI bl77)))) (up_cm (by decide)))) ?_
    refine J_vret rfl d_M_shift_49 ⟨by decide, by decide⟩ ?_
    exact ⟨rfl, rfl, rfl, _, _, va_up f 7 xs, _, hR82, fun k hk => (show (va_up (va_up V 20 (a * 2 ^ n.toNat)) 21 1) k = V k from by rw [va_up_ne _ _ (by omega), va_up_ne _ _ (by omega)]), fun j hj => by rw [va_up_ne _ _ (by omega)], by rw [if_pos (by omega)]; exact ((va_up_ne _ _ (by decide)).trans (va_up_self ..)), (va_up_self ..), by rw [if_pos (by omega)]; exact (va_up_self ..), rfl⟩
