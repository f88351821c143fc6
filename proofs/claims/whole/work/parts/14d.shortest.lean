/-! the Model: the shortest digits -/

theorem su168 {m : Nat} {e : Int} (h : m < 9007199254740992) (he : e ≤ 60) : su m e < 2 ^ 168 := sus_c (Nat.lt_trans h (by decide)) he
theorem shF_s {u d m f : Nat} {e : Int} {h : Nat} (hs : shN u d e m = some h) : shG u d e (f + 1) m = (m, h) := by
  show (match shN u d e m with | some h => (m, h) | none => shG u d e f (m + 1)) = _
  rw [hs]
theorem shF_n {u d m f : Nat} {e : Int} (hs : shN u d e m = none) : shG u d e (f + 1) m = shG u d e f (m + 1) := by
  show (match shN u d e m with | some h => (m, h) | none => shG u d e f (m + 1)) = _
  rw [hs]
theorem ndg_18 {G : Nat} (h : G < 10 ^ 18) : ndm 10 1 G ≤ 200 := by
  have := (ndg_le (b := 10) (by decide)).mpr h
  unfold ndm
  split <;> omega
theorem ndg_pos {b H : Nat} (hb : 2 ≤ b) (hH : 0 < H) : 0 < ndg b H := by
  apply Nat.lt_of_not_le
  intro w
  have := (ndg_le hb).mp w
  rw [Nat.pow_zero] at this
  omega
theorem ndm_pos {b H : Nat} (hb : 2 ≤ b) (hH : 0 < H) : ndm b 1 H = ndg b H := by
  unfold ndm
  exact if_pos (ndg_pos hb hH)
/-- the exponent that is shown, and the digits' number -/
noncomputable def shR (u d : Nat) : Nat × Nat := shG u d (expo u d) 17 1
noncomputable def shE (u d : Nat) : Int := if (shR u d).1 < ndg 10 (shR u d).2 then expo u d + 1 else expo u d
set_option maxRecDepth 100000 in
set_option maxHeartbeats 4000000 in
theorem c_M_shortest {l : Launch} (hfl : l.flags = flags0) {D : va_G} {g : Nat → ClassId} {ad : Nat → Nat} {N : Nat} {F : Nat → va_E} {hh ll f : Nat → Int} {v : UInt64} {V : Nat → Nat} {br : Nat → Nat} {a u d m0 : Nat} {e0 : Int} {rr : Nat → UInt64} {dh : Nat → Int}
    (hN : 109 ≤ N) (hO : F 98 = oM ad f v) (hB : F 99 = aB g hh) (hL : F 100 = aL g ll) (hR : reg br hh ll V) (hzz : okB br) (hRr : F 103 = .inl (g 3, 8, .inr (.inr (.inr (.inl rr))))) (h106 : F 106 = .inl (g 0, 200, .inl (aI dh))) (ha : a < 8) (hrr : rr a = fd false m0 e0) (hm0 : 4503599627370496 ≤ m0 ∧ m0 < 9007199254740992) (he0 : -152 ≤ e0 ∧ e0 ≤ 47) (hu0 : 0 < u) (hd0 : 0 < d) (hr0 : su m0 e0 * d = u * sd 1 e0) (hlu : u = lowu (su m0 e0) (sd 1 e0)) (hld : d = lowd (su m0 e0) (sd 1 e0)) :
    JC l y_M_shortest b_M_shortest 8 (Option.some Jvm.ClassFile.FieldType.int) rm_M_shortest (0, 0) D jCl (jTys g) ad N F [.ref (ad 98), .int (iI (a : Int))] (ji ad N (fun z F' => z = shE u d ∧ (-60 ≤ z ∧ z ≤ 60) ∧ (0 < (shR u d).2 ∧ (shR u d).2 < 10 ^ 18) ∧ ∃ (hh' ll' dh' : Nat → Int) (W : Nat → Nat) (b : Int), reg br hh' ll' W ∧ (∀ k, k < 16 → W k = V k) ∧ (∀ k, k < ndm 10 1 (shR u d).2 → dh' k = ((dgv 10 (shR u d).2 k : Nat) : Int)) ∧ F' = va_up (va_up (va_up (va_up F 98 (oM ad (va_up (va_up f 8 b) 16 ((ndm 10 1 (shR u d).2 : Nat) : Int)) v)) 99 (aB g hh')) 100 (aL g ll')) 106 (.inl (g 0, 200, .inl (aI dh'))))) := by
  refine JC.go hfl (own := "NumberTowerModel") (lv := [(0, .ref (ad 98)), (1, .int (iI (a : Int)))]) rfl (by decide +kernel) (Nat.le_of_ble_eq_true rfl) rfl (fun A => ?_)
  refine J_aload_n 0 d_M_shortest_0 rfl rfl ?_
  refine J_aload_n 0 d_M_shortest_1 rfl rfl ?_
  refine gf_M_23 (by omega) hO rfl d_M_shortest_2 ?_
  refine J_iload_n 1 d_M_shortest_5 rfl rfl ?_
  refine J_daload 3 rfl (by omega) hRr (by omega) d_M_shortest_6 ?_
  refine J_topd (y := rr a) (congrArg (fun q => rr q) (by omega)) ?_
  refine J_topd (y := (fd false m0 e0)) hrr ?_
  refine J_bipush d_M_shortest_7 (i8_ok (by decide)) ?_
  refine J_bipush d_M_shortest_9 (i8_ok (by decide)) ?_
  refine J_callVv cw_M_114 nh_M_split pn_M_split rfl rfl (by omega) hO (As := [.double (fd false m0 e0), .int (iI 31), .int (iI 28)]) (rest := []) rfl (Nat.le_of_ble_eq_true rfl) ⟨by decide, by decide⟩ rfl ⟨by decide, by decide⟩ d_M_shortest_11 (c_M_split hfl (u := 31) (d := 28) (m := m0) (e0 := e0) (hh := hh) (ll := ll) (f := f) (v := v) (V := V) (br := br) hN hO hB hL hR hzz (by decide) (by decide) (hzz.2 31 (by decide) (by decide)) (hzz.2 28 (by decide) (by decide)) (by decide) (Or.inr hm0) ⟨by omega, by omega⟩) (fun  F1 hq => ?_)
  obtain ⟨bh1, bl2, hR3, eF1⟩ := hq
  refine J_eqF (F2 := va_up (va_up F 99 (.inl (g 0, 858, .inl (aI bh1)))) 100 (.inl (g 0, 33, .inl (aI bl2)))) eF1 ?_
  have hxb := su168 (e := e0) hm0.2 (by omega)
  have hyb := sds_c (e := e0) (by omega)
  have hx0 : 0 < su m0 e0 := su_pos (by omega) _
  have hy0 : 0 < sd 1 e0 := sd_pos (by decide) _
  obtain ⟨X, hX⟩ : ∃ X, X = su m0 e0 := ⟨_, rfl⟩
  obtain ⟨Y, hY⟩ : ∃ Y, Y = sd 1 e0 := ⟨_, rfl⟩
  rw [← hX] at hr0 hlu hld hR3 hxb hx0
  rw [← hY] at hr0 hlu hld hR3 hyb hy0
  refine J_aload_n 0 d_M_shortest_14 rfl rfl ?_
  refine J_callVi cw_M_285 nh_M_exponent pn_M_exponent rfl rfl (by omega) (by rw [va_up_ne _ _ (by decide), va_up_ne _ _ (by decide)]; exact hO) (As := []) (rest := []) rfl (Nat.le_of_ble_eq_true rfl) ⟨by decide, by decide⟩ rfl ⟨by decide, by decide⟩ d_M_shortest_15 (c_M_exponent hfl (x := X) (y := Y) (hh := bh1) (ll := bl2) (f := f) (v := v) (V := va_up (va_up V 28 Y) 31 X) (br := br) hN (by rw [va_up_ne _ _ (by decide), va_up_ne _ _ (by decide)]; exact hO) (by rw [va_up_ne _ _ (by decide), va_up_self]) (by rw [va_up_self]) hR3 hzz (va_up_self ..) ((va_up_ne _ _ (by decide)).trans (va_up_self ..)) hxb hyb hx0 hy0) (fun E F2 hq => ?_)
  obtain ⟨hEx, hEb, bh8, bl8, W8, hR8, hW8, eF2⟩ := hq
  refine J_eqF (F2 := va_up (va_up F 99 (.inl (g 0, 858, .inl (aI bh8)))) 100 (.inl (g 0, 33, .inl (aI bl8)))) (eF2.trans (Eq.trans (congrArg (fun q : Nat → va_E => va_up q 100 (.inl (g 0, 33, .inl (aI bl8)))) (up_in1 (by decide))) (up_in0))) ?_
  have hEu : isX u d E := (isX_ratio hy0 hd0 hr0 E).mp hEx
  have hEe : expo u d = E := expo_eq hu0 hEu
  have h17 := shN_17 (n := -e0) (M := m0) hu0 hd0 hm0 ⟨by omega, by omega⟩ (by rw [Int.neg_neg, ← hX, ← hY]; exact hr0) (by rw [Int.neg_neg, ← hX, ← hY]; exact hlu) (by rw [Int.neg_neg, ← hX, ← hY]; exact hld) hEu
  rw [hX] at hlu
  rw [hX] at hld
  rw [hY] at hlu
  rw [hY] at hld
  refine J_istore_n (lv' := [(2, .int (iI E)), (0, .ref (ad 98)), (1, .int (iI (a : Int)))]) d_M_shortest_18 rfl (by decide) rfl ?_
  refine J_iconst d_M_shortest_19 ?_
  refine J_istore_n (lv' := [(3, .int (iI 1)), (2, .int (iI E)), (0, .ref (ad 98)), (1, .int (iI (a : Int)))]) d_M_shortest_20 rfl (by decide) rfl ?_
  refine J_pick (lv' := [(0, .ref (ad 98)), (1, .int (iI (a : Int))), (2, .int (iI E)), (3, .int (iI 1))]) [2, 3, 1, 0] rfl ?_
  refine J_eqF (F2 := va_up (va_up (va_up F 99 (.inl (g 0, 858, .inl (aI bh8)))) 100 (.inl (g 0, 33, .inl (aI bl8)))) 98 (oM ad f v)) (up_same1 (by rw [va_up_ne _ _ (by decide), va_up_ne _ _ (by decide)]; exact hO)) ?_
  refine J_eqF (F2 := va_up (va_up (va_up F 98 (oM ad f v)) 99 (.inl (g 0, 858, .inl (aI bh8)))) 100 (.inl (g 0, 33, .inl (aI bl8)))) (Eq.trans (up_cm (by decide)) (congrArg (fun qq : Nat → va_E => va_up qq 100 (.inl (g 0, 33, .inl (aI bl8)))) (up_cm (by decide)))) ?_
  refine J_eqF (F2 := va_up (va_up (va_up F 98 (oM ad (va_up f 8 (f 8)) v)) 99 (.inl (g 0, 858, .inl (aI bh8)))) 100 (.inl (g 0, 33, .inl (aI bl8)))) (congrArg (fun qq : Nat → Int => va_up (va_up (va_up F 98 (oM ad qq v)) 99 (.inl (g 0, 858, .inl (aI bh8)))) 100 (.inl (g 0, 33, .inl (aI bl8)))) (up_same1 (i := 8) (a := f 8) (rfl))) ?_
  have loop21 : ∀ (fuel : Nat) (m : Nat) (e1 : Nat → Int) (e2 : Nat → Int) (b8 : Int) (W1 : Nat → Nat) (hm1 : 1 ≤ m) (hm17 : m ≤ 17) (hsF : shG u d E (18 - m) m = shG u d E 17 1) (hRW : reg br e1 e2 W1) (hfW : ∀ k, k < 16 → W1 k = V k) (hW31 : W1 31 = X) (hW28 : W1 28 = Y) (hfu : 18 - m < fuel), J l rm_M_shortest (0, 0) "NumberTowerModel" b_M_shortest 8 (Option.some Jvm.ClassFile.FieldType.int) D jCl (jTys g) A (fun _ me => me.name = y_M_shortest.name) (ji ad N (fun z F' => z = shE u d ∧ (-60 ≤ z ∧ z ≤ 60) ∧ (0 < (shR u d).2 ∧ (shR u d).2 < 10 ^ 18) ∧ ∃ (hh' ll' dh' : Nat → Int) (W : Nat → Nat) (b : Int), reg br hh' ll' W ∧ (∀ k, k < 16 → W k = V k) ∧ (∀ k, k < ndm 10 1 (shR u d).2 → dh' k = ((dgv 10 (shR u d).2 k : Nat) : Int)) ∧ F' = va_up (va_up (va_up (va_up F 98 (oM ad (va_up (va_up f 8 b) 16 ((ndm 10 1 (shR u d).2 : Nat) : Int)) v)) 99 (aB g hh')) 100 (aL g ll')) 106 (.inl (g 0, 200, .inl (aI dh'))))) ad N 0 0 21 [(0, .ref (ad 98)), (1, .int (iI (a : Int))), (2, .int (iI E)), (3, .int (iI (m : Int)))] [] (va_up (va_up (va_up F 98 (oM ad (va_up f 8 b8) v)) 99 (.inl (g 0, 858, .inl (aI e1)))) 100 (.inl (g 0, 33, .inl (aI e2)))) := by
    intro fuel
    induction fuel with
    | zero => intro m e1 e2 b8 W1 hm1 hm17 hsF hRW hfW hW31 hW28 hfu; exact absurd hfu (Nat.not_lt_zero _)
    | succ fuel ih =>
      intro m e1 e2 b8 W1 hm1 hm17 hsF hRW hfW hW31 hW28 hfu
      refine J_iload_n 3 d_M_shortest_21 rfl rfl ?_
      refine J_bipush d_M_shortest_22 (i8_ok (by decide)) ?_
      refine J_if_icmpge (tgt := 200) d_M_shortest_24 (by decide) ⟨by omega, by omega⟩ ⟨by omega, by omega⟩ (fun c24 => ?_) (fun c24 => ?_)
      · exact absurd c24 (by omega)
      · obtain ⟨hG1, hG2, hG3⟩ := isX_m hd0 hEu hm1
        have hB0 : 0 < d * 10 ^ (-((m : Int) - 1 - E)).toNat := Nat.mul_pos hd0 (Nat.pow_pos (by decide))
        have hBx : 0 < Y * 10 ^ (-((m : Int) - 1 - E)).toNat := Nat.mul_pos hy0 (Nat.pow_pos (by decide))
        have hAB : X * 10 ^ ((m : Int) - 1 - E).toNat * (d * 10 ^ (-((m : Int) - 1 - E)).toNat) = u * 10 ^ ((m : Int) - 1 - E).toNat * (Y * 10 ^ (-((m : Int) - 1 - E)).toNat) := by
          have a1 : X * 10 ^ ((m : Int) - 1 - E).toNat * (d * 10 ^ (-((m : Int) - 1 - E)).toNat) = X * d * (10 ^ ((m : Int) - 1 - E).toNat * 10 ^ (-((m : Int) - 1 - E)).toNat) := by ac_rfl
          rw [a1, hr0]; ac_rfl
        have hdr := (div_ratio hBx hB0 hAB).1
        have hcr2 := cmp2_ratio hBx hB0 hAB
        have hAb := u168 (k := 100) hxb (p := ((m : Int) - 1 - E).toNat) (by omega)
        have hBb := u168 (k := 100) hyb (p := (-((m : Int) - 1 - E)).toNat) (by omega)
        obtain ⟨G, hG⟩ : ∃ G, G = u * 10 ^ ((m : Int) - 1 - E).toNat / (d * 10 ^ (-((m : Int) - 1 - E)).toNat) := ⟨_, rfl⟩
        have hGp : 0 < G := by rw [hG]; exact Nat.lt_of_lt_of_le (Nat.pow_pos (by decide)) hG1
        have hGb : G < 10 ^ 17 := by rw [hG]; exact Nat.lt_of_lt_of_le hG2 (Nat.pow_le_pow_right (by decide) (by omega))
        have hGd : X * 10 ^ ((m : Int) - 1 - E).toNat / (Y * 10 ^ (-((m : Int) - 1 - E)).toNat) = G := hdr.trans hG.symm
        clear hG1 hG2 hG3 hdr
        have hsa := fun x y => shN_a (u := u) (d := d) (m := m) (e := E) x y
        have hsb := fun x y => shN_b (u := u) (d := d) (m := m) (e := E) x y
        have hsn := fun x y => shN_n (u := u) (d := d) (m := m) (e := E) x y
        rw [← hG] at hsa hsb hsn
        have hlA : lnw 28 (X * 10 ^ ((m : Int) - 1 - E).toNat) ≤ 25 := (lnw_le (by decide)).mpr (Nat.lt_of_lt_of_le hAb (by decide))
        have hlB : lnw 28 (Y * 10 ^ (-((m : Int) - 1 - E)).toNat) ≤ 25 := (lnw_le (by decide)).mpr (Nat.lt_of_lt_of_le hBb (by decide))
        have hlr : lnw 28 (X * 10 ^ ((m : Int) - 1 - E).toNat % (Y * 10 ^ (-((m : Int) - 1 - E)).toNat)) ≤ 24 := (lnw_le (by decide)).mpr (Nat.lt_trans (Nat.mod_lt _ hBx) (Nat.lt_of_lt_of_le hBb (by decide)))
        refine J_aload_n 0 d_M_shortest_27 rfl rfl ?_
        refine J_iload_n 3 d_M_shortest_28 rfl rfl ?_
        refine J_iconst d_M_shortest_29 ?_
        refine J_isub d_M_shortest_30 ?_
        refine J_iload_n 2 d_M_shortest_31 rfl rfl ?_
        refine J_isub d_M_shortest_32 ?_
        refine J_callVv cw_M_288 nh_M_moved pn_M_moved rfl rfl (by omega) (by rw [va_up_ne _ _ (by decide), va_up_ne _ _ (by decide), va_up_self]) (As := [.int (iI (((m : Int) - 1) - E))]) (rest := []) rfl (Nat.le_of_ble_eq_true rfl) ⟨by decide, by decide⟩ rfl ⟨by decide, by decide⟩ d_M_shortest_33 (c_M_moved hfl (x := X) (y := Y) (n := ((m : Int) - 1) - E) (hh := e1) (ll := e2) (f := va_up f 8 b8) (v := v) (V := W1) (br := br) hN (by rw [va_up_ne _ _ (by decide), va_up_ne _ _ (by decide), va_up_self]) (by rw [va_up_ne _ _ (by decide), va_up_self]) (by rw [va_up_self]) hRW hzz (hW31) (hW28) hxb hyb ⟨by omega, by omega⟩) (fun  F3 hq => ?_)
        obtain ⟨bh4, bl5, hR6, eF3⟩ := hq
        refine J_eqF (F2 := va_up (va_up (va_up F 98 (oM ad (va_up f 8 b8) v)) 99 (.inl (g 0, 858, .inl (aI bh4)))) 100 (.inl (g 0, 33, .inl (aI bl5)))) (eF3.trans (Eq.trans (congrArg (fun q : Nat → va_E => va_up q 100 (.inl (g 0, 33, .inl (aI bl5)))) (up_in1 (by decide))) (up_in0))) ?_
        refine J_aload_n 0 d_M_shortest_36 rfl rfl ?_
        refine J_bipush d_M_shortest_37 (i8_ok (by decide)) ?_
        refine J_bipush d_M_shortest_39 (i8_ok (by decide)) ?_
        refine J_callVv cw_M_79 nh_M_divide pn_M_divide rfl rfl (by omega) (by rw [va_up_ne _ _ (by decide), va_up_ne _ _ (by decide), va_up_self]) (As := [.int (iI 22), .int (iI 23)]) (rest := []) rfl (Nat.le_of_ble_eq_true rfl) ⟨by decide, by decide⟩ rfl ⟨by decide, by decide⟩ d_M_shortest_41 (k_M_divide hfl (a := 22) (b := 23) (hh := bh4) (ll := bl5) (V := va_up (va_up W1 22 (X * 10 ^ (((m : Int) - 1) - E).toNat)) 23 (Y * 10 ^ (-(((m : Int) - 1) - E)).toNat)) (br := va_up (va_up br 22 0) 23 0) (hN := hN) (hO := (by rw [va_up_ne _ _ (by decide), va_up_ne _ _ (by decide), va_up_self])) (hB := (by rw [va_up_ne _ _ (by decide), va_up_self])) (hL := (by rw [va_up_self])) (hR := hR6) (ha := by omega) (hb := by omega) (hxa := ((va_up_ne _ _ (by decide)).trans (va_up_self ..))) (bra := ((va_up_ne _ _ (by decide)).trans (va_up_self ..))) (hxb := (va_up_self ..)) (brb := (va_up_self ..)) (hzz := (hzz_up (hzz_up hzz))) (ha2 := by omega) (hb2 := by omega) (hb0 := by omega) (hla2 := by omega) (hlb2 := by omega)) (fun  F4 hq => ?_)
        obtain ⟨bh7, bl8, j12, hR9, eF4⟩ := hq
        refine J_eqF (F2 := va_up (va_up (va_up F 98 (oM ad (va_up f 8 b8) v)) 99 (.inl (g 0, 858, .inl (aI bh7)))) 100 (.inl (g 0, 33, .inl (aI bl8)))) (eF4.trans (Eq.trans (congrArg (fun q : Nat → va_E => va_up q 100 (.inl (g 0, 33, .inl (aI bl8)))) (up_in1 (by decide))) (up_in0))) ?_
        have hR13 := (congrArg (fun qq : Nat => reg _ _ _ (va_up (va_up (va_up (va_up (va_up W1 22 (X * 10 ^ (((m : Int) - 1) - E).toNat)) 23 (Y * 10 ^ (-(((m : Int) - 1) - E)).toNat)) 26 j12) 25 ((X * 10 ^ (((m : Int) - 1) - E).toNat) % (Y * 10 ^ (-(((m : Int) - 1) - E)).toNat))) 24 qq)) (show ((X * 10 ^ (((m : Int) - 1) - E).toNat) / (Y * 10 ^ (-(((m : Int) - 1) - E)).toNat)) = (G) from hGd)).mp hR9
        refine J_aload_n 0 d_M_shortest_44 rfl rfl ?_
        refine J_bipush d_M_shortest_45 (i8_ok (by decide)) ?_
        refine J_bipush d_M_shortest_47 (i8_ok (by decide)) ?_
        refine J_callVv cw_M_58 nh_M_copy pn_M_copy rfl rfl (by omega) (by rw [va_up_ne _ _ (by decide), va_up_ne _ _ (by decide), va_up_self]) (As := [.int (iI 24), .int (iI 27)]) (rest := []) rfl (Nat.le_of_ble_eq_true rfl) ⟨by decide, by decide⟩ rfl ⟨by decide, by decide⟩ d_M_shortest_49 (k_M_copy hfl (a := 24) (b := 27) (hh := bh7) (ll := bl8) (V := va_up (va_up (va_up (va_up (va_up W1 22 (X * 10 ^ (((m : Int) - 1) - E).toNat)) 23 (Y * 10 ^ (-(((m : Int) - 1) - E)).toNat)) 26 j12) 25 ((X * 10 ^ (((m : Int) - 1) - E).toNat) % (Y * 10 ^ (-(((m : Int) - 1) - E)).toNat))) 24 G) (br := va_up (va_up br 22 0) 23 0) (hN := hN) (hO := (by rw [va_up_ne _ _ (by decide), va_up_ne _ _ (by decide), va_up_self])) (hB := (by rw [va_up_ne _ _ (by decide), va_up_self])) (hL := (by rw [va_up_self])) (hR := hR13) (ha := by omega) (hb := by omega) (hxa := (va_up_self ..)) (bra := ((va_up_ne _ _ (by decide)).trans ((va_up_ne _ _ (by decide)).trans (hzz.2 24 (by decide) (by decide)))))) (fun  F5 hq => ?_)
        obtain ⟨bh14, bl15, hR16, eF5⟩ := hq
        refine J_eqF (F2 := va_up (va_up (va_up F 98 (oM ad (va_up f 8 b8) v)) 99 (.inl (g 0, 858, .inl (aI bh14)))) 100 (.inl (g 0, 33, .inl (aI bl15)))) (eF5.trans (Eq.trans (congrArg (fun q : Nat → va_E => va_up q 100 (.inl (g 0, 33, .inl (aI bl15)))) (up_in1 (by decide))) (up_in0))) ?_
        have hR19 := reg_w1 ((hzz_up (hzz_up hzz)).1 _) hR16
        refine J_aload_n 0 d_M_shortest_52 rfl rfl ?_
        refine J_bipush d_M_shortest_53 (i8_ok (by decide)) ?_
        refine J_iconst d_M_shortest_55 ?_
        refine J_callVv cw_M_66 nh_M_up pn_M_up rfl rfl (by omega) (by rw [va_up_ne _ _ (by decide), va_up_ne _ _ (by decide), va_up_self]) (As := [.int (iI 25), .int (iI 1)]) (rest := []) rfl (Nat.le_of_ble_eq_true rfl) ⟨by decide, by decide⟩ rfl ⟨by decide, by decide⟩ d_M_shortest_56 (k_M_up hfl (a := 25) (n := 1) (hh := bh14) (ll := bl15) (V := va_up (va_up (va_up (va_up (va_up (va_up W1 22 (X * 10 ^ (((m : Int) - 1) - E).toNat)) 23 (Y * 10 ^ (-(((m : Int) - 1) - E)).toNat)) 26 j12) 25 ((X * 10 ^ (((m : Int) - 1) - E).toNat) % (Y * 10 ^ (-(((m : Int) - 1) - E)).toNat))) 24 G) 27 G) (br := va_up (va_up br 22 0) 23 0) (hN := hN) (hO := (by rw [va_up_ne _ _ (by decide), va_up_ne _ _ (by decide), va_up_self])) (hB := (by rw [va_up_ne _ _ (by decide), va_up_self])) (hL := (by rw [va_up_self])) (hR := hR19) (ha := by omega) (hxa := ((va_up_ne _ _ (by decide)).trans ((va_up_ne _ _ (by decide)).trans (va_up_self ..)))) (bra := ((va_up_ne _ _ (by decide)).trans ((va_up_ne _ _ (by decide)).trans (hzz.2 25 (by decide) (by decide))))) (hn := by omega) (hT := Or.inr (by omega))) (fun  F6 hq => ?_)
        obtain ⟨bh20, bl21, hR22, eF6⟩ := hq
        refine J_eqF (F2 := va_up (va_up (va_up F 98 (oM ad (va_up f 8 b8) v)) 99 (.inl (g 0, 858, .inl (aI bh20)))) 100 (.inl (g 0, 33, .inl (aI bl21)))) (eF6.trans (Eq.trans (congrArg (fun q : Nat → va_E => va_up q 100 (.inl (g 0, 33, .inl (aI bl21)))) (up_in1 (by decide))) (up_in0))) ?_
        have hR25 := reg_w1 ((hzz_up (hzz_up hzz)).1 _) hR22
        have hR26 := (congrArg (fun qq : Nat → Nat => reg _ _ _ (qq)) (up_in2 (by decide) (by decide))).mp hR25
        refine J_aload_n 0 d_M_shortest_59 rfl rfl ?_
        refine J_bipush d_M_shortest_60 (i8_ok (by decide)) ?_
        refine J_bipush d_M_shortest_62 (i8_ok (by decide)) ?_
        refine J_callVi cw_M_105 nh_M_order pn_M_order rfl rfl (by omega) (by rw [va_up_ne _ _ (by decide), va_up_ne _ _ (by decide), va_up_self]) (As := [.int (iI 25), .int (iI 23)]) (rest := []) rfl (Nat.le_of_ble_eq_true rfl) ⟨by decide, by decide⟩ rfl ⟨by decide, by decide⟩ d_M_shortest_64 (k_M_order hfl (a := 25) (b := 23) (hh := bh20) (ll := bl21) (V := va_up (va_up (va_up (va_up (va_up (va_up W1 22 (X * 10 ^ (((m : Int) - 1) - E).toNat)) 23 (Y * 10 ^ (-(((m : Int) - 1) - E)).toNat)) 26 j12) 25 (((X * 10 ^ (((m : Int) - 1) - E).toNat) % (Y * 10 ^ (-(((m : Int) - 1) - E)).toNat)) * 2 ^ 1)) 24 G) 27 G) (br := va_up (va_up br 22 0) 23 0) (hN := hN) (hO := (by rw [va_up_ne _ _ (by decide), va_up_ne _ _ (by decide), va_up_self])) (hB := (by rw [va_up_ne _ _ (by decide), va_up_self])) (hL := (by rw [va_up_self])) (hR := hR26) (ha := by omega) (hb := by omega) (hxa := ((va_up_ne _ _ (by decide)).trans ((va_up_ne _ _ (by decide)).trans (va_up_self ..)))) (bra := ((va_up_ne _ _ (by decide)).trans ((va_up_ne _ _ (by decide)).trans (hzz.2 25 (by decide) (by decide))))) (hxb := ((va_up_ne _ _ (by decide)).trans ((va_up_ne _ _ (by decide)).trans ((va_up_ne _ _ (by decide)).trans ((va_up_ne _ _ (by decide)).trans (va_up_self ..)))))) (brb := (va_up_self ..))) (fun z27 F7 hq => ?_)
        obtain ⟨hz27, eF7⟩ := hq
        refine J_eqF eF7 ?_
        refine J_topi (r := cmpN (((X * 10 ^ (((m : Int) - 1) - E).toNat) % (Y * 10 ^ (-(((m : Int) - 1) - E)).toNat)) * 2 ^ 1) (Y * 10 ^ (-(((m : Int) - 1) - E)).toNat)) (congrArg iI hz27) ?_
        obtain ⟨cc, hcc⟩ : ∃ cc, cmpN (X * 10 ^ ((m : Int) - 1 - E).toNat % (Y * 10 ^ (-((m : Int) - 1 - E)).toNat) * 2 ^ 1) (Y * 10 ^ (-((m : Int) - 1 - E)).toNat) = cc := ⟨_, rfl⟩
        have hc1 : cc < 0 ↔ u * 10 ^ ((m : Int) - 1 - E).toNat % (d * 10 ^ (-((m : Int) - 1 - E)).toNat) * 2 < d * 10 ^ (-((m : Int) - 1 - E)).toNat := by
          rw [← hcr2.1, ← hcc]
          have := cmpN_val (X * 10 ^ ((m : Int) - 1 - E).toNat % (Y * 10 ^ (-((m : Int) - 1 - E)).toNat) * 2 ^ 1) (Y * 10 ^ (-((m : Int) - 1 - E)).toNat)
          have h9 := cmpN_rng (X * 10 ^ ((m : Int) - 1 - E).toNat % (Y * 10 ^ (-((m : Int) - 1 - E)).toNat) * 2 ^ 1) (Y * 10 ^ (-((m : Int) - 1 - E)).toNat)
          omega
        have hc2 : cc = 0 ↔ u * 10 ^ ((m : Int) - 1 - E).toNat % (d * 10 ^ (-((m : Int) - 1 - E)).toNat) * 2 = d * 10 ^ (-((m : Int) - 1 - E)).toNat := by
          rw [← hcr2.2, ← hcc]
          have := cmpN_val (X * 10 ^ ((m : Int) - 1 - E).toNat % (Y * 10 ^ (-((m : Int) - 1 - E)).toNat) * 2 ^ 1) (Y * 10 ^ (-((m : Int) - 1 - E)).toNat)
          have h9 := cmpN_rng (X * 10 ^ ((m : Int) - 1 - E).toNat % (Y * 10 ^ (-((m : Int) - 1 - E)).toNat) * 2 ^ 1) (Y * 10 ^ (-((m : Int) - 1 - E)).toNat)
          omega
        have hcb : -1 ≤ cc ∧ cc ≤ 1 := by
          have h9 := cmpN_rng (X * 10 ^ ((m : Int) - 1 - E).toNat % (Y * 10 ^ (-((m : Int) - 1 - E)).toNat) * 2 ^ 1) (Y * 10 ^ (-((m : Int) - 1 - E)).toNat)
          rw [hcc] at h9
          omega
        replace hc1 : hold _ := hc1
        replace hc2 : hold _ := hc2
        refine J_topi (r := cc) (congrArg iI hcc) ?_
        refine J_istore (lv' := [(4, .int (iI cc)), (0, .ref (ad 98)), (1, .int (iI (a : Int))), (2, .int (iI E)), (3, .int (iI (m : Int)))]) d_M_shortest_67 (by decide) rfl ?_
        refine J_aload_n 1 d_M_shortest_69 rfl rfl ?_
        refine J_iload_n 2 d_M_shortest_70 rfl rfl ?_
        refine J_iload_n 3 d_M_shortest_71 rfl rfl ?_
        refine J_iconst d_M_shortest_72 ?_
        refine J_iadd d_M_shortest_73 ?_
        refine J_iload_n 4 d_M_shortest_74 rfl rfl ?_
        refine J_isub d_M_shortest_75 ?_
        refine J_callVi cw_M_291 nh_M_leads pn_M_leads rfl rfl (by omega) (by rw [va_up_ne _ _ (by decide), va_up_ne _ _ (by decide), va_up_self]) (As := [.int (iI (a : Int)), .int (iI ((E + 1) - (m : Int)))]) (rest := []) rfl (Nat.le_of_ble_eq_true rfl) ⟨by decide, by decide⟩ rfl ⟨by decide, by decide⟩ d_M_shortest_76 (c_M_leads hfl (a := a) (G := G) (u := u) (d := d) (m := m0) (n := (E + 1) - (m : Int)) (e0 := e0) (rr := rr) (hh := bh20) (ll := bl21) (f := va_up f 8 b8) (v := v) (V := va_up (va_up (va_up (va_up (va_up (va_up W1 22 (X * 10 ^ (((m : Int) - 1) - E).toNat)) 23 (Y * 10 ^ (-(((m : Int) - 1) - E)).toNat)) 26 j12) 25 (((X * 10 ^ (((m : Int) - 1) - E).toNat) % (Y * 10 ^ (-(((m : Int) - 1) - E)).toNat)) * 2 ^ 1)) 24 G) 27 G) (br := va_up (va_up br 22 0) 23 0) hN (by rw [va_up_ne _ _ (by decide), va_up_ne _ _ (by decide), va_up_self]) (by rw [va_up_ne _ _ (by decide), va_up_self]) (by rw [va_up_self]) hR26 (hzz_up (hzz_up hzz)) (by rw [va_up_ne _ _ (by decide), va_up_ne _ _ (by decide), va_up_ne _ _ (by decide)]; exact hRr) ha (by omega) (va_up_self ..) (by omega) (Nat.lt_of_lt_of_le (show G < 10 ^ 17 + 1 by omega) (by decide)) hrr hm0 he0 hlu hld) (fun zf F8 hq => ?_)
        obtain ⟨hzf, bh32, bl33, W29, b28, hR30, hfq31, eF8⟩ := hq
        refine J_eqF (F2 := va_up (va_up (va_up F 98 (oM ad (va_up f 8 b28) v)) 99 (.inl (g 0, 858, .inl (aI bh32)))) 100 (.inl (g 0, 33, .inl (aI bl33)))) ((eF8.trans (congrArg (fun qq : Nat → Int => va_up (va_up (va_up (va_up (va_up (va_up F 98 (oM ad (va_up f 8 b8) v)) 99 (.inl (g 0, 858, .inl (aI bh20)))) 100 (.inl (g 0, 33, .inl (aI bl21)))) 98 (oM ad qq v)) 99 (.inl (g 0, 858, .inl (aI bh32)))) 100 (.inl (g 0, 33, .inl (aI bl33)))) (up_in0))).trans (Eq.trans (Eq.trans (congrArg (fun q : Nat → va_E => va_up q 100 (.inl (g 0, 33, .inl (aI bl33)))) (congrArg (fun q : Nat → va_E => va_up q 99 (.inl (g 0, 858, .inl (aI bh32)))) (up_in2 (by decide) (by decide)))) (congrArg (fun q : Nat → va_E => va_up q 100 (.inl (g 0, 33, .inl (aI bl33)))) (up_in1 (by decide)))) (up_in0))) ?_
        have hzf01 : zf = 0 ∨ zf = 1 := by rcases hzf with w | w; exact Or.inr w.1; exact Or.inl w.1
        replace hzf : hold _ := hzf
        refine J_istore (lv' := [(5, .int (iI zf)), (4, .int (iI cc)), (0, .ref (ad 98)), (1, .int (iI (a : Int))), (2, .int (iI E)), (3, .int (iI (m : Int)))]) d_M_shortest_79 (by decide) rfl ?_
        refine J_aload_n 2 d_M_shortest_81 rfl rfl ?_
        refine J_bipush d_M_shortest_82 (i8_ok (by decide)) ?_
        refine J_bipush d_M_shortest_84 (i8_ok (by decide)) ?_
        refine J_callVv cw_M_58 nh_M_copy pn_M_copy rfl rfl (by omega) (by rw [va_up_ne _ _ (by decide), va_up_ne _ _ (by decide), va_up_self]) (As := [.int (iI 27), .int (iI 16)]) (rest := []) rfl (Nat.le_of_ble_eq_true rfl) ⟨by decide, by decide⟩ rfl ⟨by decide, by decide⟩ d_M_shortest_86 (k_M_copy hfl (a := 27) (b := 16) (hh := bh32) (ll := bl33) (V := W29) (br := va_up (va_up br 22 0) 23 0) (hN := hN) (hO := (by rw [va_up_ne _ _ (by decide), va_up_ne _ _ (by decide), va_up_self])) (hB := (by rw [va_up_ne _ _ (by decide), va_up_self])) (hL := (by rw [va_up_self])) (hR := hR30) (ha := by omega) (hb := by omega) (hxa := (((hfq31 _ (by omega) (by omega) (by omega))).trans (va_up_self ..))) (bra := ((va_up_ne _ _ (by decide)).trans ((va_up_ne _ _ (by decide)).trans (hzz.2 27 (by decide) (by decide)))))) (fun  F9 hq => ?_)
        obtain ⟨bh34, bl35, hR36, eF9⟩ := hq
        refine J_eqF (F2 := va_up (va_up (va_up F 98 (oM ad (va_up f 8 b28) v)) 99 (.inl (g 0, 858, .inl (aI bh34)))) 100 (.inl (g 0, 33, .inl (aI bl35)))) (eF9.trans (Eq.trans (congrArg (fun q : Nat → va_E => va_up q 100 (.inl (g 0, 33, .inl (aI bl35)))) (up_in1 (by decide))) (up_in0))) ?_
        have hR39 := reg_w1 ((hzz_up (hzz_up hzz)).1 _) hR36
        refine J_aload_n 2 d_M_shortest_89 rfl rfl ?_
        refine J_bipush d_M_shortest_90 (i8_ok (by decide)) ?_
        refine J_callVv cw_M_161 nh_M_grow1 pn_M_grow1 rfl rfl (by omega) (by rw [va_up_ne _ _ (by decide), va_up_ne _ _ (by decide), va_up_self]) (As := [.int (iI 27)]) (rest := []) rfl (Nat.le_of_ble_eq_true rfl) ⟨by decide, by decide⟩ rfl ⟨by decide, by decide⟩ d_M_shortest_92 (c_M_grow1 hfl (a := 27) (x := G) (hh := bh34) (ll := bl35) (f := va_up f 8 b28) (v := v) (V := va_up W29 16 G) (br := va_up (va_up br 22 0) 23 0) hN (by rw [va_up_ne _ _ (by decide), va_up_ne _ _ (by decide), va_up_self]) (by rw [va_up_ne _ _ (by decide), va_up_self]) (by rw [va_up_self]) hR39 (hzz_up (hzz_up hzz)) (by omega) ((va_up_ne _ _ (by decide)).trans ((va_up_ne _ _ (by decide)).trans (hzz.2 27 (by decide) (by decide)))) (((va_up_ne _ _ (by decide)).trans (((hfq31 _ (by omega) (by omega) (by omega))).trans (va_up_self ..)))) (by rw [lnw_le (by decide)]; exact Nat.lt_trans hGb (by decide))) (fun  F10 hq => ?_)
        obtain ⟨bh40, bl41, hR42, eF10⟩ := hq
        refine J_eqF (F2 := va_up (va_up (va_up F 98 (oM ad (va_up f 8 b28) v)) 99 (.inl (g 0, 858, .inl (aI bh40)))) 100 (.inl (g 0, 33, .inl (aI bl41)))) (eF10.trans (Eq.trans (congrArg (fun q : Nat → va_E => va_up q 100 (.inl (g 0, 33, .inl (aI bl41)))) (up_in1 (by decide))) (up_in0))) ?_
        refine J_aload_n 2 d_M_shortest_95 rfl rfl ?_
        refine J_iload_n 3 d_M_shortest_96 rfl rfl ?_
        refine J_iload_n 4 d_M_shortest_97 rfl rfl ?_
        refine J_iconst d_M_shortest_98 ?_
        refine J_iadd d_M_shortest_99 ?_
        refine J_iload_n 5 d_M_shortest_100 rfl rfl ?_
        refine J_isub d_M_shortest_101 ?_
        refine J_callVi cw_M_291 nh_M_leads pn_M_leads rfl rfl (by omega) (by rw [va_up_ne _ _ (by decide), va_up_ne _ _ (by decide), va_up_self]) (As := [.int (iI (a : Int)), .int (iI ((E + 1) - (m : Int)))]) (rest := []) rfl (Nat.le_of_ble_eq_true rfl) ⟨by decide, by decide⟩ rfl ⟨by decide, by decide⟩ d_M_shortest_102 (c_M_leads hfl (a := a) (G := G + 1) (u := u) (d := d) (m := m0) (n := (E + 1) - (m : Int)) (e0 := e0) (rr := rr) (hh := bh40) (ll := bl41) (f := va_up f 8 b28) (v := v) (V := va_up (va_up (va_up W29 16 G) 32 1) 27 (G + 1)) (br := va_up (va_up br 22 0) 23 0) hN (by rw [va_up_ne _ _ (by decide), va_up_ne _ _ (by decide), va_up_self]) (by rw [va_up_ne _ _ (by decide), va_up_self]) (by rw [va_up_self]) hR42 (hzz_up (hzz_up hzz)) (by rw [va_up_ne _ _ (by decide), va_up_ne _ _ (by decide), va_up_ne _ _ (by decide)]; exact hRr) ha (by omega) (va_up_self ..) (by omega) (Nat.lt_of_lt_of_le (show G + 1 < 10 ^ 17 + 1 by omega) (by decide)) hrr hm0 he0 hlu hld) (fun zs F11 hq => ?_)
        obtain ⟨hzs, bh47, bl48, W44, b43, hR45, hfq46, eF11⟩ := hq
        refine J_eqF (F2 := va_up (va_up (va_up F 98 (oM ad (va_up f 8 b43) v)) 99 (.inl (g 0, 858, .inl (aI bh47)))) 100 (.inl (g 0, 33, .inl (aI bl48)))) ((eF11.trans (congrArg (fun qq : Nat → Int => va_up (va_up (va_up (va_up (va_up (va_up F 98 (oM ad (va_up f 8 b28) v)) 99 (.inl (g 0, 858, .inl (aI bh40)))) 100 (.inl (g 0, 33, .inl (aI bl41)))) 98 (oM ad qq v)) 99 (.inl (g 0, 858, .inl (aI bh47)))) 100 (.inl (g 0, 33, .inl (aI bl48)))) (up_in0))).trans (Eq.trans (Eq.trans (congrArg (fun q : Nat → va_E => va_up q 100 (.inl (g 0, 33, .inl (aI bl48)))) (congrArg (fun q : Nat → va_E => va_up q 99 (.inl (g 0, 858, .inl (aI bh47)))) (up_in2 (by decide) (by decide)))) (congrArg (fun q : Nat → va_E => va_up q 100 (.inl (g 0, 33, .inl (aI bl48)))) (up_in1 (by decide)))) (up_in0))) ?_
        have hzs01 : zs = 0 ∨ zs = 1 := by rcases hzs with w | w; exact Or.inr w.1; exact Or.inl w.1
        replace hzs : hold _ := hzs
        refine J_istore (lv' := [(6, .int (iI zs)), (5, .int (iI zf)), (4, .int (iI cc)), (0, .ref (ad 98)), (1, .int (iI (a : Int))), (2, .int (iI E)), (3, .int (iI (m : Int)))]) d_M_shortest_105 (by decide) rfl ?_
        refine J_aload_n 3 d_M_shortest_107 rfl rfl ?_
        refine J_bipush d_M_shortest_108 (i8_ok (by decide)) ?_
        refine J_iconst d_M_shortest_110 ?_
        refine J_callVi cw_M_45 nh_M_limb pn_M_limb rfl rfl (by omega) (by rw [va_up_ne _ _ (by decide), va_up_ne _ _ (by decide), va_up_self]) (As := [.int (iI 16), .int (iI 0)]) (rest := []) rfl (Nat.le_of_ble_eq_true rfl) ⟨by decide, by decide⟩ rfl ⟨by decide, by decide⟩ d_M_shortest_111 (k_M_limb hfl (a := 16) (k := 0) (hh := bh47) (ll := bl48) (V := W44) (br := va_up (va_up br 22 0) 23 0) (hN := hN) (hO := (by rw [va_up_ne _ _ (by decide), va_up_ne _ _ (by decide), va_up_self])) (hB := (by rw [va_up_ne _ _ (by decide), va_up_self])) (hL := (by rw [va_up_self])) (hR := hR45) (ha := by omega) (hxa := (((hfq46 _ (by omega) (by omega) (by omega))).trans ((va_up_ne _ _ (by decide)).trans ((va_up_ne _ _ (by decide)).trans (va_up_self ..))))) (bra := ((va_up_ne _ _ (by decide)).trans ((va_up_ne _ _ (by decide)).trans (hzz.2 16 (by decide) (by decide))))) (hk := by omega)) (fun z49 F12 hq => ?_)
        obtain ⟨hz49, eF12⟩ := hq
        refine J_eqF eF12 ?_
        refine J_topi (r := dg8 G 0) (congrArg iI hz49) ?_
        refine J_topi (r := (((G % 268435456 : Nat)) : Int)) (congrArg iI (by show ((dgt 28 G 0 : Nat) : Int) = _; rw [dgt_008])) ?_
        refine J_iconst d_M_shortest_114 ?_
        refine J_iand (r := (((G % 268435456) % 2 : Nat) : Int)) d_M_shortest_115 (iI_andn 1 (by decide)) ?_
        refine J_ifne (tgt := 123) d_M_shortest_116 (by decide) ⟨by omega, by omega⟩ (fun c116 => ?_) (fun c116 => ?_)
        · refine J_iconst d_M_shortest_123 ?_
          refine J_istore (lv' := [(7, .int (iI 0)), (6, .int (iI zs)), (5, .int (iI zf)), (4, .int (iI cc)), (0, .ref (ad 98)), (1, .int (iI (a : Int))), (2, .int (iI E)), (3, .int (iI (m : Int)))]) d_M_shortest_124 (by decide) rfl ?_
          have lab159 : ∀ (h9 : Nat) (e1 : Nat → Int) (e2 : Nat → Int) (b8 : Int) (W2 : Nat → Nat) (hsh : (zf = 1 ∨ zs = 1) → shN u d E m = some h9) (h9b : 0 < h9 ∧ h9 < 10 ^ 18) (hRX : reg br e1 e2 W2) (hfX : ∀ k, k < 16 → W2 k = V k) (hX31 : W2 31 = X) (hX28 : W2 28 = Y) (hX27 : W2 27 = h9) , J l rm_M_shortest (0, 0) "NumberTowerModel" b_M_shortest 8 (Option.some Jvm.ClassFile.FieldType.int) D jCl (jTys g) A (fun _ me => me.name = y_M_shortest.name) (ji ad N (fun z F' => z = shE u d ∧ (-60 ≤ z ∧ z ≤ 60) ∧ (0 < (shR u d).2 ∧ (shR u d).2 < 10 ^ 18) ∧ ∃ (hh' ll' dh' : Nat → Int) (W : Nat → Nat) (b : Int), reg br hh' ll' W ∧ (∀ k, k < 16 → W k = V k) ∧ (∀ k, k < ndm 10 1 (shR u d).2 → dh' k = ((dgv 10 (shR u d).2 k : Nat) : Int)) ∧ F' = va_up (va_up (va_up (va_up F 98 (oM ad (va_up (va_up f 8 b) 16 ((ndm 10 1 (shR u d).2 : Nat) : Int)) v)) 99 (aB g hh')) 100 (aL g ll')) 106 (.inl (g 0, 200, .inl (aI dh'))))) ad N 0 0 159 [(0, .ref (ad 98)), (1, .int (iI (a : Int))), (2, .int (iI E)), (3, .int (iI (m : Int))), (5, .int (iI zf)), (6, .int (iI zs))] [] (va_up (va_up (va_up F 98 (oM ad (va_up f 8 b8) v)) 99 (.inl (g 0, 858, .inl (aI e1)))) 100 (.inl (g 0, 33, .inl (aI e2)))) := by
            intro h9 e1 e2 b8 W2 hsh h9b hRX hfX hX31 hX28 hX27
            replace hsh : hold _ := hsh
            refine J_iload 4 d_M_shortest_159 rfl ?_
            refine J_ifne (tgt := 169) d_M_shortest_161 (by decide) ⟨by omega, by omega⟩ (fun c161 => ?_) (fun c161 => ?_)
            · have hnm : ndm 10 1 h9 = ndg 10 h9 := ndm_pos (by decide) h9b.1
              have hnd : ndg 10 h9 ≤ 18 := (ndg_le (by decide)).mpr h9b.2
              have hs9 : shN u d E m = some h9 := (show (zf = 1 ∨ zs = 1) → _ from hsh) (by omega)
              have hsr : shR u d = (m, h9) := by unfold shR; rw [hEe, ← hsF, show 18 - m = 17 - m + 1 by omega]; exact shF_s hs9
              refine J_aload_n 0 d_M_shortest_169 rfl rfl ?_
              refine J_bipush d_M_shortest_170 (i8_ok (by decide)) ?_
              refine J_bipush d_M_shortest_172 (i8_ok (by decide)) ?_
              refine J_iconst d_M_shortest_174 ?_
              refine J_callVv cw_M_294 nh_M_spell pn_M_spell rfl rfl (by omega) (by rw [va_up_ne _ _ (by decide), va_up_ne _ _ (by decide), va_up_self]) (As := [.int (iI 27), .int (iI 10), .int (iI 1)]) (rest := []) rfl (Nat.le_of_ble_eq_true rfl) ⟨by decide, by decide⟩ rfl ⟨by decide, by decide⟩ d_M_shortest_175 (c_M_spell hfl (dh := dh) (a := 27) (b := 10) (lst := 1) (x := h9) (hh := e1) (ll := e2) (f := va_up f 8 b8) (v := v) (V := W2) (br := br) hN (by rw [va_up_ne _ _ (by decide), va_up_ne _ _ (by decide), va_up_self]) (by rw [va_up_ne _ _ (by decide), va_up_self]) (by rw [va_up_self]) hRX hzz (by rw [va_up_ne _ _ (by decide), va_up_ne _ _ (by decide), va_up_ne _ _ (by decide)]; exact h106) (by omega) (by decide) (hzz.2 27 (by decide) (by decide)) (hX27) (by decide) (ndg_18 h9b.2)) (fun  F13 hq => ?_)
              obtain ⟨bh51, bl52, dh50, hR53, hdddh50, eF13⟩ := hq
              refine J_eqF (F2 := va_up (va_up (va_up (va_up F 98 (oM ad (va_up (va_up f 8 b8) 16 ((ndm 10 1 h9 : Nat) : Int)) v)) 99 (.inl (g 0, 858, .inl (aI bh51)))) 100 (.inl (g 0, 33, .inl (aI bl52)))) 106 (.inl (g 0, 200, .inl (aI dh50)))) (eF13.trans (Eq.trans (Eq.trans (congrArg (fun q : Nat → va_E => va_up q 106 (.inl (g 0, 200, .inl (aI dh50)))) (congrArg (fun q : Nat → va_E => va_up q 100 (.inl (g 0, 33, .inl (aI bl52)))) (congrArg (fun q : Nat → va_E => va_up q 99 (.inl (g 0, 858, .inl (aI bh51)))) (up_in2 (by decide) (by decide))))) (congrArg (fun q : Nat → va_E => va_up q 106 (.inl (g 0, 200, .inl (aI dh50)))) (congrArg (fun q : Nat → va_E => va_up q 100 (.inl (g 0, 33, .inl (aI bl52)))) (up_in1 (by decide))))) (congrArg (fun q : Nat → va_E => va_up q 106 (.inl (g 0, 200, .inl (aI dh50)))) (up_in0)))) ?_
              refine J_aload_n 0 d_M_shortest_178 rfl rfl ?_
              refine gf_M_268 (by omega) (by rw [va_up_ne _ _ (by decide), va_up_ne _ _ (by decide), va_up_ne _ _ (by decide), va_up_self]) rfl d_M_shortest_179 ?_
              refine J_topi (r := ((ndm 10 1 h9 : Nat) : Int)) (congrArg iI (va_up_self ..)) ?_
              have lab193 : ∀ (ze : Int) (hze : ze = if m < ndg 10 h9 then E + 1 else E) , J l rm_M_shortest (0, 0) "NumberTowerModel" b_M_shortest 8 (Option.some Jvm.ClassFile.FieldType.int) D jCl (jTys g) A (fun _ me => me.name = y_M_shortest.name) (ji ad N (fun z F' => z = shE u d ∧ (-60 ≤ z ∧ z ≤ 60) ∧ (0 < (shR u d).2 ∧ (shR u d).2 < 10 ^ 18) ∧ ∃ (hh' ll' dh' : Nat → Int) (W : Nat → Nat) (b : Int), reg br hh' ll' W ∧ (∀ k, k < 16 → W k = V k) ∧ (∀ k, k < ndm 10 1 (shR u d).2 → dh' k = ((dgv 10 (shR u d).2 k : Nat) : Int)) ∧ F' = va_up (va_up (va_up (va_up F 98 (oM ad (va_up (va_up f 8 b) 16 ((ndm 10 1 (shR u d).2 : Nat) : Int)) v)) 99 (aB g hh')) 100 (aL g ll')) 106 (.inl (g 0, 200, .inl (aI dh'))))) ad N 0 0 193 [(0, .ref (ad 98))] [.int (iI ze)] (va_up (va_up (va_up (va_up F 98 (oM ad (va_up (va_up f 8 b8) 16 ((ndm 10 1 h9 : Nat) : Int)) v)) 99 (.inl (g 0, 858, .inl (aI bh51)))) 100 (.inl (g 0, 33, .inl (aI bl52)))) 106 (.inl (g 0, 200, .inl (aI dh50)))) := by
                intro ze hze
                refine J_iret rfl rfl d_M_shortest_193 ⟨by decide, by decide⟩ ?_
                exact ⟨_, rfl, rfl, rfl, by unfold shE; rw [hsr, hEe]; exact hze, (by rw [hze]; split <;> omega), (by rw [hsr]; exact h9b), _, _, _, _, b8, hR53, (fun k hk => ((show (va_up W2 29 0) k = W2 k from by rw [va_up_ne _ _ (by omega)]).trans ((hfX k hk).trans (show (V) k = V k from by rfl)))), by rw [hsr]; exact hdddh50, by rw [hsr]⟩
              refine J_iload_n 3 d_M_shortest_182 rfl rfl ?_
              refine J_if_icmple (tgt := 192) d_M_shortest_183 (by decide) ⟨by omega, by omega⟩ ⟨by omega, by omega⟩ (fun c183 => ?_) (fun c183 => ?_)
              · refine J_iload_n 2 d_M_shortest_192 rfl rfl ?_
                refine J_pick (lv' := [(0, .ref (ad 98))]) [0] rfl ?_
                exact lab193 (E) (by rw [if_neg (by omega)])
              · refine J_iload_n 2 d_M_shortest_186 rfl rfl ?_
                refine J_iconst d_M_shortest_187 ?_
                refine J_iadd d_M_shortest_188 ?_
                refine J_goto (tgt := 193) d_M_shortest_189 (by decide) ?_
                refine J_pick (lv' := [(0, .ref (ad 98))]) [0] rfl ?_
                exact lab193 (E + 1) (by rw [if_pos (by omega)])
            · refine J_iload 5 d_M_shortest_164 rfl ?_
              refine J_ifeq (tgt := 194) d_M_shortest_166 (by decide) ⟨by omega, by omega⟩ (fun c166 => ?_) (fun c166 => ?_)
              · have hzf : (zf = 1 ∧ lead u d (E + 1 - (m : Int)) G) ∨ (zf = 0 ∧ ¬ lead u d (E + 1 - (m : Int)) G) := hzf
                have hzs : (zs = 1 ∧ lead u d (E + 1 - (m : Int)) (G + 1)) ∨ (zs = 0 ∧ ¬ lead u d (E + 1 - (m : Int)) (G + 1)) := hzs
                have hnone : shN u d E m = none := hsn (by rcases hzf with w | w; omega; exact w.2) (by rcases hzs with w | w; omega; exact w.2)
                have hm16 : m ≠ 17 := fun w => h17 (w ▸ hnone)
                refine J_iinc (j := 3) (b := (m : Int) + 1) (lv' := [(3, .int (iI ((m : Int) + 1))), (0, .ref (ad 98)), (1, .int (iI (a : Int))), (2, .int (iI E)), (5, .int (iI zf)), (6, .int (iI zs))]) d_M_shortest_194 rfl (by omega) (by decide) rfl ?_
                refine J_goto (tgt := 21) d_M_shortest_197 (by decide) ?_
                refine J_pick (lv' := [(0, .ref (ad 98)), (1, .int (iI (a : Int))), (2, .int (iI E)), (3, .int (iI ((m : Int) + 1)))]) [1, 2, 3, 0] rfl ?_
                exact ih (m + 1) e1 e2 b8 W2 (by omega) (by omega) (by rw [← hsF, show 18 - m = 17 - m + 1 by omega, shF_n hnone, show 18 - (m + 1) = 17 - m by omega]) hRX (fun k hk => ((show (W2) k = W2 k from by rfl).trans ((hfX k hk).trans (show (V) k = V k from by rfl)))) (hX31) (hX28) (by omega)
              · have hnm : ndm 10 1 h9 = ndg 10 h9 := ndm_pos (by decide) h9b.1
                have hnd : ndg 10 h9 ≤ 18 := (ndg_le (by decide)).mpr h9b.2
                have hs9 : shN u d E m = some h9 := (show (zf = 1 ∨ zs = 1) → _ from hsh) (by omega)
                have hsr : shR u d = (m, h9) := by unfold shR; rw [hEe, ← hsF, show 18 - m = 17 - m + 1 by omega]; exact shF_s hs9
                refine J_aload_n 0 d_M_shortest_169 rfl rfl ?_
                refine J_bipush d_M_shortest_170 (i8_ok (by decide)) ?_
                refine J_bipush d_M_shortest_172 (i8_ok (by decide)) ?_
                refine J_iconst d_M_shortest_174 ?_
                refine J_callVv cw_M_294 nh_M_spell pn_M_spell rfl rfl (by omega) (by rw [va_up_ne _ _ (by decide), va_up_ne _ _ (by decide), va_up_self]) (As := [.int (iI 27), .int (iI 10), .int (iI 1)]) (rest := []) rfl (Nat.le_of_ble_eq_true rfl) ⟨by decide, by decide⟩ rfl ⟨by decide, by decide⟩ d_M_shortest_175 (c_M_spell hfl (dh := dh) (a := 27) (b := 10) (lst := 1) (x := h9) (hh := e1) (ll := e2) (f := va_up f 8 b8) (v := v) (V := W2) (br := br) hN (by rw [va_up_ne _ _ (by decide), va_up_ne _ _ (by decide), va_up_self]) (by rw [va_up_ne _ _ (by decide), va_up_self]) (by rw [va_up_self]) hRX hzz (by rw [va_up_ne _ _ (by decide), va_up_ne _ _ (by decide), va_up_ne _ _ (by decide)]; exact h106) (by omega) (by decide) (hzz.2 27 (by decide) (by decide)) (hX27) (by decide) (ndg_18 h9b.2)) (fun  F14 hq => ?_)
                obtain ⟨bh55, bl56, dh54, hR57, hdddh54, eF14⟩ := hq
                refine J_eqF (F2 := va_up (va_up (va_up (va_up F 98 (oM ad (va_up (va_up f 8 b8) 16 ((ndm 10 1 h9 : Nat) : Int)) v)) 99 (.inl (g 0, 858, .inl (aI bh55)))) 100 (.inl (g 0, 33, .inl (aI bl56)))) 106 (.inl (g 0, 200, .inl (aI dh54)))) (eF14.trans (Eq.trans (Eq.trans (congrArg (fun q : Nat → va_E => va_up q 106 (.inl (g 0, 200, .inl (aI dh54)))) (congrArg (fun q : Nat → va_E => va_up q 100 (.inl (g 0, 33, .inl (aI bl56)))) (congrArg (fun q : Nat → va_E => va_up q 99 (.inl (g 0, 858, .inl (aI bh55)))) (up_in2 (by decide) (by decide))))) (congrArg (fun q : Nat → va_E => va_up q 106 (.inl (g 0, 200, .inl (aI dh54)))) (congrArg (fun q : Nat → va_E => va_up q 100 (.inl (g 0, 33, .inl (aI bl56)))) (up_in1 (by decide))))) (congrArg (fun q : Nat → va_E => va_up q 106 (.inl (g 0, 200, .inl (aI dh54)))) (up_in0)))) ?_
                refine J_aload_n 0 d_M_shortest_178 rfl rfl ?_
                refine gf_M_268 (by omega) (by rw [va_up_ne _ _ (by decide), va_up_ne _ _ (by decide), va_up_ne _ _ (by decide), va_up_self]) rfl d_M_shortest_179 ?_
                refine J_topi (r := ((ndm 10 1 h9 : Nat) : Int)) (congrArg iI (va_up_self ..)) ?_
                have lab193 : ∀ (ze : Int) (hze : ze = if m < ndg 10 h9 then E + 1 else E) , J l rm_M_shortest (0, 0) "NumberTowerModel" b_M_shortest 8 (Option.some Jvm.ClassFile.FieldType.int) D jCl (jTys g) A (fun _ me => me.name = y_M_shortest.name) (ji ad N (fun z F' => z = shE u d ∧ (-60 ≤ z ∧ z ≤ 60) ∧ (0 < (shR u d).2 ∧ (shR u d).2 < 10 ^ 18) ∧ ∃ (hh' ll' dh' : Nat → Int) (W : Nat → Nat) (b : Int), reg br hh' ll' W ∧ (∀ k, k < 16 → W k = V k) ∧ (∀ k, k < ndm 10 1 (shR u d).2 → dh' k = ((dgv 10 (shR u d).2 k : Nat) : Int)) ∧ F' = va_up (va_up (va_up (va_up F 98 (oM ad (va_up (va_up f 8 b) 16 ((ndm 10 1 (shR u d).2 : Nat) : Int)) v)) 99 (aB g hh')) 100 (aL g ll')) 106 (.inl (g 0, 200, .inl (aI dh'))))) ad N 0 0 193 [(0, .ref (ad 98))] [.int (iI ze)] (va_up (va_up (va_up (va_up F 98 (oM ad (va_up (va_up f 8 b8) 16 ((ndm 10 1 h9 : Nat) : Int)) v)) 99 (.inl (g 0, 858, .inl (aI bh55)))) 100 (.inl (g 0, 33, .inl (aI bl56)))) 106 (.inl (g 0, 200, .inl (aI dh54)))) := by
                  intro ze hze
                  refine J_iret rfl rfl d_M_shortest_193 ⟨by decide, by decide⟩ ?_
                  exact ⟨_, rfl, rfl, rfl, by unfold shE; rw [hsr, hEe]; exact hze, (by rw [hze]; split <;> omega), (by rw [hsr]; exact h9b), _, _, _, _, b8, hR57, (fun k hk => ((show (va_up W2 29 0) k = W2 k from by rw [va_up_ne _ _ (by omega)]).trans ((hfX k hk).trans (show (V) k = V k from by rfl)))), by rw [hsr]; exact hdddh54, by rw [hsr]⟩
                refine J_iload_n 3 d_M_shortest_182 rfl rfl ?_
                refine J_if_icmple (tgt := 192) d_M_shortest_183 (by decide) ⟨by omega, by omega⟩ ⟨by omega, by omega⟩ (fun c183 => ?_) (fun c183 => ?_)
                · refine J_iload_n 2 d_M_shortest_192 rfl rfl ?_
                  refine J_pick (lv' := [(0, .ref (ad 98))]) [0] rfl ?_
                  exact lab193 (E) (by rw [if_neg (by omega)])
                · refine J_iload_n 2 d_M_shortest_186 rfl rfl ?_
                  refine J_iconst d_M_shortest_187 ?_
                  refine J_iadd d_M_shortest_188 ?_
                  refine J_goto (tgt := 193) d_M_shortest_189 (by decide) ?_
                  refine J_pick (lv' := [(0, .ref (ad 98))]) [0] rfl ?_
                  exact lab193 (E + 1) (by rw [if_pos (by omega)])
          refine J_iload 2 d_M_shortest_126 rfl ?_
          refine J_ifeq (tgt := 159) d_M_shortest_128 (by decide) ⟨by omega, by omega⟩ (fun c128 => ?_) (fun c128 => ?_)
          · refine J_pick (lv' := [(0, .ref (ad 98)), (1, .int (iI (a : Int))), (2, .int (iI E)), (3, .int (iI (m : Int))), (5, .int (iI zf)), (6, .int (iI zs))]) [4, 5, 6, 7, 2, 1] rfl ?_
            have hR58 := (reg_w1 (hzz.1 _) (reg_w1 ((hzz_up hzz).1 _) hR45))
            refine lab159 (G + 1) bh47 bl48 b43 W44 ?_ (by omega) hR58 (fun k hk => ((show (W44) k = W44 k from by rfl).trans ((hfq46 k (by omega) (by omega) (by omega)).trans ((show (va_up (va_up (va_up W29 16 G) 32 1) 27 (G + 1)) k = W29 k from by rw [va_up_ne _ _ (by omega), va_up_ne _ _ (by omega), va_up_ne _ _ (by omega)]).trans ((hfq31 k (by omega) (by omega) (by omega)).trans ((show (va_up (va_up (va_up (va_up (va_up (va_up W1 22 (X * 10 ^ (((m : Int) - 1) - E).toNat)) 23 (Y * 10 ^ (-(((m : Int) - 1) - E)).toNat)) 26 j12) 25 (((X * 10 ^ (((m : Int) - 1) - E).toNat) % (Y * 10 ^ (-(((m : Int) - 1) - E)).toNat)) * 2 ^ 1)) 24 G) 27 G) k = W1 k from by rw [va_up_ne _ _ (by omega), va_up_ne _ _ (by omega), va_up_ne _ _ (by omega), va_up_ne _ _ (by omega), va_up_ne _ _ (by omega), va_up_ne _ _ (by omega)]).trans ((hfW k hk).trans (show (V) k = V k from by rfl)))))))) ((((hfq46 _ (by omega) (by omega) (by omega))).trans ((va_up_ne _ _ (by decide)).trans ((va_up_ne _ _ (by decide)).trans ((va_up_ne _ _ (by decide)).trans (((hfq31 _ (by omega) (by omega) (by omega))).trans ((va_up_ne _ _ (by decide)).trans ((va_up_ne _ _ (by decide)).trans ((va_up_ne _ _ (by decide)).trans ((va_up_ne _ _ (by decide)).trans ((va_up_ne _ _ (by decide)).trans ((va_up_ne _ _ (by decide)).trans hW31)))))))))))) ((((hfq46 _ (by omega) (by omega) (by omega))).trans ((va_up_ne _ _ (by decide)).trans ((va_up_ne _ _ (by decide)).trans ((va_up_ne _ _ (by decide)).trans (((hfq31 _ (by omega) (by omega) (by omega))).trans ((va_up_ne _ _ (by decide)).trans ((va_up_ne _ _ (by decide)).trans ((va_up_ne _ _ (by decide)).trans ((va_up_ne _ _ (by decide)).trans ((va_up_ne _ _ (by decide)).trans ((va_up_ne _ _ (by decide)).trans hW28)))))))))))) ((((hfq46 _ (by omega) (by omega) (by omega))).trans (va_up_self ..)))
            · have hzf : (zf = 1 ∧ lead u d (E + 1 - (m : Int)) G) ∨ (zf = 0 ∧ ¬ lead u d (E + 1 - (m : Int)) G) := hzf
              have hzs : (zs = 1 ∧ lead u d (E + 1 - (m : Int)) (G + 1)) ∨ (zs = 0 ∧ ¬ lead u d (E + 1 - (m : Int)) (G + 1)) := hzs
              have hc1 : cc < 0 ↔ u * 10 ^ ((m : Int) - 1 - E).toNat % (d * 10 ^ (-((m : Int) - 1 - E)).toNat) * 2 < d * 10 ^ (-((m : Int) - 1 - E)).toNat := hc1
              have hc2 : cc = 0 ↔ u * 10 ^ ((m : Int) - 1 - E).toNat % (d * 10 ^ (-((m : Int) - 1 - E)).toNat) * 2 = d * 10 ^ (-((m : Int) - 1 - E)).toNat := hc2
              intro hor
              exact hsb (by rcases hzs with w | w; exact w.2; omega) (fun w => absurd w.1 (by rcases hzf with w | w; omega; exact w.2))
          · refine J_iload 1 d_M_shortest_131 rfl ?_
            refine J_ifeq (tgt := 151) d_M_shortest_133 (by decide) ⟨by omega, by omega⟩ (fun c133 => ?_) (fun c133 => ?_)
            · refine J_aload_n 4 d_M_shortest_151 rfl rfl ?_
              refine J_bipush d_M_shortest_152 (i8_ok (by decide)) ?_
              refine J_bipush d_M_shortest_154 (i8_ok (by decide)) ?_
              refine J_callVv cw_M_58 nh_M_copy pn_M_copy rfl rfl (by omega) (by rw [va_up_ne _ _ (by decide), va_up_ne _ _ (by decide), va_up_self]) (As := [.int (iI 16), .int (iI 27)]) (rest := []) rfl (Nat.le_of_ble_eq_true rfl) ⟨by decide, by decide⟩ rfl ⟨by decide, by decide⟩ d_M_shortest_156 (k_M_copy hfl (a := 16) (b := 27) (hh := bh47) (ll := bl48) (V := W44) (br := va_up (va_up br 22 0) 23 0) (hN := hN) (hO := (by rw [va_up_ne _ _ (by decide), va_up_ne _ _ (by decide), va_up_self])) (hB := (by rw [va_up_ne _ _ (by decide), va_up_self])) (hL := (by rw [va_up_self])) (hR := hR45) (ha := by omega) (hb := by omega) (hxa := (((hfq46 _ (by omega) (by omega) (by omega))).trans ((va_up_ne _ _ (by decide)).trans ((va_up_ne _ _ (by decide)).trans (va_up_self ..))))) (bra := ((va_up_ne _ _ (by decide)).trans ((va_up_ne _ _ (by decide)).trans (hzz.2 16 (by decide) (by decide)))))) (fun  F15 hq => ?_)
              obtain ⟨bh59, bl60, hR61, eF15⟩ := hq
              refine J_eqF (F2 := va_up (va_up (va_up F 98 (oM ad (va_up f 8 b43) v)) 99 (.inl (g 0, 858, .inl (aI bh59)))) 100 (.inl (g 0, 33, .inl (aI bl60)))) (eF15.trans (Eq.trans (congrArg (fun q : Nat → va_E => va_up q 100 (.inl (g 0, 33, .inl (aI bl60)))) (up_in1 (by decide))) (up_in0))) ?_
              have hR64 := reg_w1 ((hzz_up (hzz_up hzz)).1 _) hR61
              refine J_pick (lv' := [(0, .ref (ad 98)), (1, .int (iI (a : Int))), (2, .int (iI E)), (3, .int (iI (m : Int))), (5, .int (iI zf)), (6, .int (iI zs))]) [4, 5, 6, 7, 2, 1] rfl ?_
              have hR65 := (reg_w1 (hzz.1 _) (reg_w1 ((hzz_up hzz).1 _) hR64))
              refine lab159 G bh59 bl60 b43 (va_up W44 27 G) ?_ (by omega) hR65 (fun k hk => ((show (va_up W44 27 G) k = W44 k from by rw [va_up_ne _ _ (by omega)]).trans ((hfq46 k (by omega) (by omega) (by omega)).trans ((show (va_up (va_up (va_up W29 16 G) 32 1) 27 (G + 1)) k = W29 k from by rw [va_up_ne _ _ (by omega), va_up_ne _ _ (by omega), va_up_ne _ _ (by omega)]).trans ((hfq31 k (by omega) (by omega) (by omega)).trans ((show (va_up (va_up (va_up (va_up (va_up (va_up W1 22 (X * 10 ^ (((m : Int) - 1) - E).toNat)) 23 (Y * 10 ^ (-(((m : Int) - 1) - E)).toNat)) 26 j12) 25 (((X * 10 ^ (((m : Int) - 1) - E).toNat) % (Y * 10 ^ (-(((m : Int) - 1) - E)).toNat)) * 2 ^ 1)) 24 G) 27 G) k = W1 k from by rw [va_up_ne _ _ (by omega), va_up_ne _ _ (by omega), va_up_ne _ _ (by omega), va_up_ne _ _ (by omega), va_up_ne _ _ (by omega), va_up_ne _ _ (by omega)]).trans ((hfW k hk).trans (show (V) k = V k from by rfl)))))))) (((va_up_ne _ _ (by decide)).trans (((hfq46 _ (by omega) (by omega) (by omega))).trans ((va_up_ne _ _ (by decide)).trans ((va_up_ne _ _ (by decide)).trans ((va_up_ne _ _ (by decide)).trans (((hfq31 _ (by omega) (by omega) (by omega))).trans ((va_up_ne _ _ (by decide)).trans ((va_up_ne _ _ (by decide)).trans ((va_up_ne _ _ (by decide)).trans ((va_up_ne _ _ (by decide)).trans ((va_up_ne _ _ (by decide)).trans ((va_up_ne _ _ (by decide)).trans hW31))))))))))))) (((va_up_ne _ _ (by decide)).trans (((hfq46 _ (by omega) (by omega) (by omega))).trans ((va_up_ne _ _ (by decide)).trans ((va_up_ne _ _ (by decide)).trans ((va_up_ne _ _ (by decide)).trans (((hfq31 _ (by omega) (by omega) (by omega))).trans ((va_up_ne _ _ (by decide)).trans ((va_up_ne _ _ (by decide)).trans ((va_up_ne _ _ (by decide)).trans ((va_up_ne _ _ (by decide)).trans ((va_up_ne _ _ (by decide)).trans ((va_up_ne _ _ (by decide)).trans hW28))))))))))))) ((va_up_self ..))
              · have hzf : (zf = 1 ∧ lead u d (E + 1 - (m : Int)) G) ∨ (zf = 0 ∧ ¬ lead u d (E + 1 - (m : Int)) G) := hzf
                have hzs : (zs = 1 ∧ lead u d (E + 1 - (m : Int)) (G + 1)) ∨ (zs = 0 ∧ ¬ lead u d (E + 1 - (m : Int)) (G + 1)) := hzs
                have hc1 : cc < 0 ↔ u * 10 ^ ((m : Int) - 1 - E).toNat % (d * 10 ^ (-((m : Int) - 1 - E)).toNat) * 2 < d * 10 ^ (-((m : Int) - 1 - E)).toNat := hc1
                have hc2 : cc = 0 ↔ u * 10 ^ ((m : Int) - 1 - E).toNat % (d * 10 ^ (-((m : Int) - 1 - E)).toNat) * 2 = d * 10 ^ (-((m : Int) - 1 - E)).toNat := hc2
                intro hor
                exact hsa (by rcases hzf with w | w; exact w.2; omega) (Or.inl (by rcases hzs with w | w; omega; exact w.2))
            · refine J_iload 3 d_M_shortest_136 rfl ?_
              refine J_iflt (tgt := 151) d_M_shortest_138 (by decide) ⟨by omega, by omega⟩ (fun c138 => ?_) (fun c138 => ?_)
              · refine J_aload_n 4 d_M_shortest_151 rfl rfl ?_
                refine J_bipush d_M_shortest_152 (i8_ok (by decide)) ?_
                refine J_bipush d_M_shortest_154 (i8_ok (by decide)) ?_
                refine J_callVv cw_M_58 nh_M_copy pn_M_copy rfl rfl (by omega) (by rw [va_up_ne _ _ (by decide), va_up_ne _ _ (by decide), va_up_self]) (As := [.int (iI 16), .int (iI 27)]) (rest := []) rfl (Nat.le_of_ble_eq_true rfl) ⟨by decide, by decide⟩ rfl ⟨by decide, by decide⟩ d_M_shortest_156 (k_M_copy hfl (a := 16) (b := 27) (hh := bh47) (ll := bl48) (V := W44) (br := va_up (va_up br 22 0) 23 0) (hN := hN) (hO := (by rw [va_up_ne _ _ (by decide), va_up_ne _ _ (by decide), va_up_self])) (hB := (by rw [va_up_ne _ _ (by decide), va_up_self])) (hL := (by rw [va_up_self])) (hR := hR45) (ha := by omega) (hb := by omega) (hxa := (((hfq46 _ (by omega) (by omega) (by omega))).trans ((va_up_ne _ _ (by decide)).trans ((va_up_ne _ _ (by decide)).trans (va_up_self ..))))) (bra := ((va_up_ne _ _ (by decide)).trans ((va_up_ne _ _ (by decide)).trans (hzz.2 16 (by decide) (by decide)))))) (fun  F16 hq => ?_)
                obtain ⟨bh66, bl67, hR68, eF16⟩ := hq
                refine J_eqF (F2 := va_up (va_up (va_up F 98 (oM ad (va_up f 8 b43) v)) 99 (.inl (g 0, 858, .inl (aI bh66)))) 100 (.inl (g 0, 33, .inl (aI bl67)))) (eF16.trans (Eq.trans (congrArg (fun q : Nat → va_E => va_up q 100 (.inl (g 0, 33, .inl (aI bl67)))) (up_in1 (by decide))) (up_in0))) ?_
                have hR71 := reg_w1 ((hzz_up (hzz_up hzz)).1 _) hR68
                refine J_pick (lv' := [(0, .ref (ad 98)), (1, .int (iI (a : Int))), (2, .int (iI E)), (3, .int (iI (m : Int))), (5, .int (iI zf)), (6, .int (iI zs))]) [4, 5, 6, 7, 2, 1] rfl ?_
                have hR72 := (reg_w1 (hzz.1 _) (reg_w1 ((hzz_up hzz).1 _) hR71))
                refine lab159 G bh66 bl67 b43 (va_up W44 27 G) ?_ (by omega) hR72 (fun k hk => ((show (va_up W44 27 G) k = W44 k from by rw [va_up_ne _ _ (by omega)]).trans ((hfq46 k (by omega) (by omega) (by omega)).trans ((show (va_up (va_up (va_up W29 16 G) 32 1) 27 (G + 1)) k = W29 k from by rw [va_up_ne _ _ (by omega), va_up_ne _ _ (by omega), va_up_ne _ _ (by omega)]).trans ((hfq31 k (by omega) (by omega) (by omega)).trans ((show (va_up (va_up (va_up (va_up (va_up (va_up W1 22 (X * 10 ^ (((m : Int) - 1) - E).toNat)) 23 (Y * 10 ^ (-(((m : Int) - 1) - E)).toNat)) 26 j12) 25 (((X * 10 ^ (((m : Int) - 1) - E).toNat) % (Y * 10 ^ (-(((m : Int) - 1) - E)).toNat)) * 2 ^ 1)) 24 G) 27 G) k = W1 k from by rw [va_up_ne _ _ (by omega), va_up_ne _ _ (by omega), va_up_ne _ _ (by omega), va_up_ne _ _ (by omega), va_up_ne _ _ (by omega), va_up_ne _ _ (by omega)]).trans ((hfW k hk).trans (show (V) k = V k from by rfl)))))))) (((va_up_ne _ _ (by decide)).trans (((hfq46 _ (by omega) (by omega) (by omega))).trans ((va_up_ne _ _ (by decide)).trans ((va_up_ne _ _ (by decide)).trans ((va_up_ne _ _ (by decide)).trans (((hfq31 _ (by omega) (by omega) (by omega))).trans ((va_up_ne _ _ (by decide)).trans ((va_up_ne _ _ (by decide)).trans ((va_up_ne _ _ (by decide)).trans ((va_up_ne _ _ (by decide)).trans ((va_up_ne _ _ (by decide)).trans ((va_up_ne _ _ (by decide)).trans hW31))))))))))))) (((va_up_ne _ _ (by decide)).trans (((hfq46 _ (by omega) (by omega) (by omega))).trans ((va_up_ne _ _ (by decide)).trans ((va_up_ne _ _ (by decide)).trans ((va_up_ne _ _ (by decide)).trans (((hfq31 _ (by omega) (by omega) (by omega))).trans ((va_up_ne _ _ (by decide)).trans ((va_up_ne _ _ (by decide)).trans ((va_up_ne _ _ (by decide)).trans ((va_up_ne _ _ (by decide)).trans ((va_up_ne _ _ (by decide)).trans ((va_up_ne _ _ (by decide)).trans hW28))))))))))))) ((va_up_self ..))
                · have hzf : (zf = 1 ∧ lead u d (E + 1 - (m : Int)) G) ∨ (zf = 0 ∧ ¬ lead u d (E + 1 - (m : Int)) G) := hzf
                  have hzs : (zs = 1 ∧ lead u d (E + 1 - (m : Int)) (G + 1)) ∨ (zs = 0 ∧ ¬ lead u d (E + 1 - (m : Int)) (G + 1)) := hzs
                  have hc1 : cc < 0 ↔ u * 10 ^ ((m : Int) - 1 - E).toNat % (d * 10 ^ (-((m : Int) - 1 - E)).toNat) * 2 < d * 10 ^ (-((m : Int) - 1 - E)).toNat := hc1
                  have hc2 : cc = 0 ↔ u * 10 ^ ((m : Int) - 1 - E).toNat % (d * 10 ^ (-((m : Int) - 1 - E)).toNat) * 2 = d * 10 ^ (-((m : Int) - 1 - E)).toNat := hc2
                  intro hor
                  exact hsa (by rcases hzf with w | w; exact w.2; omega) (Or.inr (Or.inl (hc1.mp (by omega))))
              · refine J_iload 3 d_M_shortest_141 rfl ?_
                refine J_ifne (tgt := 159) d_M_shortest_143 (by decide) ⟨by omega, by omega⟩ (fun c143 => ?_) (fun c143 => ?_)
                · refine J_pick (lv' := [(0, .ref (ad 98)), (1, .int (iI (a : Int))), (2, .int (iI E)), (3, .int (iI (m : Int))), (5, .int (iI zf)), (6, .int (iI zs))]) [4, 5, 6, 7, 2, 1] rfl ?_
                  have hR73 := (reg_w1 (hzz.1 _) (reg_w1 ((hzz_up hzz).1 _) hR45))
                  refine lab159 (G + 1) bh47 bl48 b43 W44 ?_ (by omega) hR73 (fun k hk => ((show (W44) k = W44 k from by rfl).trans ((hfq46 k (by omega) (by omega) (by omega)).trans ((show (va_up (va_up (va_up W29 16 G) 32 1) 27 (G + 1)) k = W29 k from by rw [va_up_ne _ _ (by omega), va_up_ne _ _ (by omega), va_up_ne _ _ (by omega)]).trans ((hfq31 k (by omega) (by omega) (by omega)).trans ((show (va_up (va_up (va_up (va_up (va_up (va_up W1 22 (X * 10 ^ (((m : Int) - 1) - E).toNat)) 23 (Y * 10 ^ (-(((m : Int) - 1) - E)).toNat)) 26 j12) 25 (((X * 10 ^ (((m : Int) - 1) - E).toNat) % (Y * 10 ^ (-(((m : Int) - 1) - E)).toNat)) * 2 ^ 1)) 24 G) 27 G) k = W1 k from by rw [va_up_ne _ _ (by omega), va_up_ne _ _ (by omega), va_up_ne _ _ (by omega), va_up_ne _ _ (by omega), va_up_ne _ _ (by omega), va_up_ne _ _ (by omega)]).trans ((hfW k hk).trans (show (V) k = V k from by rfl)))))))) ((((hfq46 _ (by omega) (by omega) (by omega))).trans ((va_up_ne _ _ (by decide)).trans ((va_up_ne _ _ (by decide)).trans ((va_up_ne _ _ (by decide)).trans (((hfq31 _ (by omega) (by omega) (by omega))).trans ((va_up_ne _ _ (by decide)).trans ((va_up_ne _ _ (by decide)).trans ((va_up_ne _ _ (by decide)).trans ((va_up_ne _ _ (by decide)).trans ((va_up_ne _ _ (by decide)).trans ((va_up_ne _ _ (by decide)).trans hW31)))))))))))) ((((hfq46 _ (by omega) (by omega) (by omega))).trans ((va_up_ne _ _ (by decide)).trans ((va_up_ne _ _ (by decide)).trans ((va_up_ne _ _ (by decide)).trans (((hfq31 _ (by omega) (by omega) (by omega))).trans ((va_up_ne _ _ (by decide)).trans ((va_up_ne _ _ (by decide)).trans ((va_up_ne _ _ (by decide)).trans ((va_up_ne _ _ (by decide)).trans ((va_up_ne _ _ (by decide)).trans ((va_up_ne _ _ (by decide)).trans hW28)))))))))))) ((((hfq46 _ (by omega) (by omega) (by omega))).trans (va_up_self ..)))
                  · have hzf : (zf = 1 ∧ lead u d (E + 1 - (m : Int)) G) ∨ (zf = 0 ∧ ¬ lead u d (E + 1 - (m : Int)) G) := hzf
                    have hzs : (zs = 1 ∧ lead u d (E + 1 - (m : Int)) (G + 1)) ∨ (zs = 0 ∧ ¬ lead u d (E + 1 - (m : Int)) (G + 1)) := hzs
                    have hc1 : cc < 0 ↔ u * 10 ^ ((m : Int) - 1 - E).toNat % (d * 10 ^ (-((m : Int) - 1 - E)).toNat) * 2 < d * 10 ^ (-((m : Int) - 1 - E)).toNat := hc1
                    have hc2 : cc = 0 ↔ u * 10 ^ ((m : Int) - 1 - E).toNat % (d * 10 ^ (-((m : Int) - 1 - E)).toNat) * 2 = d * 10 ^ (-((m : Int) - 1 - E)).toNat := hc2
                    intro hor
                    exact hsb (by rcases hzs with w | w; exact w.2; omega) (fun w => by rcases w.2 with w2 | w2; exact absurd (hc1.mpr w2) (by omega); exact absurd (hc2.mpr w2.1) (by omega))
                · refine J_iload 0 d_M_shortest_146 rfl ?_
                  refine J_ifeq (tgt := 159) d_M_shortest_148 (by decide) ⟨by omega, by omega⟩ (fun c148 => ?_) (fun c148 => ?_)
                  · refine J_pick (lv' := [(0, .ref (ad 98)), (1, .int (iI (a : Int))), (2, .int (iI E)), (3, .int (iI (m : Int))), (5, .int (iI zf)), (6, .int (iI zs))]) [4, 5, 6, 7, 2, 1] rfl ?_
                    have hR74 := (reg_w1 (hzz.1 _) (reg_w1 ((hzz_up hzz).1 _) hR45))
                    refine lab159 (G + 1) bh47 bl48 b43 W44 ?_ (by omega) hR74 (fun k hk => ((show (W44) k = W44 k from by rfl).trans ((hfq46 k (by omega) (by omega) (by omega)).trans ((show (va_up (va_up (va_up W29 16 G) 32 1) 27 (G + 1)) k = W29 k from by rw [va_up_ne _ _ (by omega), va_up_ne _ _ (by omega), va_up_ne _ _ (by omega)]).trans ((hfq31 k (by omega) (by omega) (by omega)).trans ((show (va_up (va_up (va_up (va_up (va_up (va_up W1 22 (X * 10 ^ (((m : Int) - 1) - E).toNat)) 23 (Y * 10 ^ (-(((m : Int) - 1) - E)).toNat)) 26 j12) 25 (((X * 10 ^ (((m : Int) - 1) - E).toNat) % (Y * 10 ^ (-(((m : Int) - 1) - E)).toNat)) * 2 ^ 1)) 24 G) 27 G) k = W1 k from by rw [va_up_ne _ _ (by omega), va_up_ne _ _ (by omega), va_up_ne _ _ (by omega), va_up_ne _ _ (by omega), va_up_ne _ _ (by omega), va_up_ne _ _ (by omega)]).trans ((hfW k hk).trans (show (V) k = V k from by rfl)))))))) ((((hfq46 _ (by omega) (by omega) (by omega))).trans ((va_up_ne _ _ (by decide)).trans ((va_up_ne _ _ (by decide)).trans ((va_up_ne _ _ (by decide)).trans (((hfq31 _ (by omega) (by omega) (by omega))).trans ((va_up_ne _ _ (by decide)).trans ((va_up_ne _ _ (by decide)).trans ((va_up_ne _ _ (by decide)).trans ((va_up_ne _ _ (by decide)).trans ((va_up_ne _ _ (by decide)).trans ((va_up_ne _ _ (by decide)).trans hW31)))))))))))) ((((hfq46 _ (by omega) (by omega) (by omega))).trans ((va_up_ne _ _ (by decide)).trans ((va_up_ne _ _ (by decide)).trans ((va_up_ne _ _ (by decide)).trans (((hfq31 _ (by omega) (by omega) (by omega))).trans ((va_up_ne _ _ (by decide)).trans ((va_up_ne _ _ (by decide)).trans ((va_up_ne _ _ (by decide)).trans ((va_up_ne _ _ (by decide)).trans ((va_up_ne _ _ (by decide)).trans ((va_up_ne _ _ (by decide)).trans hW28)))))))))))) ((((hfq46 _ (by omega) (by omega) (by omega))).trans (va_up_self ..)))
                    · have hzf : (zf = 1 ∧ lead u d (E + 1 - (m : Int)) G) ∨ (zf = 0 ∧ ¬ lead u d (E + 1 - (m : Int)) G) := hzf
                      have hzs : (zs = 1 ∧ lead u d (E + 1 - (m : Int)) (G + 1)) ∨ (zs = 0 ∧ ¬ lead u d (E + 1 - (m : Int)) (G + 1)) := hzs
                      have hc1 : cc < 0 ↔ u * 10 ^ ((m : Int) - 1 - E).toNat % (d * 10 ^ (-((m : Int) - 1 - E)).toNat) * 2 < d * 10 ^ (-((m : Int) - 1 - E)).toNat := hc1
                      have hc2 : cc = 0 ↔ u * 10 ^ ((m : Int) - 1 - E).toNat % (d * 10 ^ (-((m : Int) - 1 - E)).toNat) * 2 = d * 10 ^ (-((m : Int) - 1 - E)).toNat := hc2
                      intro hor
                      exact hsb (by rcases hzs with w | w; exact w.2; omega) (fun w => by rcases w.2 with w2 | w2; exact absurd (hc1.mpr w2) (by omega); omega)
                  · exact absurd c148 (by decide)
        · refine J_iconst d_M_shortest_119 ?_
          refine J_goto (tgt := 124) d_M_shortest_120 (by decide) ?_
          refine J_istore (lv' := [(7, .int (iI 1)), (6, .int (iI zs)), (5, .int (iI zf)), (4, .int (iI cc)), (0, .ref (ad 98)), (1, .int (iI (a : Int))), (2, .int (iI E)), (3, .int (iI (m : Int)))]) d_M_shortest_124 (by decide) rfl ?_
          have lab159 : ∀ (h9 : Nat) (e1 : Nat → Int) (e2 : Nat → Int) (b8 : Int) (W2 : Nat → Nat) (hsh : (zf = 1 ∨ zs = 1) → shN u d E m = some h9) (h9b : 0 < h9 ∧ h9 < 10 ^ 18) (hRX : reg br e1 e2 W2) (hfX : ∀ k, k < 16 → W2 k = V k) (hX31 : W2 31 = X) (hX28 : W2 28 = Y) (hX27 : W2 27 = h9) , J l rm_M_shortest (0, 0) "NumberTowerModel" b_M_shortest 8 (Option.some Jvm.ClassFile.FieldType.int) D jCl (jTys g) A (fun _ me => me.name = y_M_shortest.name) (ji ad N (fun z F' => z = shE u d ∧ (-60 ≤ z ∧ z ≤ 60) ∧ (0 < (shR u d).2 ∧ (shR u d).2 < 10 ^ 18) ∧ ∃ (hh' ll' dh' : Nat → Int) (W : Nat → Nat) (b : Int), reg br hh' ll' W ∧ (∀ k, k < 16 → W k = V k) ∧ (∀ k, k < ndm 10 1 (shR u d).2 → dh' k = ((dgv 10 (shR u d).2 k : Nat) : Int)) ∧ F' = va_up (va_up (va_up (va_up F 98 (oM ad (va_up (va_up f 8 b) 16 ((ndm 10 1 (shR u d).2 : Nat) : Int)) v)) 99 (aB g hh')) 100 (aL g ll')) 106 (.inl (g 0, 200, .inl (aI dh'))))) ad N 0 0 159 [(0, .ref (ad 98)), (1, .int (iI (a : Int))), (2, .int (iI E)), (3, .int (iI (m : Int))), (5, .int (iI zf)), (6, .int (iI zs))] [] (va_up (va_up (va_up F 98 (oM ad (va_up f 8 b8) v)) 99 (.inl (g 0, 858, .inl (aI e1)))) 100 (.inl (g 0, 33, .inl (aI e2)))) := by
            intro h9 e1 e2 b8 W2 hsh h9b hRX hfX hX31 hX28 hX27
            replace hsh : hold _ := hsh
            refine J_iload 4 d_M_shortest_159 rfl ?_
            refine J_ifne (tgt := 169) d_M_shortest_161 (by decide) ⟨by omega, by omega⟩ (fun c161 => ?_) (fun c161 => ?_)
            · have hnm : ndm 10 1 h9 = ndg 10 h9 := ndm_pos (by decide) h9b.1
              have hnd : ndg 10 h9 ≤ 18 := (ndg_le (by decide)).mpr h9b.2
              have hs9 : shN u d E m = some h9 := (show (zf = 1 ∨ zs = 1) → _ from hsh) (by omega)
              have hsr : shR u d = (m, h9) := by unfold shR; rw [hEe, ← hsF, show 18 - m = 17 - m + 1 by omega]; exact shF_s hs9
              refine J_aload_n 0 d_M_shortest_169 rfl rfl ?_
              refine J_bipush d_M_shortest_170 (i8_ok (by decide)) ?_
              refine J_bipush d_M_shortest_172 (i8_ok (by decide)) ?_
              refine J_iconst d_M_shortest_174 ?_
              refine J_callVv cw_M_294 nh_M_spell pn_M_spell rfl rfl (by omega) (by rw [va_up_ne _ _ (by decide), va_up_ne _ _ (by decide), va_up_self]) (As := [.int (iI 27), .int (iI 10), .int (iI 1)]) (rest := []) rfl (Nat.le_of_ble_eq_true rfl) ⟨by decide, by decide⟩ rfl ⟨by decide, by decide⟩ d_M_shortest_175 (c_M_spell hfl (dh := dh) (a := 27) (b := 10) (lst := 1) (x := h9) (hh := e1) (ll := e2) (f := va_up f 8 b8) (v := v) (V := W2) (br := br) hN (by rw [va_up_ne _ _ (by decide), va_up_ne _ _ (by decide), va_up_self]) (by rw [va_up_ne _ _ (by decide), va_up_self]) (by rw [va_up_self]) hRX hzz (by rw [va_up_ne _ _ (by decide), va_up_ne _ _ (by decide), va_up_ne _ _ (by decide)]; exact h106) (by omega) (by decide) (hzz.2 27 (by decide) (by decide)) (hX27) (by decide) (ndg_18 h9b.2)) (fun  F17 hq => ?_)
              obtain ⟨bh76, bl77, dh75, hR78, hdddh75, eF17⟩ := hq
              refine J_eqF (F2 := va_up (va_up (va_up (va_up F 98 (oM ad (va_up (va_up f 8 b8) 16 ((ndm 10 1 h9 : Nat) : Int)) v)) 99 (.inl (g 0, 858, .inl (aI bh76)))) 100 (.inl (g 0, 33, .inl (aI bl77)))) 106 (.inl (g 0, 200, .inl (aI dh75)))) (eF17.trans (Eq.trans (Eq.trans (congrArg (fun q : Nat → va_E => va_up q 106 (.inl (g 0, 200, .inl (aI dh75)))) (congrArg (fun q : Nat → va_E => va_up q 100 (.inl (g 0, 33, .inl (aI bl77)))) (congrArg (fun q : Nat → va_E => va_up q 99 (.inl (g 0, 858, .inl (aI bh76)))) (up_in2 (by decide) (by decide))))) (congrArg (fun q : Nat → va_E => va_up q 106 (.inl (g 0, 200, .inl (aI dh75)))) (congrArg (fun q : Nat → va_E => va_up q 100 (.inl (g 0, 33, .inl (aI bl77)))) (up_in1 (by decide))))) (congrArg (fun q : Nat → va_E => va_up q 106 (.inl (g 0, 200, .inl (aI dh75)))) (up_in0)))) ?_
              refine J_aload_n 0 d_M_shortest_178 rfl rfl ?_
              refine gf_M_268 (by omega) (by rw [va_up_ne _ _ (by decide), va_up_ne _ _ (by decide), va_up_ne _ _ (by decide), va_up_self]) rfl d_M_shortest_179 ?_
              refine J_topi (r := ((ndm 10 1 h9 : Nat) : Int)) (congrArg iI (va_up_self ..)) ?_
              have lab193 : ∀ (ze : Int) (hze : ze = if m < ndg 10 h9 then E + 1 else E) , J l rm_M_shortest (0, 0) "NumberTowerModel" b_M_shortest 8 (Option.some Jvm.ClassFile.FieldType.int) D jCl (jTys g) A (fun _ me => me.name = y_M_shortest.name) (ji ad N (fun z F' => z = shE u d ∧ (-60 ≤ z ∧ z ≤ 60) ∧ (0 < (shR u d).2 ∧ (shR u d).2 < 10 ^ 18) ∧ ∃ (hh' ll' dh' : Nat → Int) (W : Nat → Nat) (b : Int), reg br hh' ll' W ∧ (∀ k, k < 16 → W k = V k) ∧ (∀ k, k < ndm 10 1 (shR u d).2 → dh' k = ((dgv 10 (shR u d).2 k : Nat) : Int)) ∧ F' = va_up (va_up (va_up (va_up F 98 (oM ad (va_up (va_up f 8 b) 16 ((ndm 10 1 (shR u d).2 : Nat) : Int)) v)) 99 (aB g hh')) 100 (aL g ll')) 106 (.inl (g 0, 200, .inl (aI dh'))))) ad N 0 0 193 [(0, .ref (ad 98))] [.int (iI ze)] (va_up (va_up (va_up (va_up F 98 (oM ad (va_up (va_up f 8 b8) 16 ((ndm 10 1 h9 : Nat) : Int)) v)) 99 (.inl (g 0, 858, .inl (aI bh76)))) 100 (.inl (g 0, 33, .inl (aI bl77)))) 106 (.inl (g 0, 200, .inl (aI dh75)))) := by
                intro ze hze
                refine J_iret rfl rfl d_M_shortest_193 ⟨by decide, by decide⟩ ?_
                exact ⟨_, rfl, rfl, rfl, by unfold shE; rw [hsr, hEe]; exact hze, (by rw [hze]; split <;> omega), (by rw [hsr]; exact h9b), _, _, _, _, b8, hR78, (fun k hk => ((show (va_up W2 29 0) k = W2 k from by rw [va_up_ne _ _ (by omega)]).trans ((hfX k hk).trans (show (V) k = V k from by rfl)))), by rw [hsr]; exact hdddh75, by rw [hsr]⟩
              refine J_iload_n 3 d_M_shortest_182 rfl rfl ?_
              refine J_if_icmple (tgt := 192) d_M_shortest_183 (by decide) ⟨by omega, by omega⟩ ⟨by omega, by omega⟩ (fun c183 => ?_) (fun c183 => ?_)
              · refine J_iload_n 2 d_M_shortest_192 rfl rfl ?_
                refine J_pick (lv' := [(0, .ref (ad 98))]) [0] rfl ?_
                exact lab193 (E) (by rw [if_neg (by omega)])
              · refine J_iload_n 2 d_M_shortest_186 rfl rfl ?_
                refine J_iconst d_M_shortest_187 ?_
                refine J_iadd d_M_shortest_188 ?_
                refine J_goto (tgt := 193) d_M_shortest_189 (by decide) ?_
                refine J_pick (lv' := [(0, .ref (ad 98))]) [0] rfl ?_
                exact lab193 (E + 1) (by rw [if_pos (by omega)])
            · refine J_iload 5 d_M_shortest_164 rfl ?_
              refine J_ifeq (tgt := 194) d_M_shortest_166 (by decide) ⟨by omega, by omega⟩ (fun c166 => ?_) (fun c166 => ?_)
              · have hzf : (zf = 1 ∧ lead u d (E + 1 - (m : Int)) G) ∨ (zf = 0 ∧ ¬ lead u d (E + 1 - (m : Int)) G) := hzf
                have hzs : (zs = 1 ∧ lead u d (E + 1 - (m : Int)) (G + 1)) ∨ (zs = 0 ∧ ¬ lead u d (E + 1 - (m : Int)) (G + 1)) := hzs
                have hnone : shN u d E m = none := hsn (by rcases hzf with w | w; omega; exact w.2) (by rcases hzs with w | w; omega; exact w.2)
                have hm16 : m ≠ 17 := fun w => h17 (w ▸ hnone)
                refine J_iinc (j := 3) (b := (m : Int) + 1) (lv' := [(3, .int (iI ((m : Int) + 1))), (0, .ref (ad 98)), (1, .int (iI (a : Int))), (2, .int (iI E)), (5, .int (iI zf)), (6, .int (iI zs))]) d_M_shortest_194 rfl (by omega) (by decide) rfl ?_
                refine J_goto (tgt := 21) d_M_shortest_197 (by decide) ?_
                refine J_pick (lv' := [(0, .ref (ad 98)), (1, .int (iI (a : Int))), (2, .int (iI E)), (3, .int (iI ((m : Int) + 1)))]) [1, 2, 3, 0] rfl ?_
                exact ih (m + 1) e1 e2 b8 W2 (by omega) (by omega) (by rw [← hsF, show 18 - m = 17 - m + 1 by omega, shF_n hnone, show 18 - (m + 1) = 17 - m by omega]) hRX (fun k hk => ((show (W2) k = W2 k from by rfl).trans ((hfX k hk).trans (show (V) k = V k from by rfl)))) (hX31) (hX28) (by omega)
              · have hnm : ndm 10 1 h9 = ndg 10 h9 := ndm_pos (by decide) h9b.1
                have hnd : ndg 10 h9 ≤ 18 := (ndg_le (by decide)).mpr h9b.2
                have hs9 : shN u d E m = some h9 := (show (zf = 1 ∨ zs = 1) → _ from hsh) (by omega)
                have hsr : shR u d = (m, h9) := by unfold shR; rw [hEe, ← hsF, show 18 - m = 17 - m + 1 by omega]; exact shF_s hs9
                refine J_aload_n 0 d_M_shortest_169 rfl rfl ?_
                refine J_bipush d_M_shortest_170 (i8_ok (by decide)) ?_
                refine J_bipush d_M_shortest_172 (i8_ok (by decide)) ?_
                refine J_iconst d_M_shortest_174 ?_
                refine J_callVv cw_M_294 nh_M_spell pn_M_spell rfl rfl (by omega) (by rw [va_up_ne _ _ (by decide), va_up_ne _ _ (by decide), va_up_self]) (As := [.int (iI 27), .int (iI 10), .int (iI 1)]) (rest := []) rfl (Nat.le_of_ble_eq_true rfl) ⟨by decide, by decide⟩ rfl ⟨by decide, by decide⟩ d_M_shortest_175 (c_M_spell hfl (dh := dh) (a := 27) (b := 10) (lst := 1) (x := h9) (hh := e1) (ll := e2) (f := va_up f 8 b8) (v := v) (V := W2) (br := br) hN (by rw [va_up_ne _ _ (by decide), va_up_ne _ _ (by decide), va_up_self]) (by rw [va_up_ne _ _ (by decide), va_up_self]) (by rw [va_up_self]) hRX hzz (by rw [va_up_ne _ _ (by decide), va_up_ne _ _ (by decide), va_up_ne _ _ (by decide)]; exact h106) (by omega) (by decide) (hzz.2 27 (by decide) (by decide)) (hX27) (by decide) (ndg_18 h9b.2)) (fun  F18 hq => ?_)
                obtain ⟨bh80, bl81, dh79, hR82, hdddh79, eF18⟩ := hq
                refine J_eqF (F2 := va_up (va_up (va_up (va_up F 98 (oM ad (va_up (va_up f 8 b8) 16 ((ndm 10 1 h9 : Nat) : Int)) v)) 99 (.inl (g 0, 858, .inl (aI bh80)))) 100 (.inl (g 0, 33, .inl (aI bl81)))) 106 (.inl (g 0, 200, .inl (aI dh79)))) (eF18.trans (Eq.trans (Eq.trans (congrArg (fun q : Nat → va_E => va_up q 106 (.inl (g 0, 200, .inl (aI dh79)))) (congrArg (fun q : Nat → va_E => va_up q 100 (.inl (g 0, 33, .inl (aI bl81)))) (congrArg (fun q : Nat → va_E => va_up q 99 (.inl (g 0, 858, .inl (aI bh80)))) (up_in2 (by decide) (by decide))))) (congrArg (fun q : Nat → va_E => va_up q 106 (.inl (g 0, 200, .inl (aI dh79)))) (congrArg (fun q : Nat → va_E => va_up q 100 (.inl (g 0, 33, .inl (aI bl81)))) (up_in1 (by decide))))) (congrArg (fun q : Nat → va_E => va_up q 106 (.inl (g 0, 200, .inl (aI dh79)))) (up_in0)))) ?_
                refine J_aload_n 0 d_M_shortest_178 rfl rfl ?_
                refine gf_M_268 (by omega) (by rw [va_up_ne _ _ (by decide), va_up_ne _ _ (by decide), va_up_ne _ _ (by decide), va_up_self]) rfl d_M_shortest_179 ?_
                refine J_topi (r := ((ndm 10 1 h9 : Nat) : Int)) (congrArg iI (va_up_self ..)) ?_
                have lab193 : ∀ (ze : Int) (hze : ze = if m < ndg 10 h9 then E + 1 else E) , J l rm_M_shortest (0, 0) "NumberTowerModel" b_M_shortest 8 (Option.some Jvm.ClassFile.FieldType.int) D jCl (jTys g) A (fun _ me => me.name = y_M_shortest.name) (ji ad N (fun z F' => z = shE u d ∧ (-60 ≤ z ∧ z ≤ 60) ∧ (0 < (shR u d).2 ∧ (shR u d).2 < 10 ^ 18) ∧ ∃ (hh' ll' dh' : Nat → Int) (W : Nat → Nat) (b : Int), reg br hh' ll' W ∧ (∀ k, k < 16 → W k = V k) ∧ (∀ k, k < ndm 10 1 (shR u d).2 → dh' k = ((dgv 10 (shR u d).2 k : Nat) : Int)) ∧ F' = va_up (va_up (va_up (va_up F 98 (oM ad (va_up (va_up f 8 b) 16 ((ndm 10 1 (shR u d).2 : Nat) : Int)) v)) 99 (aB g hh')) 100 (aL g ll')) 106 (.inl (g 0, 200, .inl (aI dh'))))) ad N 0 0 193 [(0, .ref (ad 98))] [.int (iI ze)] (va_up (va_up (va_up (va_up F 98 (oM ad (va_up (va_up f 8 b8) 16 ((ndm 10 1 h9 : Nat) : Int)) v)) 99 (.inl (g 0, 858, .inl (aI bh80)))) 100 (.inl (g 0, 33, .inl (aI bl81)))) 106 (.inl (g 0, 200, .inl (aI dh79)))) := by
                  intro ze hze
                  refine J_iret rfl rfl d_M_shortest_193 ⟨by decide, by decide⟩ ?_
                  exact ⟨_, rfl, rfl, rfl, by unfold shE; rw [hsr, hEe]; exact hze, (by rw [hze]; split <;> omega), (by rw [hsr]; exact h9b), _, _, _, _, b8, hR82, (fun k hk => ((show (va_up W2 29 0) k = W2 k from by rw [va_up_ne _ _ (by omega)]).trans ((hfX k hk).trans (show (V) k = V k from by rfl)))), by rw [hsr]; exact hdddh79, by rw [hsr]⟩
                refine J_iload_n 3 d_M_shortest_182 rfl rfl ?_
                refine J_if_icmple (tgt := 192) d_M_shortest_183 (by decide) ⟨by omega, by omega⟩ ⟨by omega, by omega⟩ (fun c183 => ?_) (fun c183 => ?_)
                · refine J_iload_n 2 d_M_shortest_192 rfl rfl ?_
                  refine J_pick (lv' := [(0, .ref (ad 98))]) [0] rfl ?_
                  exact lab193 (E) (by rw [if_neg (by omega)])
                · refine J_iload_n 2 d_M_shortest_186 rfl rfl ?_
                  refine J_iconst d_M_shortest_187 ?_
                  refine J_iadd d_M_shortest_188 ?_
                  refine J_goto (tgt := 193) d_M_shortest_189 (by decide) ?_
                  refine J_pick (lv' := [(0, .ref (ad 98))]) [0] rfl ?_
                  exact lab193 (E + 1) (by rw [if_pos (by omega)])
          refine J_iload 2 d_M_shortest_126 rfl ?_
          refine J_ifeq (tgt := 159) d_M_shortest_128 (by decide) ⟨by omega, by omega⟩ (fun c128 => ?_) (fun c128 => ?_)
          · refine J_pick (lv' := [(0, .ref (ad 98)), (1, .int (iI (a : Int))), (2, .int (iI E)), (3, .int (iI (m : Int))), (5, .int (iI zf)), (6, .int (iI zs))]) [4, 5, 6, 7, 2, 1] rfl ?_
            have hR83 := (reg_w1 (hzz.1 _) (reg_w1 ((hzz_up hzz).1 _) hR45))
            refine lab159 (G + 1) bh47 bl48 b43 W44 ?_ (by omega) hR83 (fun k hk => ((show (W44) k = W44 k from by rfl).trans ((hfq46 k (by omega) (by omega) (by omega)).trans ((show (va_up (va_up (va_up W29 16 G) 32 1) 27 (G + 1)) k = W29 k from by rw [va_up_ne _ _ (by omega), va_up_ne _ _ (by omega), va_up_ne _ _ (by omega)]).trans ((hfq31 k (by omega) (by omega) (by omega)).trans ((show (va_up (va_up (va_up (va_up (va_up (va_up W1 22 (X * 10 ^ (((m : Int) - 1) - E).toNat)) 23 (Y * 10 ^ (-(((m : Int) - 1) - E)).toNat)) 26 j12) 25 (((X * 10 ^ (((m : Int) - 1) - E).toNat) % (Y * 10 ^ (-(((m : Int) - 1) - E)).toNat)) * 2 ^ 1)) 24 G) 27 G) k = W1 k from by rw [va_up_ne _ _ (by omega), va_up_ne _ _ (by omega), va_up_ne _ _ (by omega), va_up_ne _ _ (by omega), va_up_ne _ _ (by omega), va_up_ne _ _ (by omega)]).trans ((hfW k hk).trans (show (V) k = V k from by rfl)))))))) ((((hfq46 _ (by omega) (by omega) (by omega))).trans ((va_up_ne _ _ (by decide)).trans ((va_up_ne _ _ (by decide)).trans ((va_up_ne _ _ (by decide)).trans (((hfq31 _ (by omega) (by omega) (by omega))).trans ((va_up_ne _ _ (by decide)).trans ((va_up_ne _ _ (by decide)).trans ((va_up_ne _ _ (by decide)).trans ((va_up_ne _ _ (by decide)).trans ((va_up_ne _ _ (by decide)).trans ((va_up_ne _ _ (by decide)).trans hW31)))))))))))) ((((hfq46 _ (by omega) (by omega) (by omega))).trans ((va_up_ne _ _ (by decide)).trans ((va_up_ne _ _ (by decide)).trans ((va_up_ne _ _ (by decide)).trans (((hfq31 _ (by omega) (by omega) (by omega))).trans ((va_up_ne _ _ (by decide)).trans ((va_up_ne _ _ (by decide)).trans ((va_up_ne _ _ (by decide)).trans ((va_up_ne _ _ (by decide)).trans ((va_up_ne _ _ (by decide)).trans ((va_up_ne _ _ (by decide)).trans hW28)))))))))))) ((((hfq46 _ (by omega) (by omega) (by omega))).trans (va_up_self ..)))
            · have hzf : (zf = 1 ∧ lead u d (E + 1 - (m : Int)) G) ∨ (zf = 0 ∧ ¬ lead u d (E + 1 - (m : Int)) G) := hzf
              have hzs : (zs = 1 ∧ lead u d (E + 1 - (m : Int)) (G + 1)) ∨ (zs = 0 ∧ ¬ lead u d (E + 1 - (m : Int)) (G + 1)) := hzs
              have hc1 : cc < 0 ↔ u * 10 ^ ((m : Int) - 1 - E).toNat % (d * 10 ^ (-((m : Int) - 1 - E)).toNat) * 2 < d * 10 ^ (-((m : Int) - 1 - E)).toNat := hc1
              have hc2 : cc = 0 ↔ u * 10 ^ ((m : Int) - 1 - E).toNat % (d * 10 ^ (-((m : Int) - 1 - E)).toNat) * 2 = d * 10 ^ (-((m : Int) - 1 - E)).toNat := hc2
              intro hor
              exact hsb (by rcases hzs with w | w; exact w.2; omega) (fun w => absurd w.1 (by rcases hzf with w | w; omega; exact w.2))
          · refine J_iload 1 d_M_shortest_131 rfl ?_
            refine J_ifeq (tgt := 151) d_M_shortest_133 (by decide) ⟨by omega, by omega⟩ (fun c133 => ?_) (fun c133 => ?_)
            · refine J_aload_n 4 d_M_shortest_151 rfl rfl ?_
              refine J_bipush d_M_shortest_152 (i8_ok (by decide)) ?_
              refine J_bipush d_M_shortest_154 (i8_ok (by decide)) ?_
              refine J_callVv cw_M_58 nh_M_copy pn_M_copy rfl rfl (by omega) (by rw [va_up_ne _ _ (by decide), va_up_ne _ _ (by decide), va_up_self]) (As := [.int (iI 16), .int (iI 27)]) (rest := []) rfl (Nat.le_of_ble_eq_true rfl) ⟨by decide, by decide⟩ rfl ⟨by decide, by decide⟩ d_M_shortest_156 (k_M_copy hfl (a := 16) (b := 27) (hh := bh47) (ll := bl48) (V := W44) (br := va_up (va_up br 22 0) 23 0) (hN := hN) (hO := (by rw [va_up_ne _ _ (by decide), va_up_ne _ _ (by decide), va_up_self])) (hB := (by rw [va_up_ne _ _ (by decide), va_up_self])) (hL := (by rw [va_up_self])) (hR := hR45) (ha := by omega) (hb := by omega) (hxa := (((hfq46 _ (by omega) (by omega) (by omega))).trans ((va_up_ne _ _ (by decide)).trans ((va_up_ne _ _ (by decide)).trans (va_up_self ..))))) (bra := ((va_up_ne _ _ (by decide)).trans ((va_up_ne _ _ (by decide)).trans (hzz.2 16 (by decide) (by decide)))))) (fun  F19 hq => ?_)
              obtain ⟨bh84, bl85, hR86, eF19⟩ := hq
              refine J_eqF (F2 := va_up (va_up (va_up F 98 (oM ad (va_up f 8 b43) v)) 99 (.inl (g 0, 858, .inl (aI bh84)))) 100 (.inl (g 0, 33, .inl (aI bl85)))) (eF19.trans (Eq.trans (congrArg (fun q : Nat → va_E => va_up q 100 (.inl (g 0, 33, .inl (aI bl85)))) (up_in1 (by decide))) (up_in0))) ?_
              have hR89 := reg_w1 ((hzz_up (hzz_up hzz)).1 _) hR86
              refine J_pick (lv' := [(0, .ref (ad 98)), (1, .int (iI (a : Int))), (2, .int (iI E)), (3, .int (iI (m : Int))), (5, .int (iI zf)), (6, .int (iI zs))]) [4, 5, 6, 7, 2, 1] rfl ?_
              have hR90 := (reg_w1 (hzz.1 _) (reg_w1 ((hzz_up hzz).1 _) hR89))
              refine lab159 G bh84 bl85 b43 (va_up W44 27 G) ?_ (by omega) hR90 (fun k hk => ((show (va_up W44 27 G) k = W44 k from by rw [va_up_ne _ _ (by omega)]).trans ((hfq46 k (by omega) (by omega) (by omega)).trans ((show (va_up (va_up (va_up W29 16 G) 32 1) 27 (G + 1)) k = W29 k from by rw [va_up_ne _ _ (by omega), va_up_ne _ _ (by omega), va_up_ne _ _ (by omega)]).trans ((hfq31 k (by omega) (by omega) (by omega)).trans ((show (va_up (va_up (va_up (va_up (va_up (va_up W1 22 (X * 10 ^ (((m : Int) - 1) - E).toNat)) 23 (Y * 10 ^ (-(((m : Int) - 1) - E)).toNat)) 26 j12) 25 (((X * 10 ^ (((m : Int) - 1) - E).toNat) % (Y * 10 ^ (-(((m : Int) - 1) - E)).toNat)) * 2 ^ 1)) 24 G) 27 G) k = W1 k from by rw [va_up_ne _ _ (by omega), va_up_ne _ _ (by omega), va_up_ne _ _ (by omega), va_up_ne _ _ (by omega), va_up_ne _ _ (by omega), va_up_ne _ _ (by omega)]).trans ((hfW k hk).trans (show (V) k = V k from by rfl)))))))) (((va_up_ne _ _ (by decide)).trans (((hfq46 _ (by omega) (by omega) (by omega))).trans ((va_up_ne _ _ (by decide)).trans ((va_up_ne _ _ (by decide)).trans ((va_up_ne _ _ (by decide)).trans (((hfq31 _ (by omega) (by omega) (by omega))).trans ((va_up_ne _ _ (by decide)).trans ((va_up_ne _ _ (by decide)).trans ((va_up_ne _ _ (by decide)).trans ((va_up_ne _ _ (by decide)).trans ((va_up_ne _ _ (by decide)).trans ((va_up_ne _ _ (by decide)).trans hW31))))))))))))) (((va_up_ne _ _ (by decide)).trans (((hfq46 _ (by omega) (by omega) (by omega))).trans ((va_up_ne _ _ (by decide)).trans ((va_up_ne _ _ (by decide)).trans ((va_up_ne _ _ (by decide)).trans (((hfq31 _ (by omega) (by omega) (by omega))).trans ((va_up_ne _ _ (by decide)).trans ((va_up_ne _ _ (by decide)).trans ((va_up_ne _ _ (by decide)).trans ((va_up_ne _ _ (by decide)).trans ((va_up_ne _ _ (by decide)).trans ((va_up_ne _ _ (by decide)).trans hW28))))))))))))) ((va_up_self ..))
              · have hzf : (zf = 1 ∧ lead u d (E + 1 - (m : Int)) G) ∨ (zf = 0 ∧ ¬ lead u d (E + 1 - (m : Int)) G) := hzf
                have hzs : (zs = 1 ∧ lead u d (E + 1 - (m : Int)) (G + 1)) ∨ (zs = 0 ∧ ¬ lead u d (E + 1 - (m : Int)) (G + 1)) := hzs
                have hc1 : cc < 0 ↔ u * 10 ^ ((m : Int) - 1 - E).toNat % (d * 10 ^ (-((m : Int) - 1 - E)).toNat) * 2 < d * 10 ^ (-((m : Int) - 1 - E)).toNat := hc1
                have hc2 : cc = 0 ↔ u * 10 ^ ((m : Int) - 1 - E).toNat % (d * 10 ^ (-((m : Int) - 1 - E)).toNat) * 2 = d * 10 ^ (-((m : Int) - 1 - E)).toNat := hc2
                intro hor
                exact hsa (by rcases hzf with w | w; exact w.2; omega) (Or.inl (by rcases hzs with w | w; omega; exact w.2))
            · refine J_iload 3 d_M_shortest_136 rfl ?_
              refine J_iflt (tgt := 151) d_M_shortest_138 (by decide) ⟨by omega, by omega⟩ (fun c138 => ?_) (fun c138 => ?_)
              · refine J_aload_n 4 d_M_shortest_151 rfl rfl ?_
                refine J_bipush d_M_shortest_152 (i8_ok (by decide)) ?_
                refine J_bipush d_M_shortest_154 (i8_ok (by decide)) ?_
                refine J_callVv cw_M_58 nh_M_copy pn_M_copy rfl rfl (by omega) (by rw [va_up_ne _ _ (by decide), va_up_ne _ _ (by decide), va_up_self]) (As := [.int (iI 16), .int (iI 27)]) (rest := []) rfl (Nat.le_of_ble_eq_true rfl) ⟨by decide, by decide⟩ rfl ⟨by decide, by decide⟩ d_M_shortest_156 (k_M_copy hfl (a := 16) (b := 27) (hh := bh47) (ll := bl48) (V := W44) (br := va_up (va_up br 22 0) 23 0) (hN := hN) (hO := (by rw [va_up_ne _ _ (by decide), va_up_ne _ _ (by decide), va_up_self])) (hB := (by rw [va_up_ne _ _ (by decide), va_up_self])) (hL := (by rw [va_up_self])) (hR := hR45) (ha := by omega) (hb := by omega) (hxa := (((hfq46 _ (by omega) (by omega) (by omega))).trans ((va_up_ne _ _ (by decide)).trans ((va_up_ne _ _ (by decide)).trans (va_up_self ..))))) (bra := ((va_up_ne _ _ (by decide)).trans ((va_up_ne _ _ (by decide)).trans (hzz.2 16 (by decide) (by decide)))))) (fun  F20 hq => ?_)
                obtain ⟨bh91, bl92, hR93, eF20⟩ := hq
                refine J_eqF (F2 := va_up (va_up (va_up F 98 (oM ad (va_up f 8 b43) v)) 99 (.inl (g 0, 858, .inl (aI bh91)))) 100 (.inl (g 0, 33, .inl (aI bl92)))) (eF20.trans (Eq.trans (congrArg (fun q : Nat → va_E => va_up q 100 (.inl (g 0, 33, .inl (aI bl92)))) (up_in1 (by decide))) (up_in0))) ?_
                have hR96 := reg_w1 ((hzz_up (hzz_up hzz)).1 _) hR93
                refine J_pick (lv' := [(0, .ref (ad 98)), (1, .int (iI (a : Int))), (2, .int (iI E)), (3, .int (iI (m : Int))), (5, .int (iI zf)), (6, .int (iI zs))]) [4, 5, 6, 7, 2, 1] rfl ?_
                have hR97 := (reg_w1 (hzz.1 _) (reg_w1 ((hzz_up hzz).1 _) hR96))
                refine lab159 G bh91 bl92 b43 (va_up W44 27 G) ?_ (by omega) hR97 (fun k hk => ((show (va_up W44 27 G) k = W44 k from by rw [va_up_ne _ _ (by omega)]).trans ((hfq46 k (by omega) (by omega) (by omega)).trans ((show (va_up (va_up (va_up W29 16 G) 32 1) 27 (G + 1)) k = W29 k from by rw [va_up_ne _ _ (by omega), va_up_ne _ _ (by omega), va_up_ne _ _ (by omega)]).trans ((hfq31 k (by omega) (by omega) (by omega)).trans ((show (va_up (va_up (va_up (va_up (va_up (va_up W1 22 (X * 10 ^ (((m : Int) - 1) - E).toNat)) 23 (Y * 10 ^ (-(((m : Int) - 1) - E)).toNat)) 26 j12) 25 (((X * 10 ^ (((m : Int) - 1) - E).toNat) % (Y * 10 ^ (-(((m : Int) - 1) - E)).toNat)) * 2 ^ 1)) 24 G) 27 G) k = W1 k from by rw [va_up_ne _ _ (by omega), va_up_ne _ _ (by omega), va_up_ne _ _ (by omega), va_up_ne _ _ (by omega), va_up_ne _ _ (by omega), va_up_ne _ _ (by omega)]).trans ((hfW k hk).trans (show (V) k = V k from by rfl)))))))) (((va_up_ne _ _ (by decide)).trans (((hfq46 _ (by omega) (by omega) (by omega))).trans ((va_up_ne _ _ (by decide)).trans ((va_up_ne _ _ (by decide)).trans ((va_up_ne _ _ (by decide)).trans (((hfq31 _ (by omega) (by omega) (by omega))).trans ((va_up_ne _ _ (by decide)).trans ((va_up_ne _ _ (by decide)).trans ((va_up_ne _ _ (by decide)).trans ((va_up_ne _ _ (by decide)).trans ((va_up_ne _ _ (by decide)).trans ((va_up_ne _ _ (by decide)).trans hW31))))))))))))) (((va_up_ne _ _ (by decide)).trans (((hfq46 _ (by omega) (by omega) (by omega))).trans ((va_up_ne _ _ (by decide)).trans ((va_up_ne _ _ (by decide)).trans ((va_up_ne _ _ (by decide)).trans (((hfq31 _ (by omega) (by omega) (by omega))).trans ((va_up_ne _ _ (by decide)).trans ((va_up_ne _ _ (by decide)).trans ((va_up_ne _ _ (by decide)).trans ((va_up_ne _ _ (by decide)).trans ((va_up_ne _ _ (by decide)).trans ((va_up_ne _ _ (by decide)).trans hW28))))))))))))) ((va_up_self ..))
                · have hzf : (zf = 1 ∧ lead u d (E + 1 - (m : Int)) G) ∨ (zf = 0 ∧ ¬ lead u d (E + 1 - (m : Int)) G) := hzf
                  have hzs : (zs = 1 ∧ lead u d (E + 1 - (m : Int)) (G + 1)) ∨ (zs = 0 ∧ ¬ lead u d (E + 1 - (m : Int)) (G + 1)) := hzs
                  have hc1 : cc < 0 ↔ u * 10 ^ ((m : Int) - 1 - E).toNat % (d * 10 ^ (-((m : Int) - 1 - E)).toNat) * 2 < d * 10 ^ (-((m : Int) - 1 - E)).toNat := hc1
                  have hc2 : cc = 0 ↔ u * 10 ^ ((m : Int) - 1 - E).toNat % (d * 10 ^ (-((m : Int) - 1 - E)).toNat) * 2 = d * 10 ^ (-((m : Int) - 1 - E)).toNat := hc2
                  intro hor
                  exact hsa (by rcases hzf with w | w; exact w.2; omega) (Or.inr (Or.inl (hc1.mp (by omega))))
              · refine J_iload 3 d_M_shortest_141 rfl ?_
                refine J_ifne (tgt := 159) d_M_shortest_143 (by decide) ⟨by omega, by omega⟩ (fun c143 => ?_) (fun c143 => ?_)
                · refine J_pick (lv' := [(0, .ref (ad 98)), (1, .int (iI (a : Int))), (2, .int (iI E)), (3, .int (iI (m : Int))), (5, .int (iI zf)), (6, .int (iI zs))]) [4, 5, 6, 7, 2, 1] rfl ?_
                  have hR98 := (reg_w1 (hzz.1 _) (reg_w1 ((hzz_up hzz).1 _) hR45))
                  refine lab159 (G + 1) bh47 bl48 b43 W44 ?_ (by omega) hR98 (fun k hk => ((show (W44) k = W44 k from by rfl).trans ((hfq46 k (by omega) (by omega) (by omega)).trans ((show (va_up (va_up (va_up W29 16 G) 32 1) 27 (G + 1)) k = W29 k from by rw [va_up_ne _ _ (by omega), va_up_ne _ _ (by omega), va_up_ne _ _ (by omega)]).trans ((hfq31 k (by omega) (by omega) (by omega)).trans ((show (va_up (va_up (va_up (va_up (va_up (va_up W1 22 (X * 10 ^ (((m : Int) - 1) - E).toNat)) 23 (Y * 10 ^ (-(((m : Int) - 1) - E)).toNat)) 26 j12) 25 (((X * 10 ^ (((m : Int) - 1) - E).toNat) % (Y * 10 ^ (-(((m : Int) - 1) - E)).toNat)) * 2 ^ 1)) 24 G) 27 G) k = W1 k from by rw [va_up_ne _ _ (by omega), va_up_ne _ _ (by omega), va_up_ne _ _ (by omega), va_up_ne _ _ (by omega), va_up_ne _ _ (by omega), va_up_ne _ _ (by omega)]).trans ((hfW k hk).trans (show (V) k = V k from by rfl)))))))) ((((hfq46 _ (by omega) (by omega) (by omega))).trans ((va_up_ne _ _ (by decide)).trans ((va_up_ne _ _ (by decide)).trans ((va_up_ne _ _ (by decide)).trans (((hfq31 _ (by omega) (by omega) (by omega))).trans ((va_up_ne _ _ (by decide)).trans ((va_up_ne _ _ (by decide)).trans ((va_up_ne _ _ (by decide)).trans ((va_up_ne _ _ (by decide)).trans ((va_up_ne _ _ (by decide)).trans ((va_up_ne _ _ (by decide)).trans hW31)))))))))))) ((((hfq46 _ (by omega) (by omega) (by omega))).trans ((va_up_ne _ _ (by decide)).trans ((va_up_ne _ _ (by decide)).trans ((va_up_ne _ _ (by decide)).trans (((hfq31 _ (by omega) (by omega) (by omega))).trans ((va_up_ne _ _ (by decide)).trans ((va_up_ne _ _ (by decide)).trans ((va_up_ne _ _ (by decide)).trans ((va_up_ne _ _ (by decide)).trans ((va_up_ne _ _ (by decide)).trans ((va_up_ne _ _ (by decide)).trans hW28)))))))))))) ((((hfq46 _ (by omega) (by omega) (by omega))).trans (va_up_self ..)))
                  · have hzf : (zf = 1 ∧ lead u d (E + 1 - (m : Int)) G) ∨ (zf = 0 ∧ ¬ lead u d (E + 1 - (m : Int)) G) := hzf
                    have hzs : (zs = 1 ∧ lead u d (E + 1 - (m : Int)) (G + 1)) ∨ (zs = 0 ∧ ¬ lead u d (E + 1 - (m : Int)) (G + 1)) := hzs
                    have hc1 : cc < 0 ↔ u * 10 ^ ((m : Int) - 1 - E).toNat % (d * 10 ^ (-((m : Int) - 1 - E)).toNat) * 2 < d * 10 ^ (-((m : Int) - 1 - E)).toNat := hc1
                    have hc2 : cc = 0 ↔ u * 10 ^ ((m : Int) - 1 - E).toNat % (d * 10 ^ (-((m : Int) - 1 - E)).toNat) * 2 = d * 10 ^ (-((m : Int) - 1 - E)).toNat := hc2
                    intro hor
                    exact hsb (by rcases hzs with w | w; exact w.2; omega) (fun w => by rcases w.2 with w2 | w2; exact absurd (hc1.mpr w2) (by omega); exact absurd (hc2.mpr w2.1) (by omega))
                · refine J_iload 0 d_M_shortest_146 rfl ?_
                  refine J_ifeq (tgt := 159) d_M_shortest_148 (by decide) ⟨by omega, by omega⟩ (fun c148 => ?_) (fun c148 => ?_)
                  · exact absurd c148 (by decide)
                  · refine J_aload_n 4 d_M_shortest_151 rfl rfl ?_
                    refine J_bipush d_M_shortest_152 (i8_ok (by decide)) ?_
                    refine J_bipush d_M_shortest_154 (i8_ok (by decide)) ?_
                    refine J_callVv cw_M_58 nh_M_copy pn_M_copy rfl rfl (by omega) (by rw [va_up_ne _ _ (by decide), va_up_ne _ _ (by decide), va_up_self]) (As := [.int (iI 16), .int (iI 27)]) (rest := []) rfl (Nat.le_of_ble_eq_true rfl) ⟨by decide, by decide⟩ rfl ⟨by decide, by decide⟩ d_M_shortest_156 (k_M_copy hfl (a := 16) (b := 27) (hh := bh47) (ll := bl48) (V := W44) (br := va_up (va_up br 22 0) 23 0) (hN := hN) (hO := (by rw [va_up_ne _ _ (by decide), va_up_ne _ _ (by decide), va_up_self])) (hB := (by rw [va_up_ne _ _ (by decide), va_up_self])) (hL := (by rw [va_up_self])) (hR := hR45) (ha := by omega) (hb := by omega) (hxa := (((hfq46 _ (by omega) (by omega) (by omega))).trans ((va_up_ne _ _ (by decide)).trans ((va_up_ne _ _ (by decide)).trans (va_up_self ..))))) (bra := ((va_up_ne _ _ (by decide)).trans ((va_up_ne _ _ (by decide)).trans (hzz.2 16 (by decide) (by decide)))))) (fun  F21 hq => ?_)
                    obtain ⟨bh99, bl100, hR101, eF21⟩ := hq
                    refine J_eqF (F2 := va_up (va_up (va_up F 98 (oM ad (va_up f 8 b43) v)) 99 (.inl (g 0, 858, .inl (aI bh99)))) 100 (.inl (g 0, 33, .inl (aI bl100)))) (eF21.trans (Eq.trans (congrArg (fun q : Nat → va_E => va_up q 100 (.inl (g 0, 33, .inl (aI bl100)))) (up_in1 (by decide))) (up_in0))) ?_
                    have hR104 := reg_w1 ((hzz_up (hzz_up hzz)).1 _) hR101
                    refine J_pick (lv' := [(0, .ref (ad 98)), (1, .int (iI (a : Int))), (2, .int (iI E)), (3, .int (iI (m : Int))), (5, .int (iI zf)), (6, .int (iI zs))]) [4, 5, 6, 7, 2, 1] rfl ?_
                    have hR105 := (reg_w1 (hzz.1 _) (reg_w1 ((hzz_up hzz).1 _) hR104))
                    refine lab159 G bh99 bl100 b43 (va_up W44 27 G) ?_ (by omega) hR105 (fun k hk => ((show (va_up W44 27 G) k = W44 k from by rw [va_up_ne _ _ (by omega)]).trans ((hfq46 k (by omega) (by omega) (by omega)).trans ((show (va_up (va_up (va_up W29 16 G) 32 1) 27 (G + 1)) k = W29 k from by rw [va_up_ne _ _ (by omega), va_up_ne _ _ (by omega), va_up_ne _ _ (by omega)]).trans ((hfq31 k (by omega) (by omega) (by omega)).trans ((show (va_up (va_up (va_up (va_up (va_up (va_up W1 22 (X * 10 ^ (((m : Int) - 1) - E).toNat)) 23 (Y * 10 ^ (-(((m : Int) - 1) - E)).toNat)) 26 j12) 25 (((X * 10 ^ (((m : Int) - 1) - E).toNat) % (Y * 10 ^ (-(((m : Int) - 1) - E)).toNat)) * 2 ^ 1)) 24 G) 27 G) k = W1 k from by rw [va_up_ne _ _ (by omega), va_up_ne _ _ (by omega), va_up_ne _ _ (by omega), va_up_ne _ _ (by omega), va_up_ne _ _ (by omega), va_up_ne _ _ (by omega)]).trans ((hfW k hk).trans (show (V) k = V k from by rfl)))))))) (((va_up_ne _ _ (by decide)).trans (((hfq46 _ (by omega) (by omega) (by omega))).trans ((va_up_ne _ _ (by decide)).trans ((va_up_ne _ _ (by decide)).trans ((va_up_ne _ _ (by decide)).trans (((hfq31 _ (by omega) (by omega) (by omega))).trans ((va_up_ne _ _ (by decide)).trans ((va_up_ne _ _ (by decide)).trans ((va_up_ne _ _ (by decide)).trans ((va_up_ne _ _ (by decide)).trans ((va_up_ne _ _ (by decide)).trans ((va_up_ne _ _ (by decide)).trans hW31))))))))))))) (((va_up_ne _ _ (by decide)).trans (((hfq46 _ (by omega) (by omega) (by omega))).trans ((va_up_ne _ _ (by decide)).trans ((va_up_ne _ _ (by decide)).trans ((va_up_ne _ _ (by decide)).trans (((hfq31 _ (by omega) (by omega) (by omega))).trans ((va_up_ne _ _ (by decide)).trans ((va_up_ne _ _ (by decide)).trans ((va_up_ne _ _ (by decide)).trans ((va_up_ne _ _ (by decide)).trans ((va_up_ne _ _ (by decide)).trans ((va_up_ne _ _ (by decide)).trans hW28))))))))))))) ((va_up_self ..))
                    · have hzf : (zf = 1 ∧ lead u d (E + 1 - (m : Int)) G) ∨ (zf = 0 ∧ ¬ lead u d (E + 1 - (m : Int)) G) := hzf
                      have hzs : (zs = 1 ∧ lead u d (E + 1 - (m : Int)) (G + 1)) ∨ (zs = 0 ∧ ¬ lead u d (E + 1 - (m : Int)) (G + 1)) := hzs
                      have hc1 : cc < 0 ↔ u * 10 ^ ((m : Int) - 1 - E).toNat % (d * 10 ^ (-((m : Int) - 1 - E)).toNat) * 2 < d * 10 ^ (-((m : Int) - 1 - E)).toNat := hc1
                      have hc2 : cc = 0 ↔ u * 10 ^ ((m : Int) - 1 - E).toNat % (d * 10 ^ (-((m : Int) - 1 - E)).toNat) * 2 = d * 10 ^ (-((m : Int) - 1 - E)).toNat := hc2
                      intro hor
                      exact hsa (by rcases hzf with w | w; exact w.2; omega) (Or.inr (Or.inr ⟨hc2.mp (by omega), by omega⟩))
  exact loop21 ((18 - 1) + 1) 1 bh8 bl8 (f 8) W8 (by decide) (by decide) rfl hR8 (fun k hk => ((show (W8) k = W8 k from by rfl).trans ((hW8 k (by omega) (by omega)).trans (show (va_up (va_up V 28 Y) 31 X) k = V k from by rw [va_up_ne _ _ (by omega), va_up_ne _ _ (by omega)])))) ((((hW8 _ (by omega) (by omega))).trans (va_up_self ..))) ((((hW8 _ (by omega) (by omega))).trans ((va_up_ne _ _ (by decide)).trans (va_up_self ..)))) (Nat.lt_succ_self _)
