/-! the Model: sums, products, floors -/
theorem lnw_m {a b i j : Nat} (ha : lnw 28 a ≤ i) (hb : lnw 28 b ≤ j) : lnw 28 (a * b) ≤ i + j := Nat.le_trans lnw_mul8 (Nat.add_le_add ha hb)
def plM (xs ys : Int) (A B : Nat) : Nat := if xs = ys then A + B else if B ≤ A then A - B else B - A
def plS (xs ys : Int) (A B : Nat) : Int := if plM xs ys A B = 0 then 0 else if xs = ys then xs else if B ≤ A then xs else ys
def flM (rs : Int) (A B : Nat) : Nat := if rs = 1 ∧ A % B ≠ 0 then A / B + 1 else A / B
def flS (rs : Int) (A B : Nat) : Int := if flM rs A B = 0 then 0 else rs
theorem plM_le {xs ys : Int} {A B : Nat} : plM xs ys A B ≤ A + B := by unfold plM; split; omega; split <;> omega
theorem flM_le {rs : Int} {A B : Nat} : flM rs A B ≤ A + 1 := by
  have := Nat.div_le_self A B
  unfold flM; split <;> omega
theorem pl01 {xs ys : Int} {A B : Nat} (hx : xs = 0 ∨ xs = 1) (hy : ys = 0 ∨ ys = 1) : plS xs ys A B = 0 ∨ plS xs ys A B = 1 := by unfold plS; split; omega; split; omega; split <;> omega
theorem fl01 {rs : Int} {A B : Nat} (h : rs = 0 ∨ rs = 1) : flS rs A B = 0 ∨ flS rs A B = 1 := by unfold flS; split <;> omega
set_option maxRecDepth 100000 in
set_option maxHeartbeats 4000000 in
theorem c_M_product {l : Launch} (hfl : l.flags = flags0) {D : va_G} {g : Nat → ClassId} {ad : Nat → Nat} {N : Nat} {F : Nat → va_E} {hh ll f : Nat → Int} {v : UInt64} {V : Nat → Nat} {br : Nat → Nat} {a b c d : Nat} {xs ys : Int}
    (hN : 109 ≤ N) (hO : F 98 = oM ad f v) (hB : F 99 = aB g hh) (hL : F 100 = aL g ll) (hR : reg br hh ll V) (hzz : okB br) (h16 : V 16 = a) (h17 : V 17 = b) (h18 : V 18 = c) (h19 : V 19 = d) (h5 : f 5 = xs) (h6 : f 6 = ys) (hxs : xs = 0 ∨ xs = 1) (hys : ys = 0 ∨ ys = 1) (hl1 : lnw 28 a + lnw 28 c ≤ 26 ∧ lnw 28 b + lnw 28 d ≤ 26 ∧ lnw 28 a + lnw 28 d ≤ 26 ∧ lnw 28 b + lnw 28 c ≤ 26) :
    JC l y_M_product b_M_product 1 (Option.none : Option Jvm.ClassFile.FieldType) rm_M_product (0, 0) D jCl (jTys g) ad N F [.ref (ad 98)] (jv ad N (fun F' => ∃ hh' ll' : Nat → Int, reg br hh' ll' (va_up (va_up V 20 (a * c)) 21 (b * d)) ∧ F' = va_up (va_up (va_up F 98 (oM ad (va_up f 7 (if xs = ys then 0 else 1)) v)) 99 (aB g hh')) 100 (aL g ll'))) := by
  refine JC.go hfl (own := "NumberTowerModel") (lv := [(0, .ref (ad 98))]) rfl (by decide +kernel) (Nat.le_of_ble_eq_true rfl) rfl (fun A => ?_)
  refine J_aload_n 0 d_M_product_0 rfl rfl ?_
  refine J_bipush d_M_product_1 (i8_ok (by decide)) ?_
  refine J_bipush d_M_product_3 (i8_ok (by decide)) ?_
  refine J_bipush d_M_product_5 (i8_ok (by decide)) ?_
  refine J_callVv cw_M_146 nh_M_times pn_M_times rfl rfl (by omega) hO (As := [.int (iI 16), .int (iI 18), .int (iI 20)]) (rest := []) rfl (Nat.le_of_ble_eq_true rfl) ⟨by decide, by decide⟩ rfl ⟨by decide, by decide⟩ d_M_product_7 (k_M_times hfl (a := 16) (b := 18) (t := 20) (hh := hh) (ll := ll) (V := V) (br := br) (hN := hN) (hO := hO) (hB := hB) (hL := hL) (hR := hR) (ha := by omega) (hb := by omega) (ht := by omega) (hxa := h16) (bra := (hzz.2 16 (by decide) (by decide))) (hxb := h18) (brb := (hzz.2 18 (by decide) (by decide))) (hat := by decide) (hbt := by decide) (hs := by omega)) (fun  F1 hq => ?_)
  obtain ⟨bh1, bl2, hR3, eF1⟩ := hq
  refine J_eqF (F2 := va_up (va_up F 99 (.inl (g 0, 858, .inl (aI bh1)))) 100 (.inl (g 0, 33, .inl (aI bl2)))) eF1 ?_
  have hR6 := reg_w1 (hzz.1 _) hR3
  refine J_aload_n 0 d_M_product_10 rfl rfl ?_
  refine J_bipush d_M_product_11 (i8_ok (by decide)) ?_
  refine J_bipush d_M_product_13 (i8_ok (by decide)) ?_
  refine J_bipush d_M_product_15 (i8_ok (by decide)) ?_
  refine J_callVv cw_M_146 nh_M_times pn_M_times rfl rfl (by omega) (by rw [va_up_ne _ _ (by decide), va_up_ne _ _ (by decide)]; exact hO) (As := [.int (iI 17), .int (iI 19), .int (iI 21)]) (rest := []) rfl (Nat.le_of_ble_eq_true rfl) ⟨by decide, by decide⟩ rfl ⟨by decide, by decide⟩ d_M_product_17 (k_M_times hfl (a := 17) (b := 19) (t := 21) (hh := bh1) (ll := bl2) (V := va_up V 20 (a * c)) (br := br) (hN := hN) (hO := (by rw [va_up_ne _ _ (by decide), va_up_ne _ _ (by decide)]; exact hO)) (hB := (by rw [va_up_ne _ _ (by decide), va_up_self])) (hL := (by rw [va_up_self])) (hR := hR6) (ha := by omega) (hb := by omega) (ht := by omega) (hxa := ((va_up_ne _ _ (by decide)).trans h17)) (bra := (hzz.2 17 (by decide) (by decide))) (hxb := ((va_up_ne _ _ (by decide)).trans h19)) (brb := (hzz.2 19 (by decide) (by decide))) (hat := by decide) (hbt := by decide) (hs := by omega)) (fun  F2 hq => ?_)
  obtain ⟨bh7, bl8, hR9, eF2⟩ := hq
  refine J_eqF (F2 := va_up (va_up F 99 (.inl (g 0, 858, .inl (aI bh7)))) 100 (.inl (g 0, 33, .inl (aI bl8)))) (eF2.trans (Eq.trans (congrArg (fun q : Nat → va_E => va_up q 100 (.inl (g 0, 33, .inl (aI bl8)))) (up_in1 (by decide))) (up_in0))) ?_
  have hR12 := reg_w1 (hzz.1 _) hR9
  refine J_aload_n 0 d_M_product_20 rfl rfl ?_
  refine J_aload_n 0 d_M_product_21 rfl rfl ?_
  refine gf_M_149 (by omega) (by rw [va_up_ne _ _ (by decide), va_up_ne _ _ (by decide)]; exact hO) rfl d_M_product_22 ?_
  refine J_topi (r := xs) (congrArg iI h5) ?_
  refine J_aload_n 0 d_M_product_25 rfl rfl ?_
  refine gf_M_152 (by omega) (by rw [va_up_ne _ _ (by decide), va_up_ne _ _ (by decide)]; exact hO) rfl d_M_product_26 ?_
  refine J_topi (r := ys) (congrArg iI h6) ?_
  refine J_if_icmpeq (tgt := 36) d_M_product_29 (by decide) ⟨by omega, by omega⟩ ⟨by omega, by omega⟩ (fun c29 => ?_) (fun c29 => ?_)
  · refine J_iconst d_M_product_36 ?_
    refine J_pick (lv' := []) [] rfl ?_
    have lab37 : ∀ (z : Int) (hz : z = if xs = ys then 0 else 1) , J l rm_M_product (0, 0) "NumberTowerModel" b_M_product 1 (Option.none : Option Jvm.ClassFile.FieldType) D jCl (jTys g) A (fun _ me => me.name = y_M_product.name) (jv ad N (fun F' => ∃ hh' ll' : Nat → Int, reg br hh' ll' (va_up (va_up V 20 (a * c)) 21 (b * d)) ∧ F' = va_up (va_up (va_up F 98 (oM ad (va_up f 7 (if xs = ys then 0 else 1)) v)) 99 (aB g hh')) 100 (aL g ll'))) ad N 0 0 37 [] [.int (iI z), .ref (ad 98)] (va_up (va_up F 99 (.inl (g 0, 858, .inl (aI bh7)))) 100 (.inl (g 0, 33, .inl (aI bl8)))) := by
      intro z hz
      refine pf_M_129 (by omega) (by rw [va_up_ne _ _ (by decide), va_up_ne _ _ (by decide)]; exact hO) (Nat.le_of_ble_eq_true rfl) (nb01 (by rw [hz]; split <;> omega)) d_M_product_37 ?_
      refine J_eqF (F2 := va_up (va_up (va_up F 99 (.inl (g 0, 858, .inl (aI bh7)))) 100 (.inl (g 0, 33, .inl (aI bl8)))) 98 (oM ad (va_up f 7 z) v)) rfl ?_
      refine J_eqF (F2 := va_up (va_up (va_up F 98 (oM ad (va_up f 7 z) v)) 99 (.inl (g 0, 858, .inl (aI bh7)))) 100 (.inl (g 0, 33, .inl (aI bl8)))) (Eq.trans (up_cm (by decide)) (congrArg (fun qq : Nat → va_E => va_up qq 100 (.inl (g 0, 33, .inl (aI bl8)))) (up_cm (by decide)))) ?_
      refine J_vret rfl d_M_product_40 ⟨by decide, by decide⟩ ?_
      exact ⟨rfl, rfl, rfl, _, _, hR12, by rw [hz]⟩
    exact lab37 (0 : Int) (by first | rw [if_pos (by omega)] | rw [if_neg (by omega)])
  · refine J_iconst d_M_product_32 ?_
    refine J_goto (tgt := 37) d_M_product_33 (by decide) ?_
    refine J_pick (lv' := []) [] rfl ?_
    have lab37 : ∀ (z : Int) (hz : z = if xs = ys then 0 else 1) , J l rm_M_product (0, 0) "NumberTowerModel" b_M_product 1 (Option.none : Option Jvm.ClassFile.FieldType) D jCl (jTys g) A (fun _ me => me.name = y_M_product.name) (jv ad N (fun F' => ∃ hh' ll' : Nat → Int, reg br hh' ll' (va_up (va_up V 20 (a * c)) 21 (b * d)) ∧ F' = va_up (va_up (va_up F 98 (oM ad (va_up f 7 (if xs = ys then 0 else 1)) v)) 99 (aB g hh')) 100 (aL g ll'))) ad N 0 0 37 [] [.int (iI z), .ref (ad 98)] (va_up (va_up F 99 (.inl (g 0, 858, .inl (aI bh7)))) 100 (.inl (g 0, 33, .inl (aI bl8)))) := by
      intro z hz
      refine pf_M_129 (by omega) (by rw [va_up_ne _ _ (by decide), va_up_ne _ _ (by decide)]; exact hO) (Nat.le_of_ble_eq_true rfl) (nb01 (by rw [hz]; split <;> omega)) d_M_product_37 ?_
      refine J_eqF (F2 := va_up (va_up (va_up F 99 (.inl (g 0, 858, .inl (aI bh7)))) 100 (.inl (g 0, 33, .inl (aI bl8)))) 98 (oM ad (va_up f 7 z) v)) rfl ?_
      refine J_eqF (F2 := va_up (va_up (va_up F 98 (oM ad (va_up f 7 z) v)) 99 (.inl (g 0, 858, .inl (aI bh7)))) 100 (.inl (g 0, 33, .inl (aI bl8)))) (Eq.trans (up_cm (by decide)) (congrArg (fun qq : Nat → va_E => va_up qq 100 (.inl (g 0, 33, .inl (aI bl8)))) (up_cm (by decide)))) ?_
      refine J_vret rfl d_M_product_40 ⟨by decide, by decide⟩ ?_
      exact ⟨rfl, rfl, rfl, _, _, hR12, by rw [hz]⟩
    exact lab37 (1 : Int) (by first | rw [if_pos (by omega)] | rw [if_neg (by omega)])
set_option maxRecDepth 100000 in
set_option maxHeartbeats 4000000 in
theorem c_M_ratio {l : Launch} (hfl : l.flags = flags0) {D : va_G} {g : Nat → ClassId} {ad : Nat → Nat} {N : Nat} {F : Nat → va_E} {hh ll f : Nat → Int} {v : UInt64} {V : Nat → Nat} {br : Nat → Nat} {a b c d : Nat} {xs ys : Int}
    (hN : 109 ≤ N) (hO : F 98 = oM ad f v) (hB : F 99 = aB g hh) (hL : F 100 = aL g ll) (hR : reg br hh ll V) (hzz : okB br) (h16 : V 16 = a) (h17 : V 17 = b) (h18 : V 18 = c) (h19 : V 19 = d) (h5 : f 5 = xs) (h6 : f 6 = ys) (hxs : xs = 0 ∨ xs = 1) (hys : ys = 0 ∨ ys = 1) (hl1 : lnw 28 a + lnw 28 c ≤ 26 ∧ lnw 28 b + lnw 28 d ≤ 26 ∧ lnw 28 a + lnw 28 d ≤ 26 ∧ lnw 28 b + lnw 28 c ≤ 26) :
    JC l y_M_ratio b_M_ratio 1 (Option.none : Option Jvm.ClassFile.FieldType) rm_M_ratio (0, 0) D jCl (jTys g) ad N F [.ref (ad 98)] (jv ad N (fun F' => ∃ hh' ll' : Nat → Int, reg br hh' ll' (va_up (va_up V 20 (a * d)) 21 (b * c)) ∧ F' = va_up (va_up (va_up F 98 (oM ad (va_up f 7 (if xs = ys then 0 else 1)) v)) 99 (aB g hh')) 100 (aL g ll'))) := by
  refine JC.go hfl (own := "NumberTowerModel") (lv := [(0, .ref (ad 98))]) rfl (by decide +kernel) (Nat.le_of_ble_eq_true rfl) rfl (fun A => ?_)
  refine J_aload_n 0 d_M_ratio_0 rfl rfl ?_
  refine J_bipush d_M_ratio_1 (i8_ok (by decide)) ?_
  refine J_bipush d_M_ratio_3 (i8_ok (by decide)) ?_
  refine J_bipush d_M_ratio_5 (i8_ok (by decide)) ?_
  refine J_callVv cw_M_146 nh_M_times pn_M_times rfl rfl (by omega) hO (As := [.int (iI 16), .int (iI 19), .int (iI 20)]) (rest := []) rfl (Nat.le_of_ble_eq_true rfl) ⟨by decide, by decide⟩ rfl ⟨by decide, by decide⟩ d_M_ratio_7 (k_M_times hfl (a := 16) (b := 19) (t := 20) (hh := hh) (ll := ll) (V := V) (br := br) (hN := hN) (hO := hO) (hB := hB) (hL := hL) (hR := hR) (ha := by omega) (hb := by omega) (ht := by omega) (hxa := h16) (bra := (hzz.2 16 (by decide) (by decide))) (hxb := h19) (brb := (hzz.2 19 (by decide) (by decide))) (hat := by decide) (hbt := by decide) (hs := by omega)) (fun  F1 hq => ?_)
  obtain ⟨bh13, bl14, hR15, eF1⟩ := hq
  refine J_eqF (F2 := va_up (va_up F 99 (.inl (g 0, 858, .inl (aI bh13)))) 100 (.inl (g 0, 33, .inl (aI bl14)))) eF1 ?_
  have hR18 := reg_w1 (hzz.1 _) hR15
  refine J_aload_n 0 d_M_ratio_10 rfl rfl ?_
  refine J_bipush d_M_ratio_11 (i8_ok (by decide)) ?_
  refine J_bipush d_M_ratio_13 (i8_ok (by decide)) ?_
  refine J_bipush d_M_ratio_15 (i8_ok (by decide)) ?_
  refine J_callVv cw_M_146 nh_M_times pn_M_times rfl rfl (by omega) (by rw [va_up_ne _ _ (by decide), va_up_ne _ _ (by decide)]; exact hO) (As := [.int (iI 17), .int (iI 18), .int (iI 21)]) (rest := []) rfl (Nat.le_of_ble_eq_true rfl) ⟨by decide, by decide⟩ rfl ⟨by decide, by decide⟩ d_M_ratio_17 (k_M_times hfl (a := 17) (b := 18) (t := 21) (hh := bh13) (ll := bl14) (V := va_up V 20 (a * d)) (br := br) (hN := hN) (hO := (by rw [va_up_ne _ _ (by decide), va_up_ne _ _ (by decide)]; exact hO)) (hB := (by rw [va_up_ne _ _ (by decide), va_up_self])) (hL := (by rw [va_up_self])) (hR := hR18) (ha := by omega) (hb := by omega) (ht := by omega) (hxa := ((va_up_ne _ _ (by decide)).trans h17)) (bra := (hzz.2 17 (by decide) (by decide))) (hxb := ((va_up_ne _ _ (by decide)).trans h18)) (brb := (hzz.2 18 (by decide) (by decide))) (hat := by decide) (hbt := by decide) (hs := by omega)) (fun  F2 hq => ?_)
  obtain ⟨bh19, bl20, hR21, eF2⟩ := hq
  refine J_eqF (F2 := va_up (va_up F 99 (.inl (g 0, 858, .inl (aI bh19)))) 100 (.inl (g 0, 33, .inl (aI bl20)))) (eF2.trans (Eq.trans (congrArg (fun q : Nat → va_E => va_up q 100 (.inl (g 0, 33, .inl (aI bl20)))) (up_in1 (by decide))) (up_in0))) ?_
  have hR24 := reg_w1 (hzz.1 _) hR21
  refine J_aload_n 0 d_M_ratio_20 rfl rfl ?_
  refine J_aload_n 0 d_M_ratio_21 rfl rfl ?_
  refine gf_M_149 (by omega) (by rw [va_up_ne _ _ (by decide), va_up_ne _ _ (by decide)]; exact hO) rfl d_M_ratio_22 ?_
  refine J_topi (r := xs) (congrArg iI h5) ?_
  refine J_aload_n 0 d_M_ratio_25 rfl rfl ?_
  refine gf_M_152 (by omega) (by rw [va_up_ne _ _ (by decide), va_up_ne _ _ (by decide)]; exact hO) rfl d_M_ratio_26 ?_
  refine J_topi (r := ys) (congrArg iI h6) ?_
  refine J_if_icmpeq (tgt := 36) d_M_ratio_29 (by decide) ⟨by omega, by omega⟩ ⟨by omega, by omega⟩ (fun c29 => ?_) (fun c29 => ?_)
  · refine J_iconst d_M_ratio_36 ?_
    refine J_pick (lv' := []) [] rfl ?_
    have lab37 : ∀ (z : Int) (hz : z = if xs = ys then 0 else 1) , J l rm_M_ratio (0, 0) "NumberTowerModel" b_M_ratio 1 (Option.none : Option Jvm.ClassFile.FieldType) D jCl (jTys g) A (fun _ me => me.name = y_M_ratio.name) (jv ad N (fun F' => ∃ hh' ll' : Nat → Int, reg br hh' ll' (va_up (va_up V 20 (a * d)) 21 (b * c)) ∧ F' = va_up (va_up (va_up F 98 (oM ad (va_up f 7 (if xs = ys then 0 else 1)) v)) 99 (aB g hh')) 100 (aL g ll'))) ad N 0 0 37 [] [.int (iI z), .ref (ad 98)] (va_up (va_up F 99 (.inl (g 0, 858, .inl (aI bh19)))) 100 (.inl (g 0, 33, .inl (aI bl20)))) := by
      intro z hz
      refine pf_M_129 (by omega) (by rw [va_up_ne _ _ (by decide), va_up_ne _ _ (by decide)]; exact hO) (Nat.le_of_ble_eq_true rfl) (nb01 (by rw [hz]; split <;> omega)) d_M_ratio_37 ?_
      refine J_eqF (F2 := va_up (va_up (va_up F 99 (.inl (g 0, 858, .inl (aI bh19)))) 100 (.inl (g 0, 33, .inl (aI bl20)))) 98 (oM ad (va_up f 7 z) v)) rfl ?_
      refine J_eqF (F2 := va_up (va_up (va_up F 98 (oM ad (va_up f 7 z) v)) 99 (.inl (g 0, 858, .inl (aI bh19)))) 100 (.inl (g 0, 33, .inl (aI bl20)))) (Eq.trans (up_cm (by decide)) (congrArg (fun qq : Nat → va_E => va_up qq 100 (.inl (g 0, 33, .inl (aI bl20)))) (up_cm (by decide)))) ?_
      refine J_vret rfl d_M_ratio_40 ⟨by decide, by decide⟩ ?_
      exact ⟨rfl, rfl, rfl, _, _, hR24, by rw [hz]⟩
    exact lab37 (0 : Int) (by first | rw [if_pos (by omega)] | rw [if_neg (by omega)])
  · refine J_iconst d_M_ratio_32 ?_
    refine J_goto (tgt := 37) d_M_ratio_33 (by decide) ?_
    refine J_pick (lv' := []) [] rfl ?_
    have lab37 : ∀ (z : Int) (hz : z = if xs = ys then 0 else 1) , J l rm_M_ratio (0, 0) "NumberTowerModel" b_M_ratio 1 (Option.none : Option Jvm.ClassFile.FieldType) D jCl (jTys g) A (fun _ me => me.name = y_M_ratio.name) (jv ad N (fun F' => ∃ hh' ll' : Nat → Int, reg br hh' ll' (va_up (va_up V 20 (a * d)) 21 (b * c)) ∧ F' = va_up (va_up (va_up F 98 (oM ad (va_up f 7 (if xs = ys then 0 else 1)) v)) 99 (aB g hh')) 100 (aL g ll'))) ad N 0 0 37 [] [.int (iI z), .ref (ad 98)] (va_up (va_up F 99 (.inl (g 0, 858, .inl (aI bh19)))) 100 (.inl (g 0, 33, .inl (aI bl20)))) := by
      intro z hz
      refine pf_M_129 (by omega) (by rw [va_up_ne _ _ (by decide), va_up_ne _ _ (by decide)]; exact hO) (Nat.le_of_ble_eq_true rfl) (nb01 (by rw [hz]; split <;> omega)) d_M_ratio_37 ?_
      refine J_eqF (F2 := va_up (va_up (va_up F 99 (.inl (g 0, 858, .inl (aI bh19)))) 100 (.inl (g 0, 33, .inl (aI bl20)))) 98 (oM ad (va_up f 7 z) v)) rfl ?_
      refine J_eqF (F2 := va_up (va_up (va_up F 98 (oM ad (va_up f 7 z) v)) 99 (.inl (g 0, 858, .inl (aI bh19)))) 100 (.inl (g 0, 33, .inl (aI bl20)))) (Eq.trans (up_cm (by decide)) (congrArg (fun qq : Nat → va_E => va_up qq 100 (.inl (g 0, 33, .inl (aI bl20)))) (up_cm (by decide)))) ?_
      refine J_vret rfl d_M_ratio_40 ⟨by decide, by decide⟩ ?_
      exact ⟨rfl, rfl, rfl, _, _, hR24, by rw [hz]⟩
    exact lab37 (1 : Int) (by first | rw [if_pos (by omega)] | rw [if_neg (by omega)])
set_option maxRecDepth 100000 in
set_option maxHeartbeats 4000000 in
theorem c_M_plus {l : Launch} (hfl : l.flags = flags0) {D : va_G} {g : Nat → ClassId} {ad : Nat → Nat} {N : Nat} {F : Nat → va_E} {hh ll f : Nat → Int} {v : UInt64} {V : Nat → Nat} {br : Nat → Nat} {a b c d : Nat} {xs ys : Int}
    (hN : 109 ≤ N) (hO : F 98 = oM ad f v) (hB : F 99 = aB g hh) (hL : F 100 = aL g ll) (hR : reg br hh ll V) (hzz : okB br) (h16 : V 16 = a) (h17 : V 17 = b) (h18 : V 18 = c) (h19 : V 19 = d) (h5 : f 5 = xs) (h6 : f 6 = ys) (hxs : xs = 0 ∨ xs = 1) (hys : ys = 0 ∨ ys = 1) (hl1 : lnw 28 a + lnw 28 d ≤ 24 ∧ lnw 28 c + lnw 28 b ≤ 24 ∧ lnw 28 b + lnw 28 d ≤ 24) :
    JC l y_M_plus b_M_plus 1 (Option.none : Option Jvm.ClassFile.FieldType) rm_M_plus (0, 0) D jCl (jTys g) ad N F [.ref (ad 98)] (jv ad N (fun F' => ∃ hh' ll' : Nat → Int, reg br hh' ll' (va_up (va_up (va_up (va_up V 22 (a * d)) 23 (c * b)) 21 (b * d)) 20 (plM xs ys (a * d) (c * b))) ∧ F' = va_up (va_up (va_up F 98 (oM ad (va_up f 7 (plS xs ys (a * d) (c * b))) v)) 99 (aB g hh')) 100 (aL g ll'))) := by
  have hA : lnw 28 (a * d) ≤ 25 := Nat.le_trans lnw_mul8 (by omega)
  have hB2 : lnw 28 (c * b) ≤ 25 := Nat.le_trans lnw_mul8 (by omega)
  have hcg := cmpN_ge (a := a * d) (b := c * b)
  have hcr := cmpN_rng (a * d) (c * b)
  refine JC.go hfl (own := "NumberTowerModel") (lv := [(0, .ref (ad 98))]) rfl (by decide +kernel) (Nat.le_of_ble_eq_true rfl) rfl (fun A => ?_)
  refine J_aload_n 0 d_M_plus_0 rfl rfl ?_
  refine J_bipush d_M_plus_1 (i8_ok (by decide)) ?_
  refine J_bipush d_M_plus_3 (i8_ok (by decide)) ?_
  refine J_bipush d_M_plus_5 (i8_ok (by decide)) ?_
  refine J_callVv cw_M_146 nh_M_times pn_M_times rfl rfl (by omega) hO (As := [.int (iI 16), .int (iI 19), .int (iI 22)]) (rest := []) rfl (Nat.le_of_ble_eq_true rfl) ⟨by decide, by decide⟩ rfl ⟨by decide, by decide⟩ d_M_plus_7 (k_M_times hfl (a := 16) (b := 19) (t := 22) (hh := hh) (ll := ll) (V := V) (br := br) (hN := hN) (hO := hO) (hB := hB) (hL := hL) (hR := hR) (ha := by omega) (hb := by omega) (ht := by omega) (hxa := h16) (bra := (hzz.2 16 (by decide) (by decide))) (hxb := h19) (brb := (hzz.2 19 (by decide) (by decide))) (hat := by decide) (hbt := by decide) (hs := by omega)) (fun  F1 hq => ?_)
  obtain ⟨bh25, bl26, hR27, eF1⟩ := hq
  refine J_eqF (F2 := va_up (va_up F 99 (.inl (g 0, 858, .inl (aI bh25)))) 100 (.inl (g 0, 33, .inl (aI bl26)))) eF1 ?_
  refine J_aload_n 0 d_M_plus_10 rfl rfl ?_
  refine J_bipush d_M_plus_11 (i8_ok (by decide)) ?_
  refine J_bipush d_M_plus_13 (i8_ok (by decide)) ?_
  refine J_bipush d_M_plus_15 (i8_ok (by decide)) ?_
  refine J_callVv cw_M_146 nh_M_times pn_M_times rfl rfl (by omega) (by rw [va_up_ne _ _ (by decide), va_up_ne _ _ (by decide)]; exact hO) (As := [.int (iI 18), .int (iI 17), .int (iI 23)]) (rest := []) rfl (Nat.le_of_ble_eq_true rfl) ⟨by decide, by decide⟩ rfl ⟨by decide, by decide⟩ d_M_plus_17 (k_M_times hfl (a := 18) (b := 17) (t := 23) (hh := bh25) (ll := bl26) (V := va_up V 22 (a * d)) (br := va_up br 22 0) (hN := hN) (hO := (by rw [va_up_ne _ _ (by decide), va_up_ne _ _ (by decide)]; exact hO)) (hB := (by rw [va_up_ne _ _ (by decide), va_up_self])) (hL := (by rw [va_up_self])) (hR := hR27) (ha := by omega) (hb := by omega) (ht := by omega) (hxa := ((va_up_ne _ _ (by decide)).trans h18)) (bra := ((va_up_ne _ _ (by decide)).trans (hzz.2 18 (by decide) (by decide)))) (hxb := ((va_up_ne _ _ (by decide)).trans h17)) (brb := ((va_up_ne _ _ (by decide)).trans (hzz.2 17 (by decide) (by decide)))) (hat := by decide) (hbt := by decide) (hs := by omega)) (fun  F2 hq => ?_)
  obtain ⟨bh30, bl31, hR32, eF2⟩ := hq
  refine J_eqF (F2 := va_up (va_up F 99 (.inl (g 0, 858, .inl (aI bh30)))) 100 (.inl (g 0, 33, .inl (aI bl31)))) (eF2.trans (Eq.trans (congrArg (fun q : Nat → va_E => va_up q 100 (.inl (g 0, 33, .inl (aI bl31)))) (up_in1 (by decide))) (up_in0))) ?_
  refine J_aload_n 0 d_M_plus_20 rfl rfl ?_
  refine J_bipush d_M_plus_21 (i8_ok (by decide)) ?_
  refine J_bipush d_M_plus_23 (i8_ok (by decide)) ?_
  refine J_bipush d_M_plus_25 (i8_ok (by decide)) ?_
  refine J_callVv cw_M_146 nh_M_times pn_M_times rfl rfl (by omega) (by rw [va_up_ne _ _ (by decide), va_up_ne _ _ (by decide)]; exact hO) (As := [.int (iI 17), .int (iI 19), .int (iI 21)]) (rest := []) rfl (Nat.le_of_ble_eq_true rfl) ⟨by decide, by decide⟩ rfl ⟨by decide, by decide⟩ d_M_plus_27 (k_M_times hfl (a := 17) (b := 19) (t := 21) (hh := bh30) (ll := bl31) (V := va_up (va_up V 22 (a * d)) 23 (c * b)) (br := va_up (va_up br 22 0) 23 0) (hN := hN) (hO := (by rw [va_up_ne _ _ (by decide), va_up_ne _ _ (by decide)]; exact hO)) (hB := (by rw [va_up_ne _ _ (by decide), va_up_self])) (hL := (by rw [va_up_self])) (hR := hR32) (ha := by omega) (hb := by omega) (ht := by omega) (hxa := ((va_up_ne _ _ (by decide)).trans ((va_up_ne _ _ (by decide)).trans h17))) (bra := ((va_up_ne _ _ (by decide)).trans ((va_up_ne _ _ (by decide)).trans (hzz.2 17 (by decide) (by decide))))) (hxb := ((va_up_ne _ _ (by decide)).trans ((va_up_ne _ _ (by decide)).trans h19))) (brb := ((va_up_ne _ _ (by decide)).trans ((va_up_ne _ _ (by decide)).trans (hzz.2 19 (by decide) (by decide))))) (hat := by decide) (hbt := by decide) (hs := by omega)) (fun  F3 hq => ?_)
  obtain ⟨bh35, bl36, hR37, eF3⟩ := hq
  refine J_eqF (F2 := va_up (va_up F 99 (.inl (g 0, 858, .inl (aI bh35)))) 100 (.inl (g 0, 33, .inl (aI bl36)))) (eF3.trans (Eq.trans (congrArg (fun q : Nat → va_E => va_up q 100 (.inl (g 0, 33, .inl (aI bl36)))) (up_in1 (by decide))) (up_in0))) ?_
  have hR40 := reg_w1 ((hzz_up (hzz_up hzz)).1 _) hR37
  refine J_aload_n 0 d_M_plus_30 rfl rfl ?_
  refine J_aload_n 0 d_M_plus_31 rfl rfl ?_
  refine gf_M_149 (by omega) (by rw [va_up_ne _ _ (by decide), va_up_ne _ _ (by decide)]; exact hO) rfl d_M_plus_32 ?_
  refine J_topi (r := xs) (congrArg iI h5) ?_
  refine pf_M_129 (by omega) (by rw [va_up_ne _ _ (by decide), va_up_ne _ _ (by decide)]; exact hO) (Nat.le_of_ble_eq_true rfl) (nb01 (by omega)) d_M_plus_35 ?_
  refine J_eqF (F2 := va_up (va_up (va_up F 99 (.inl (g 0, 858, .inl (aI bh35)))) 100 (.inl (g 0, 33, .inl (aI bl36)))) 98 (oM ad (va_up f 7 xs) v)) rfl ?_
  have lab104 : ∀ (e1 : Nat → Int) (e2 : Nat → Int) (r0 : Int) (hR4 : reg br e1 e2 (va_up (va_up (va_up (va_up V 22 (a * d)) 23 (c * b)) 21 (b * d)) 20 (plM xs ys (a * d) (c * b)))) (hr0 : r0 = if xs = ys then xs else if c * b ≤ a * d then xs else ys) , J l rm_M_plus (0, 0) "NumberTowerModel" b_M_plus 1 (Option.none : Option Jvm.ClassFile.FieldType) D jCl (jTys g) A (fun _ me => me.name = y_M_plus.name) (jv ad N (fun F' => ∃ hh' ll' : Nat → Int, reg br hh' ll' (va_up (va_up (va_up (va_up V 22 (a * d)) 23 (c * b)) 21 (b * d)) 20 (plM xs ys (a * d) (c * b))) ∧ F' = va_up (va_up (va_up F 98 (oM ad (va_up f 7 (plS xs ys (a * d) (c * b))) v)) 99 (aB g hh')) 100 (aL g ll'))) ad N 0 0 104 [(0, .ref (ad 98))] [] (va_up (va_up (va_up F 98 (oM ad (va_up f 7 r0) v)) 99 (.inl (g 0, 858, .inl (aI e1)))) 100 (.inl (g 0, 33, .inl (aI e2)))) := by
    intro e1 e2 r0 hR4 hr0
    refine J_aload_n 0 d_M_plus_104 rfl rfl ?_
    refine J_aload_n 0 d_M_plus_105 rfl rfl ?_
    have lab126 : ∀ (z : Int) (hz : z = plS xs ys (a * d) (c * b)) , J l rm_M_plus (0, 0) "NumberTowerModel" b_M_plus 1 (Option.none : Option Jvm.ClassFile.FieldType) D jCl (jTys g) A (fun _ me => me.name = y_M_plus.name) (jv ad N (fun F' => ∃ hh' ll' : Nat → Int, reg br hh' ll' (va_up (va_up (va_up (va_up V 22 (a * d)) 23 (c * b)) 21 (b * d)) 20 (plM xs ys (a * d) (c * b))) ∧ F' = va_up (va_up (va_up F 98 (oM ad (va_up f 7 (plS xs ys (a * d) (c * b))) v)) 99 (aB g hh')) 100 (aL g ll'))) ad N 0 0 126 [] [.int (iI z), .ref (ad 98)] (va_up (va_up (va_up F 98 (oM ad (va_up f 7 r0) v)) 99 (.inl (g 0, 858, .inl (aI e1)))) 100 (.inl (g 0, 33, .inl (aI e2)))) := by
      intro z hz
      refine pf_M_129 (by omega) (by rw [va_up_ne _ _ (by decide), va_up_ne _ _ (by decide), va_up_self]) (Nat.le_of_ble_eq_true rfl) (nb01 (by rw [hz]; exact pl01 hxs hys)) d_M_plus_126 ?_
      refine J_eqF (F2 := va_up (va_up (va_up (va_up F 98 (oM ad (va_up f 7 r0) v)) 99 (.inl (g 0, 858, .inl (aI e1)))) 100 (.inl (g 0, 33, .inl (aI e2)))) 98 (oM ad (va_up f 7 z) v)) rfl ?_
      refine J_eqF (F2 := va_up (va_up (va_up F 98 (oM ad (va_up f 7 z) v)) 99 (.inl (g 0, 858, .inl (aI e1)))) 100 (.inl (g 0, 33, .inl (aI e2)))) (up_in2 (by decide) (by decide)) ?_
      refine J_vret rfl d_M_plus_129 ⟨by decide, by decide⟩ ?_
      exact ⟨rfl, rfl, rfl, e1, e2, hR4, by rw [hz]⟩
    refine gf_M_129 (by omega) (by rw [va_up_ne _ _ (by decide), va_up_ne _ _ (by decide), va_up_self]) rfl d_M_plus_106 ?_
    refine J_topi (r := r0) (congrArg iI (va_up_self ..)) ?_
    refine J_ifeq (tgt := 125) d_M_plus_109 (by decide) ⟨by omega, by omega⟩ (fun c109 => ?_) (fun c109 => ?_)
    · refine J_iconst d_M_plus_125 ?_
      refine J_pick (lv' := []) [] rfl ?_
      exact lab126 (0 : Int) (by unfold plS; rw [← hr0]; first | rw [if_pos (by omega)] | (rw [if_neg (by omega)]; omega) | (split <;> omega))
    · refine J_aload_n 0 d_M_plus_112 rfl rfl ?_
      refine J_bipush d_M_plus_113 (i8_ok (by decide)) ?_
      refine J_callVi cw_M_75 nh_M_zero pn_M_zero rfl rfl (by omega) (by rw [va_up_ne _ _ (by decide), va_up_ne _ _ (by decide), va_up_self]) (As := [.int (iI 20)]) (rest := [.ref (ad 98)]) rfl (Nat.le_of_ble_eq_true rfl) ⟨by decide, by decide⟩ rfl ⟨by decide, by decide⟩ d_M_plus_115 (k_M_zero hfl (a := 20) (hh := e1) (ll := e2) (V := va_up (va_up (va_up (va_up V 22 (a * d)) 23 (c * b)) 21 (b * d)) 20 (plM xs ys (a * d) (c * b))) (br := br) (hN := hN) (hO := (by rw [va_up_ne _ _ (by decide), va_up_ne _ _ (by decide), va_up_self])) (hB := (by rw [va_up_ne _ _ (by decide), va_up_self])) (hL := (by rw [va_up_self])) (hR := hR4) (ha := by omega) (hxa := (va_up_self ..)) (bra := (hzz.2 20 (by decide) (by decide)))) (fun z41 F4 hq => ?_)
      obtain ⟨hz41, eF4⟩ := hq
      refine J_eqF eF4 ?_
      refine J_ifne (tgt := 125) d_M_plus_118 (by decide) ⟨by omega, by omega⟩ (fun c118 => ?_) (fun c118 => ?_)
      · refine J_iconst d_M_plus_125 ?_
        refine J_pick (lv' := []) [] rfl ?_
        exact lab126 (0 : Int) (by unfold plS; rw [← hr0]; first | rw [if_pos (by omega)] | (rw [if_neg (by omega)]; omega) | (split <;> omega))
      · refine J_iconst d_M_plus_121 ?_
        refine J_goto (tgt := 126) d_M_plus_122 (by decide) ?_
        refine J_pick (lv' := []) [] rfl ?_
        exact lab126 (1 : Int) (by unfold plS; rw [← hr0]; first | rw [if_pos (by omega)] | (rw [if_neg (by omega)]; omega) | (split <;> omega))
  refine J_aload_n 0 d_M_plus_38 rfl rfl ?_
  refine gf_M_149 (by omega) (by rw [va_up_self]) rfl d_M_plus_39 ?_
  refine J_topi (r := xs) (congrArg iI ((va_up_ne _ _ (by decide)).trans h5)) ?_
  refine J_aload_n 0 d_M_plus_42 rfl rfl ?_
  refine gf_M_152 (by omega) (by rw [va_up_self]) rfl d_M_plus_43 ?_
  refine J_topi (r := ys) (congrArg iI ((va_up_ne _ _ (by decide)).trans h6)) ?_
  refine J_if_icmpne (tgt := 62) d_M_plus_46 (by decide) ⟨by omega, by omega⟩ ⟨by omega, by omega⟩ (fun c46 => ?_) (fun c46 => ?_)
  · refine J_aload_n 0 d_M_plus_62 rfl rfl ?_
    refine J_bipush d_M_plus_63 (i8_ok (by decide)) ?_
    refine J_bipush d_M_plus_65 (i8_ok (by decide)) ?_
    refine J_callVi cw_M_105 nh_M_order pn_M_order rfl rfl (by omega) (by rw [va_up_self]) (As := [.int (iI 22), .int (iI 23)]) (rest := []) rfl (Nat.le_of_ble_eq_true rfl) ⟨by decide, by decide⟩ rfl ⟨by decide, by decide⟩ d_M_plus_67 (k_M_order hfl (a := 22) (b := 23) (hh := bh35) (ll := bl36) (V := va_up (va_up (va_up V 22 (a * d)) 23 (c * b)) 21 (b * d)) (br := va_up (va_up br 22 0) 23 0) (hN := hN) (hO := (by rw [va_up_self])) (hB := (by rw [va_up_ne _ _ (by decide), va_up_ne _ _ (by decide), va_up_self])) (hL := (by rw [va_up_ne _ _ (by decide), va_up_self])) (hR := hR40) (ha := by omega) (hb := by omega) (hxa := ((va_up_ne _ _ (by decide)).trans ((va_up_ne _ _ (by decide)).trans (va_up_self ..)))) (bra := ((va_up_ne _ _ (by decide)).trans (va_up_self ..))) (hxb := ((va_up_ne _ _ (by decide)).trans (va_up_self ..))) (brb := (va_up_self ..))) (fun z42 F5 hq => ?_)
    obtain ⟨hz42, eF5⟩ := hq
    refine J_eqF eF5 ?_
    refine J_topi (r := cmpN (a * d) (c * b)) (congrArg iI hz42) ?_
    refine J_iflt (tgt := 86) d_M_plus_70 (by decide) ⟨by omega, by omega⟩ (fun c70 => ?_) (fun c70 => ?_)
    · refine J_aload_n 0 d_M_plus_86 rfl rfl ?_
      refine J_bipush d_M_plus_87 (i8_ok (by decide)) ?_
      refine J_bipush d_M_plus_89 (i8_ok (by decide)) ?_
      refine J_bipush d_M_plus_91 (i8_ok (by decide)) ?_
      refine J_callVv cw_M_158 nh_M_less pn_M_less rfl rfl (by omega) (by rw [va_up_self]) (As := [.int (iI 23), .int (iI 22), .int (iI 20)]) (rest := []) rfl (Nat.le_of_ble_eq_true rfl) ⟨by decide, by decide⟩ rfl ⟨by decide, by decide⟩ d_M_plus_93 (k_M_less hfl (a := 23) (b := 22) (t := 20) (r := (c * b - a * d)) (hh := bh35) (ll := bl36) (V := va_up (va_up (va_up V 22 (a * d)) 23 (c * b)) 21 (b * d)) (br := va_up (va_up br 22 0) 23 0) (hN := hN) (hO := (by rw [va_up_self])) (hB := (by rw [va_up_ne _ _ (by decide), va_up_ne _ _ (by decide), va_up_self])) (hL := (by rw [va_up_ne _ _ (by decide), va_up_self])) (hR := hR40) (ha := by omega) (hb := by omega) (ht := by omega) (hxa := ((va_up_ne _ _ (by decide)).trans (va_up_self ..))) (bra := (va_up_self ..)) (hxb := ((va_up_ne _ _ (by decide)).trans ((va_up_ne _ _ (by decide)).trans (va_up_self ..)))) (brb := ((va_up_ne _ _ (by decide)).trans (va_up_self ..))) (hr := by omega)) (fun  F6 hq => ?_)
      obtain ⟨bh43, bl44, hR45, eF6⟩ := hq
      refine J_eqF (F2 := va_up (va_up (va_up F 99 (.inl (g 0, 858, .inl (aI bh43)))) 100 (.inl (g 0, 33, .inl (aI bl44)))) 98 (oM ad (va_up f 7 xs) v)) (eF6.trans (Eq.trans (congrArg (fun q : Nat → va_E => va_up q 100 (.inl (g 0, 33, .inl (aI bl44)))) (up_in2 (by decide) (by decide))) (up_in1 (by decide)))) ?_
      have hR48 := reg_w1 ((hzz_up (hzz_up hzz)).1 _) hR45
      refine J_aload_n 0 d_M_plus_96 rfl rfl ?_
      refine J_aload_n 0 d_M_plus_97 rfl rfl ?_
      refine gf_M_152 (by omega) (by rw [va_up_self]) rfl d_M_plus_98 ?_
      refine J_topi (r := ys) (congrArg iI ((va_up_ne _ _ (by decide)).trans h6)) ?_
      refine pf_M_129 (by omega) (by rw [va_up_self]) (Nat.le_of_ble_eq_true rfl) (nb01 (by omega)) d_M_plus_101 ?_
      refine J_eqF (F2 := va_up (va_up (va_up (va_up F 99 (.inl (g 0, 858, .inl (aI bh43)))) 100 (.inl (g 0, 33, .inl (aI bl44)))) 98 (oM ad (va_up f 7 xs) v)) 98 (oM ad (va_up f 7 ys) v)) rfl ?_
      refine J_eqF (F2 := va_up (va_up (va_up F 99 (.inl (g 0, 858, .inl (aI bh43)))) 100 (.inl (g 0, 33, .inl (aI bl44)))) 98 (oM ad (va_up f 7 ys) v)) (up_in0) ?_
      refine J_eqF (F2 := va_up (va_up (va_up F 98 (oM ad (va_up f 7 ys) v)) 99 (.inl (g 0, 858, .inl (aI bh43)))) 100 (.inl (g 0, 33, .inl (aI bl44)))) (Eq.trans (up_cm (by decide)) (congrArg (fun qq : Nat → va_E => va_up qq 100 (.inl (g 0, 33, .inl (aI bl44)))) (up_cm (by decide)))) ?_
      have hR49 := (reg_w1 (hzz.1 _) (reg_w1 ((hzz_up hzz).1 _) hR48))
      have hR50 := (congrArg (fun qq : Nat => reg _ _ _ (va_up (va_up (va_up (va_up V 22 (a * d)) 23 (c * b)) 21 (b * d)) 20 qq)) (show ((c * b - a * d)) = (plM xs ys (a * d) (c * b)) from (by unfold plM; first | rw [if_pos (by omega)] | rw [if_neg (by omega), if_pos (by omega)] | rw [if_neg (by omega), if_neg (by omega)]))).mp hR49
      exact lab104 bh43 bl44 ys hR50 (by first | rw [if_pos (by omega)] | rw [if_neg (by omega), if_pos (by omega)] | rw [if_neg (by omega), if_neg (by omega)])
    · refine J_aload_n 0 d_M_plus_73 rfl rfl ?_
      refine J_bipush d_M_plus_74 (i8_ok (by decide)) ?_
      refine J_bipush d_M_plus_76 (i8_ok (by decide)) ?_
      refine J_bipush d_M_plus_78 (i8_ok (by decide)) ?_
      refine J_callVv cw_M_158 nh_M_less pn_M_less rfl rfl (by omega) (by rw [va_up_self]) (As := [.int (iI 22), .int (iI 23), .int (iI 20)]) (rest := []) rfl (Nat.le_of_ble_eq_true rfl) ⟨by decide, by decide⟩ rfl ⟨by decide, by decide⟩ d_M_plus_80 (k_M_less hfl (a := 22) (b := 23) (t := 20) (r := (a * d - c * b)) (hh := bh35) (ll := bl36) (V := va_up (va_up (va_up V 22 (a * d)) 23 (c * b)) 21 (b * d)) (br := va_up (va_up br 22 0) 23 0) (hN := hN) (hO := (by rw [va_up_self])) (hB := (by rw [va_up_ne _ _ (by decide), va_up_ne _ _ (by decide), va_up_self])) (hL := (by rw [va_up_ne _ _ (by decide), va_up_self])) (hR := hR40) (ha := by omega) (hb := by omega) (ht := by omega) (hxa := ((va_up_ne _ _ (by decide)).trans ((va_up_ne _ _ (by decide)).trans (va_up_self ..)))) (bra := ((va_up_ne _ _ (by decide)).trans (va_up_self ..))) (hxb := ((va_up_ne _ _ (by decide)).trans (va_up_self ..))) (brb := (va_up_self ..)) (hr := by omega)) (fun  F7 hq => ?_)
      obtain ⟨bh51, bl52, hR53, eF7⟩ := hq
      refine J_eqF (F2 := va_up (va_up (va_up F 99 (.inl (g 0, 858, .inl (aI bh51)))) 100 (.inl (g 0, 33, .inl (aI bl52)))) 98 (oM ad (va_up f 7 xs) v)) (eF7.trans (Eq.trans (congrArg (fun q : Nat → va_E => va_up q 100 (.inl (g 0, 33, .inl (aI bl52)))) (up_in2 (by decide) (by decide))) (up_in1 (by decide)))) ?_
      have hR56 := reg_w1 ((hzz_up (hzz_up hzz)).1 _) hR53
      refine J_goto (tgt := 104) d_M_plus_83 (by decide) ?_
      refine J_eqF (F2 := va_up (va_up (va_up F 98 (oM ad (va_up f 7 xs) v)) 99 (.inl (g 0, 858, .inl (aI bh51)))) 100 (.inl (g 0, 33, .inl (aI bl52)))) (Eq.trans (up_cm (by decide)) (congrArg (fun qq : Nat → va_E => va_up qq 100 (.inl (g 0, 33, .inl (aI bl52)))) (up_cm (by decide)))) ?_
      have hR57 := (reg_w1 (hzz.1 _) (reg_w1 ((hzz_up hzz).1 _) hR56))
      have hR58 := (congrArg (fun qq : Nat => reg _ _ _ (va_up (va_up (va_up (va_up V 22 (a * d)) 23 (c * b)) 21 (b * d)) 20 qq)) (show ((a * d - c * b)) = (plM xs ys (a * d) (c * b)) from (by unfold plM; first | rw [if_pos (by omega)] | rw [if_neg (by omega), if_pos (by omega)] | rw [if_neg (by omega), if_neg (by omega)]))).mp hR57
      exact lab104 bh51 bl52 xs hR58 (by first | rw [if_pos (by omega)] | rw [if_neg (by omega), if_pos (by omega)] | rw [if_neg (by omega), if_neg (by omega)])
  · refine J_aload_n 0 d_M_plus_49 rfl rfl ?_
    refine J_bipush d_M_plus_50 (i8_ok (by decide)) ?_
    refine J_bipush d_M_plus_52 (i8_ok (by decide)) ?_
    refine J_bipush d_M_plus_54 (i8_ok (by decide)) ?_
    refine J_callVv cw_M_155 nh_M_add pn_M_add rfl rfl (by omega) (by rw [va_up_self]) (As := [.int (iI 22), .int (iI 23), .int (iI 20)]) (rest := []) rfl (Nat.le_of_ble_eq_true rfl) ⟨by decide, by decide⟩ rfl ⟨by decide, by decide⟩ d_M_plus_56 (k_M_add hfl (a := 22) (b := 23) (t := 20) (hh := bh35) (ll := bl36) (V := va_up (va_up (va_up V 22 (a * d)) 23 (c * b)) 21 (b * d)) (br := va_up (va_up br 22 0) 23 0) (hN := hN) (hO := (by rw [va_up_self])) (hB := (by rw [va_up_ne _ _ (by decide), va_up_ne _ _ (by decide), va_up_self])) (hL := (by rw [va_up_ne _ _ (by decide), va_up_self])) (hR := hR40) (ha := by omega) (hb := by omega) (ht := by omega) (hxa := ((va_up_ne _ _ (by decide)).trans ((va_up_ne _ _ (by decide)).trans (va_up_self ..)))) (bra := ((va_up_ne _ _ (by decide)).trans (va_up_self ..))) (hxb := ((va_up_ne _ _ (by decide)).trans (va_up_self ..))) (brb := (va_up_self ..)) (hla2 := hA) (hlb2 := hB2)) (fun  F8 hq => ?_)
    obtain ⟨bh59, bl60, hR61, eF8⟩ := hq
    refine J_eqF (F2 := va_up (va_up (va_up F 99 (.inl (g 0, 858, .inl (aI bh59)))) 100 (.inl (g 0, 33, .inl (aI bl60)))) 98 (oM ad (va_up f 7 xs) v)) (eF8.trans (Eq.trans (congrArg (fun q : Nat → va_E => va_up q 100 (.inl (g 0, 33, .inl (aI bl60)))) (up_in2 (by decide) (by decide))) (up_in1 (by decide)))) ?_
    have hR64 := reg_w1 ((hzz_up (hzz_up hzz)).1 _) hR61
    refine J_goto (tgt := 104) d_M_plus_59 (by decide) ?_
    refine J_eqF (F2 := va_up (va_up (va_up F 98 (oM ad (va_up f 7 xs) v)) 99 (.inl (g 0, 858, .inl (aI bh59)))) 100 (.inl (g 0, 33, .inl (aI bl60)))) (Eq.trans (up_cm (by decide)) (congrArg (fun qq : Nat → va_E => va_up qq 100 (.inl (g 0, 33, .inl (aI bl60)))) (up_cm (by decide)))) ?_
    have hR65 := (reg_w1 (hzz.1 _) (reg_w1 ((hzz_up hzz).1 _) hR64))
    have hR66 := (congrArg (fun qq : Nat => reg _ _ _ (va_up (va_up (va_up (va_up V 22 (a * d)) 23 (c * b)) 21 (b * d)) 20 qq)) (show ((a * d) + (c * b)) = (plM xs ys (a * d) (c * b)) from (by unfold plM; first | rw [if_pos (by omega)] | rw [if_neg (by omega), if_pos (by omega)] | rw [if_neg (by omega), if_neg (by omega)]))).mp hR65
    exact lab104 bh59 bl60 xs hR66 (by first | rw [if_pos (by omega)] | rw [if_neg (by omega), if_pos (by omega)] | rw [if_neg (by omega), if_neg (by omega)])
set_option maxRecDepth 100000 in
set_option maxHeartbeats 4000000 in
theorem c_M_floor {l : Launch} (hfl : l.flags = flags0) {D : va_G} {g : Nat → ClassId} {ad : Nat → Nat} {N : Nat} {F : Nat → va_E} {hh ll f : Nat → Int} {v : UInt64} {V : Nat → Nat} {br : Nat → Nat} {a b : Nat} {rs : Int}
    (hN : 109 ≤ N) (hO : F 98 = oM ad f v) (hB : F 99 = aB g hh) (hL : F 100 = aL g ll) (hR : reg br hh ll V) (hzz : okB br) (h20 : V 20 = a) (h21 : V 21 = b) (h7 : f 7 = rs) (hrs : rs = 0 ∨ rs = 1) (hb0 : b ≠ 0) (hla : lnw 28 a ≤ 24) (hlb : lnw 28 b ≤ 24) :
    JC l y_M_floor b_M_floor 2 (Option.none : Option Jvm.ClassFile.FieldType) rm_M_floor (0, 0) D jCl (jTys g) ad N F [.ref (ad 98)] (jv ad N (fun F' => ∃ (hh' ll' : Nat → Int) (W : Nat → Nat), reg br hh' ll' W ∧ (∀ k, k ≠ 20 → k ≠ 21 → k ≠ 24 → k ≠ 25 → k ≠ 26 → k ≠ 32 → W k = V k) ∧ W 20 = flM rs a b ∧ W 21 = 1 ∧ F' = va_up (va_up (va_up F 98 (oM ad (va_up f 7 (flS rs a b)) v)) 99 (aB g hh')) 100 (aL g ll'))) := by
  have hq : lnw 28 (a / b) ≤ 24 := Nat.le_trans (lnw_mono8 (Nat.div_le_self _ _)) hla
  refine JC.go hfl (own := "NumberTowerModel") (lv := [(0, .ref (ad 98))]) rfl (by decide +kernel) (Nat.le_of_ble_eq_true rfl) rfl (fun A => ?_)
  refine J_aload_n 0 d_M_floor_0 rfl rfl ?_
  refine J_bipush d_M_floor_1 (i8_ok (by decide)) ?_
  refine J_bipush d_M_floor_3 (i8_ok (by decide)) ?_
  refine J_callVv cw_M_79 nh_M_divide pn_M_divide rfl rfl (by omega) hO (As := [.int (iI 20), .int (iI 21)]) (rest := []) rfl (Nat.le_of_ble_eq_true rfl) ⟨by decide, by decide⟩ rfl ⟨by decide, by decide⟩ d_M_floor_5 (k_M_divide hfl (a := 20) (b := 21) (hh := hh) (ll := ll) (V := V) (br := br) (hN := hN) (hO := hO) (hB := hB) (hL := hL) (hR := hR) (ha := by omega) (hb := by omega) (hxa := h20) (bra := (hzz.2 20 (by decide) (by decide))) (hxb := h21) (brb := (hzz.2 21 (by decide) (by decide))) (hzz := hzz) (ha2 := by decide) (hb2 := by decide) (hb0 := hb0) (hla2 := by omega) (hlb2 := by omega)) (fun  F1 hq => ?_)
  obtain ⟨bh67, bl68, j72, hR69, eF1⟩ := hq
  refine J_eqF (F2 := va_up (va_up F 99 (.inl (g 0, 858, .inl (aI bh67)))) 100 (.inl (g 0, 33, .inl (aI bl68)))) eF1 ?_
  refine J_aload_n 0 d_M_floor_8 rfl rfl ?_
  refine J_bipush d_M_floor_9 (i8_ok (by decide)) ?_
  refine J_callVi cw_M_75 nh_M_zero pn_M_zero rfl rfl (by omega) (by rw [va_up_ne _ _ (by decide), va_up_ne _ _ (by decide)]; exact hO) (As := [.int (iI 25)]) (rest := []) rfl (Nat.le_of_ble_eq_true rfl) ⟨by decide, by decide⟩ rfl ⟨by decide, by decide⟩ d_M_floor_11 (k_M_zero hfl (a := 25) (hh := bh67) (ll := bl68) (V := va_up (va_up (va_up V 26 j72) 25 (a % b)) 24 (a / b)) (br := br) (hN := hN) (hO := (by rw [va_up_ne _ _ (by decide), va_up_ne _ _ (by decide)]; exact hO)) (hB := (by rw [va_up_ne _ _ (by decide), va_up_self])) (hL := (by rw [va_up_self])) (hR := hR69) (ha := by omega) (hxa := ((va_up_ne _ _ (by decide)).trans (va_up_self ..))) (bra := (hzz.2 25 (by decide) (by decide)))) (fun z73 F2 hq => ?_)
  obtain ⟨hz73, eF2⟩ := hq
  refine J_eqF eF2 ?_
  refine J_istore_n (lv' := [(1, .int (iI z73)), (0, .ref (ad 98))]) d_M_floor_14 rfl (by decide) rfl ?_
  refine J_aload_n 1 d_M_floor_15 rfl rfl ?_
  refine J_bipush d_M_floor_16 (i8_ok (by decide)) ?_
  refine J_bipush d_M_floor_18 (i8_ok (by decide)) ?_
  refine J_callVv cw_M_58 nh_M_copy pn_M_copy rfl rfl (by omega) (by rw [va_up_ne _ _ (by decide), va_up_ne _ _ (by decide)]; exact hO) (As := [.int (iI 24), .int (iI 20)]) (rest := []) rfl (Nat.le_of_ble_eq_true rfl) ⟨by decide, by decide⟩ rfl ⟨by decide, by decide⟩ d_M_floor_20 (k_M_copy hfl (a := 24) (b := 20) (hh := bh67) (ll := bl68) (V := va_up (va_up (va_up V 26 j72) 25 (a % b)) 24 (a / b)) (br := br) (hN := hN) (hO := (by rw [va_up_ne _ _ (by decide), va_up_ne _ _ (by decide)]; exact hO)) (hB := (by rw [va_up_ne _ _ (by decide), va_up_self])) (hL := (by rw [va_up_self])) (hR := hR69) (ha := by omega) (hb := by omega) (hxa := (va_up_self ..)) (bra := (hzz.2 24 (by decide) (by decide)))) (fun  F3 hq => ?_)
  obtain ⟨bh74, bl75, hR76, eF3⟩ := hq
  refine J_eqF (F2 := va_up (va_up F 99 (.inl (g 0, 858, .inl (aI bh74)))) 100 (.inl (g 0, 33, .inl (aI bl75)))) (eF3.trans (Eq.trans (congrArg (fun q : Nat → va_E => va_up q 100 (.inl (g 0, 33, .inl (aI bl75)))) (up_in1 (by decide))) (up_in0))) ?_
  have hR79 := reg_w1 (hzz.1 _) hR76
  refine J_aload_n 1 d_M_floor_23 rfl rfl ?_
  refine J_bipush d_M_floor_24 (i8_ok (by decide)) ?_
  refine J_lconst (v := 1) d_M_floor_26 rfl ?_
  refine J_callVv cw_M_82 nh_M_put pn_M_put rfl rfl (by omega) (by rw [va_up_ne _ _ (by decide), va_up_ne _ _ (by decide)]; exact hO) (As := [.int (iI 21), .long (lI 1)]) (rest := []) rfl (Nat.le_of_ble_eq_true rfl) ⟨by decide, by decide⟩ rfl ⟨by decide, by decide⟩ d_M_floor_27 (k_M_put hfl (a := 21) (n := 1) (hh := bh74) (ll := bl75) (V := va_up (va_up (va_up (va_up V 26 j72) 25 (a % b)) 24 (a / b)) 20 (a / b)) (br := br) (hN := hN) (hO := (by rw [va_up_ne _ _ (by decide), va_up_ne _ _ (by decide)]; exact hO)) (hB := (by rw [va_up_ne _ _ (by decide), va_up_self])) (hL := (by rw [va_up_self])) (hR := hR79) (ha := by omega) (hn := by decide)) (fun  F4 hq => ?_)
  obtain ⟨bh80, bl81, hR82, eF4⟩ := hq
  refine J_eqF (F2 := va_up (va_up F 99 (.inl (g 0, 858, .inl (aI bh80)))) 100 (.inl (g 0, 33, .inl (aI bl81)))) (eF4.trans (Eq.trans (congrArg (fun q : Nat → va_E => va_up q 100 (.inl (g 0, 33, .inl (aI bl81)))) (up_in1 (by decide))) (up_in0))) ?_
  have hR85 := reg_w1 (hzz.1 _) hR82
  refine J_aload_n 1 d_M_floor_30 rfl rfl ?_
  have lab47 : ∀ (e1 : Nat → Int) (e2 : Nat → Int) (W1 : Nat → Nat) (hR1 : reg br e1 e2 W1) (hf1 : ∀ k, k ≠ 20 → k ≠ 21 → k ≠ 24 → k ≠ 25 → k ≠ 26 → k ≠ 32 → W1 k = V k) (w20 : W1 20 = flM rs a b) (w21 : W1 21 = 1) , J l rm_M_floor (0, 0) "NumberTowerModel" b_M_floor 2 (Option.none : Option Jvm.ClassFile.FieldType) D jCl (jTys g) A (fun _ me => me.name = y_M_floor.name) (jv ad N (fun F' => ∃ (hh' ll' : Nat → Int) (W : Nat → Nat), reg br hh' ll' W ∧ (∀ k, k ≠ 20 → k ≠ 21 → k ≠ 24 → k ≠ 25 → k ≠ 26 → k ≠ 32 → W k = V k) ∧ W 20 = flM rs a b ∧ W 21 = 1 ∧ F' = va_up (va_up (va_up F 98 (oM ad (va_up f 7 (flS rs a b)) v)) 99 (aB g hh')) 100 (aL g ll'))) ad N 0 0 47 [(0, .ref (ad 98))] [] (va_up (va_up (va_up F 98 (oM ad f v)) 99 (.inl (g 0, 858, .inl (aI e1)))) 100 (.inl (g 0, 33, .inl (aI e2)))) := by
    intro e1 e2 W1 hR1 hf1 w20 w21
    refine J_aload_n 0 d_M_floor_47 rfl rfl ?_
    refine J_aload_n 0 d_M_floor_48 rfl rfl ?_
    have lab69 : ∀ (z : Int) (hz : z = flS rs a b) , J l rm_M_floor (0, 0) "NumberTowerModel" b_M_floor 2 (Option.none : Option Jvm.ClassFile.FieldType) D jCl (jTys g) A (fun _ me => me.name = y_M_floor.name) (jv ad N (fun F' => ∃ (hh' ll' : Nat → Int) (W : Nat → Nat), reg br hh' ll' W ∧ (∀ k, k ≠ 20 → k ≠ 21 → k ≠ 24 → k ≠ 25 → k ≠ 26 → k ≠ 32 → W k = V k) ∧ W 20 = flM rs a b ∧ W 21 = 1 ∧ F' = va_up (va_up (va_up F 98 (oM ad (va_up f 7 (flS rs a b)) v)) 99 (aB g hh')) 100 (aL g ll'))) ad N 0 0 69 [] [.int (iI z), .ref (ad 98)] (va_up (va_up (va_up F 98 (oM ad f v)) 99 (.inl (g 0, 858, .inl (aI e1)))) 100 (.inl (g 0, 33, .inl (aI e2)))) := by
      intro z hz
      refine pf_M_129 (by omega) (by rw [va_up_ne _ _ (by decide), va_up_ne _ _ (by decide), va_up_self]) (Nat.le_of_ble_eq_true rfl) (nb01 (by rw [hz]; exact fl01 hrs)) d_M_floor_69 ?_
      refine J_eqF (F2 := va_up (va_up (va_up (va_up F 98 (oM ad f v)) 99 (.inl (g 0, 858, .inl (aI e1)))) 100 (.inl (g 0, 33, .inl (aI e2)))) 98 (oM ad (va_up f 7 z) v)) rfl ?_
      refine J_eqF (F2 := va_up (va_up (va_up F 98 (oM ad (va_up f 7 z) v)) 99 (.inl (g 0, 858, .inl (aI e1)))) 100 (.inl (g 0, 33, .inl (aI e2)))) (up_in2 (by decide) (by decide)) ?_
      refine J_vret rfl d_M_floor_72 ⟨by decide, by decide⟩ ?_
      exact ⟨rfl, rfl, rfl, e1, e2, W1, hR1, hf1, w20, w21, by rw [hz]⟩
    refine gf_M_129 (by omega) (by rw [va_up_ne _ _ (by decide), va_up_ne _ _ (by decide), va_up_self]) rfl d_M_floor_49 ?_
    refine J_topi (r := rs) (congrArg iI h7) ?_
    refine J_ifeq (tgt := 68) d_M_floor_52 (by decide) ⟨by omega, by omega⟩ (fun c52 => ?_) (fun c52 => ?_)
    · refine J_iconst d_M_floor_68 ?_
      refine J_pick (lv' := []) [] rfl ?_
      exact lab69 (0 : Int) (by unfold flS; first | rw [if_pos (by omega)] | (rw [if_neg (by omega)]; omega) | (split <;> omega))
    · refine J_aload_n 0 d_M_floor_55 rfl rfl ?_
      refine J_bipush d_M_floor_56 (i8_ok (by decide)) ?_
      refine J_callVi cw_M_75 nh_M_zero pn_M_zero rfl rfl (by omega) (by rw [va_up_ne _ _ (by decide), va_up_ne _ _ (by decide), va_up_self]) (As := [.int (iI 20)]) (rest := [.ref (ad 98)]) rfl (Nat.le_of_ble_eq_true rfl) ⟨by decide, by decide⟩ rfl ⟨by decide, by decide⟩ d_M_floor_58 (k_M_zero hfl (a := 20) (hh := e1) (ll := e2) (V := W1) (br := br) (hN := hN) (hO := (by rw [va_up_ne _ _ (by decide), va_up_ne _ _ (by decide), va_up_self])) (hB := (by rw [va_up_ne _ _ (by decide), va_up_self])) (hL := (by rw [va_up_self])) (hR := hR1) (ha := by omega) (hxa := w20) (bra := (hzz.2 20 (by decide) (by decide)))) (fun z86 F5 hq => ?_)
      obtain ⟨hz86, eF5⟩ := hq
      refine J_eqF eF5 ?_
      refine J_ifne (tgt := 68) d_M_floor_61 (by decide) ⟨by omega, by omega⟩ (fun c61 => ?_) (fun c61 => ?_)
      · refine J_iconst d_M_floor_68 ?_
        refine J_pick (lv' := []) [] rfl ?_
        exact lab69 (0 : Int) (by unfold flS; first | rw [if_pos (by omega)] | (rw [if_neg (by omega)]; omega) | (split <;> omega))
      · refine J_iconst d_M_floor_64 ?_
        refine J_goto (tgt := 69) d_M_floor_65 (by decide) ?_
        refine J_pick (lv' := []) [] rfl ?_
        exact lab69 (1 : Int) (by unfold flS; first | rw [if_pos (by omega)] | (rw [if_neg (by omega)]; omega) | (split <;> omega))
  refine gf_M_129 (by omega) (by rw [va_up_ne _ _ (by decide), va_up_ne _ _ (by decide)]; exact hO) rfl d_M_floor_31 ?_
  refine J_topi (r := rs) (congrArg iI h7) ?_
  refine J_ifeq (tgt := 47) d_M_floor_34 (by decide) ⟨by omega, by omega⟩ (fun c34 => ?_) (fun c34 => ?_)
  · refine J_pick (lv' := [(0, .ref (ad 98))]) [1] rfl ?_
    refine J_eqF (F2 := va_up (va_up (va_up F 99 (.inl (g 0, 858, .inl (aI bh80)))) 100 (.inl (g 0, 33, .inl (aI bl81)))) 98 (oM ad f v)) (up_same1 (by rw [va_up_ne _ _ (by decide), va_up_ne _ _ (by decide)]; exact hO)) ?_
    refine J_eqF (F2 := va_up (va_up (va_up F 98 (oM ad f v)) 99 (.inl (g 0, 858, .inl (aI bh80)))) 100 (.inl (g 0, 33, .inl (aI bl81)))) (Eq.trans (up_cm (by decide)) (congrArg (fun qq : Nat → va_E => va_up qq 100 (.inl (g 0, 33, .inl (aI bl81)))) (up_cm (by decide)))) ?_
    exact lab47 bh80 bl81 (va_up (va_up (va_up (va_up (va_up V 26 j72) 25 (a % b)) 24 (a / b)) 20 (a / b)) 21 1) hR85 (fun k k1 k2 k3 k4 k5 k6 => (show (va_up (va_up (va_up (va_up (va_up V 26 j72) 25 (a % b)) 24 (a / b)) 20 (a / b)) 21 1) k = V k from by rw [va_up_ne _ _ (by omega), va_up_ne _ _ (by omega), va_up_ne _ _ (by omega), va_up_ne _ _ (by omega), va_up_ne _ _ (by omega)])) (by unfold flM; rw [if_neg (by omega)]; exact ((va_up_ne _ _ (by decide)).trans (va_up_self ..))) ((va_up_self ..))
  · refine J_iload_n 0 d_M_floor_37 rfl rfl ?_
    refine J_ifne (tgt := 47) d_M_floor_38 (by decide) ⟨by omega, by omega⟩ (fun c38 => ?_) (fun c38 => ?_)
    · refine J_pick (lv' := [(0, .ref (ad 98))]) [1] rfl ?_
      refine J_eqF (F2 := va_up (va_up (va_up F 99 (.inl (g 0, 858, .inl (aI bh80)))) 100 (.inl (g 0, 33, .inl (aI bl81)))) 98 (oM ad f v)) (up_same1 (by rw [va_up_ne _ _ (by decide), va_up_ne _ _ (by decide)]; exact hO)) ?_
      refine J_eqF (F2 := va_up (va_up (va_up F 98 (oM ad f v)) 99 (.inl (g 0, 858, .inl (aI bh80)))) 100 (.inl (g 0, 33, .inl (aI bl81)))) (Eq.trans (up_cm (by decide)) (congrArg (fun qq : Nat → va_E => va_up qq 100 (.inl (g 0, 33, .inl (aI bl81)))) (up_cm (by decide)))) ?_
      exact lab47 bh80 bl81 (va_up (va_up (va_up (va_up (va_up V 26 j72) 25 (a % b)) 24 (a / b)) 20 (a / b)) 21 1) hR85 (fun k k1 k2 k3 k4 k5 k6 => (show (va_up (va_up (va_up (va_up (va_up V 26 j72) 25 (a % b)) 24 (a / b)) 20 (a / b)) 21 1) k = V k from by rw [va_up_ne _ _ (by omega), va_up_ne _ _ (by omega), va_up_ne _ _ (by omega), va_up_ne _ _ (by omega), va_up_ne _ _ (by omega)])) (by unfold flM; rw [if_neg (by omega)]; exact ((va_up_ne _ _ (by decide)).trans (va_up_self ..))) ((va_up_self ..))
    · refine J_aload_n 1 d_M_floor_41 rfl rfl ?_
      refine J_bipush d_M_floor_42 (i8_ok (by decide)) ?_
      refine J_callVv cw_M_161 nh_M_grow1 pn_M_grow1 rfl rfl (by omega) (by rw [va_up_ne _ _ (by decide), va_up_ne _ _ (by decide)]; exact hO) (As := [.int (iI 20)]) (rest := []) rfl (Nat.le_of_ble_eq_true rfl) ⟨by decide, by decide⟩ rfl ⟨by decide, by decide⟩ d_M_floor_44 (c_M_grow1 hfl (a := 20) (x := a / b) hN (by rw [va_up_ne _ _ (by decide), va_up_ne _ _ (by decide)]; exact hO) (by rw [va_up_ne _ _ (by decide), va_up_self]) (by rw [va_up_self]) hR85 hzz (by omega) (hzz.2 20 (by decide) (by decide)) (((va_up_ne _ _ (by decide)).trans (va_up_self ..))) (by omega)) (fun  F6 hq => ?_)
      obtain ⟨bh87, bl88, hR89, eF6⟩ := hq
      refine J_eqF (F2 := va_up (va_up F 99 (.inl (g 0, 858, .inl (aI bh87)))) 100 (.inl (g 0, 33, .inl (aI bl88)))) (eF6.trans (Eq.trans (congrArg (fun q : Nat → va_E => va_up q 100 (.inl (g 0, 33, .inl (aI bl88)))) (up_in1 (by decide))) (up_in0))) ?_
      have hR90 := (congrArg (fun qq : Nat → Nat => reg _ _ _ (qq)) (up_in2 (by decide) (by decide))).mp hR89
      refine J_pick (lv' := [(0, .ref (ad 98))]) [1] rfl ?_
      refine J_eqF (F2 := va_up (va_up (va_up F 99 (.inl (g 0, 858, .inl (aI bh87)))) 100 (.inl (g 0, 33, .inl (aI bl88)))) 98 (oM ad f v)) (up_same1 (by rw [va_up_ne _ _ (by decide), va_up_ne _ _ (by decide)]; exact hO)) ?_
      refine J_eqF (F2 := va_up (va_up (va_up F 98 (oM ad f v)) 99 (.inl (g 0, 858, .inl (aI bh87)))) 100 (.inl (g 0, 33, .inl (aI bl88)))) (Eq.trans (up_cm (by decide)) (congrArg (fun qq : Nat → va_E => va_up qq 100 (.inl (g 0, 33, .inl (aI bl88)))) (up_cm (by decide)))) ?_
      exact lab47 bh87 bl88 (va_up (va_up (va_up (va_up (va_up (va_up V 26 j72) 25 (a % b)) 24 (a / b)) 20 ((a / b) + 1)) 21 1) 32 1) hR90 (fun k k1 k2 k3 k4 k5 k6 => (show (va_up (va_up (va_up (va_up (va_up (va_up V 26 j72) 25 (a % b)) 24 (a / b)) 20 ((a / b) + 1)) 21 1) 32 1) k = V k from by rw [va_up_ne _ _ (by omega), va_up_ne _ _ (by omega), va_up_ne _ _ (by omega), va_up_ne _ _ (by omega), va_up_ne _ _ (by omega), va_up_ne _ _ (by omega)])) (by unfold flM; rw [if_pos ⟨by omega, by omega⟩]; exact ((va_up_ne _ _ (by decide)).trans ((va_up_ne _ _ (by decide)).trans (va_up_self ..)))) (((va_up_ne _ _ (by decide)).trans (va_up_self ..)))
