/-! naturals: tens, products, shifts -/
theorem tens_le {a e m : Nat} (h : e ≤ m) : a * 10 ^ e ≤ a * 10 ^ m := Nat.mul_le_mul_left _ (Nat.pow_le_pow_right (by decide) h)
theorem dgt_low {v m i j : Nat} (h : j < i) : dgt 30 (v + m * 2 ^ (30 * i)) j = dgt 30 v j := by
  unfold dgt
  rw [show 30 * i = 30 * (j + 1) + 30 * (i - (j + 1)) by omega, Nat.pow_add, pw_succ, show m * (2 ^ (30 * j) * 2 ^ 30 * 2 ^ (30 * (i - (j + 1)))) = 2 ^ (30 * j) * (2 ^ 30 * (2 ^ (30 * (i - (j + 1))) * m)) by rw [Nat.mul_comm m, Nat.mul_assoc, Nat.mul_assoc], Nat.add_mul_div_left _ _ (Nat.two_pow_pos _), Nat.add_mul_mod_self_left]
theorem mix_low {i : Nat} {A B : Nat → Int} (h : ∀ j, j < i → A j = B j) : B = mix i A B := by
  funext j
  simp only [mix]
  split
  · exact (h j (by omega)).symm
  · rfl
theorem prod_Y (d y i j : Nat) : d * (y % 2 ^ (30 * (j + 1))) * 2 ^ (30 * i) = d * (y % 2 ^ (30 * j)) * 2 ^ (30 * i) + d * dgt 30 y j * 2 ^ (30 * (i + j)) := by
  rw [low_w, Nat.mul_add, Nat.add_mul, Nat.mul_add 30 i j, Nat.pow_add, Nat.mul_comm (2 ^ (30 * i)) (2 ^ (30 * j)), ← Nat.mul_assoc, ← Nat.mul_assoc]
theorem prod_T (v d y i j : Nat) : v + d * y * 2 ^ (30 * i) = v + (d * (y % 2 ^ (30 * j)) * 2 ^ (30 * i) + d * dgt 30 y j * 2 ^ (30 * (i + j))) + d * (y / 2 ^ (30 * (j + 1))) * 2 ^ (30 * (i + j + 1)) := by
  have h := low_q y (j + 1)
  have e : d * y * 2 ^ (30 * i) = d * (y % 2 ^ (30 * (j + 1))) * 2 ^ (30 * i) + d * (y / 2 ^ (30 * (j + 1))) * 2 ^ (30 * (i + j + 1)) := by
    rw [show 30 * (i + j + 1) = 30 * (j + 1) + 30 * i by omega, Nat.pow_add, ← Nat.mul_assoc, ← Nat.add_mul, Nat.mul_assoc d (y / _), ← Nat.mul_add, ← h]
  rw [← prod_Y, e]
  exact (Nat.add_assoc _ _ _).symm
theorem prod_c (d y i j : Nat) : d * (y % 2 ^ (30 * j)) * 2 ^ (30 * i) ≤ d * 2 ^ (30 * (i + j)) := by
  rw [Nat.mul_add, Nat.pow_add, Nat.mul_comm (2 ^ (30 * i)), ← Nat.mul_assoc]
  exact Nat.mul_le_mul_right _ (Nat.mul_le_mul_left _ (low_b y j))
theorem prod_S (x y i : Nat) : x % 2 ^ (30 * (i + 1)) * y = x % 2 ^ (30 * i) * y + dgt 30 x i * y * 2 ^ (30 * i) := by
  rw [low_w, Nat.add_mul, Nat.mul_assoc, Nat.mul_comm (2 ^ (30 * i)), ← Nat.mul_assoc]
theorem prod_le (x y i : Nat) : x % 2 ^ (30 * i) * y ≤ x * y := Nat.mul_le_mul_right _ (Nat.mod_le _ _)
theorem pw29 {s : Nat} (h : s < 30) : 0 < 2 ^ s ∧ 2 ^ s ≤ 536870912 := ⟨Nat.two_pow_pos _, by
  have : 2 ^ s ≤ 2 ^ 29 := Nat.pow_le_pow_right (by decide) (by omega)
  exact this⟩
theorem glp {x s : Nat} (hx : x < 1073741824) (hs : 2 ^ s ≤ 1073741824) : x * 2 ^ s < 1152921504606846976 := by
  have h1 : x * 2 ^ s ≤ x * 1073741824 := Nat.mul_le_mul_left _ hs
  omega
theorem divp {x s : Nat} (hx : x < 1073741824) : x / 2 ^ s < 1073741824 := Nat.lt_of_le_of_lt (Nat.div_le_self _ _) hx
set_option maxRecDepth 100000 in
set_option maxHeartbeats 4000000 in
theorem c_N_scaleTens {l : Launch} (hfl : l.flags = flags0) {D : va_G} {g : Nat → ClassId} {ad : Nat → Nat} {N : Nat} {F : Nat → va_E} {k a : Nat} {n : Int}
    (hk : k + 1 < N) (hF : F k = oN ad k (lnw 30 a : Int)) (hA : F (k + 1) = aN g (dg a)) (hn : -100000 ≤ n ∧ n ≤ 150) (ht : a * 10 ^ n.toNat < 2 ^ 480) :
    JC l y_N_scaleTens b_N_scaleTens 4 (Option.none : Option Jvm.ClassFile.FieldType) rm_N_scaleTens (0, 0) D jCl (jTys g) ad N F [.ref (ad k), .int (iI n)] (jv ad N (fun F' => F' = upN ad g F k (a * 10 ^ n.toNat))) := by
  refine JC.go hfl (own := "NumberTower$Natural") (lv := [(0, .ref (ad k)), (1, .int (iI n))]) rfl (by decide +kernel) (Nat.le_of_ble_eq_true rfl) rfl (fun A => ?_)
  have lab60 : ∀ (e : Nat) (v : Nat) (he : e = n.toNat) (hv : v = a * 10 ^ e) , J l rm_N_scaleTens (0, 0) "NumberTower$Natural" b_N_scaleTens 4 (Option.none : Option Jvm.ClassFile.FieldType) D jCl (jTys g) A (fun _ me => me.name = y_N_scaleTens.name) (jv ad N (fun F' => F' = upN ad g F k (a * 10 ^ n.toNat))) ad N 0 0 60 [] [] (va_up (va_up F (k + 1) (.inl (g 0, 16, .inl (aI (dg v))))) k (.inr (2, [.ref (ad (k + 1)), .int (iI (lnw 30 v : Int))]))) := by
    intro e v he hv
    refine J_vret rfl d_N_scaleTens_60 ⟨by decide, by decide⟩ ?_
    exact ⟨rfl, rfl, rfl, by rw [hv, he]⟩
  refine J_iload_n 1 d_N_scaleTens_0 rfl rfl ?_
  refine J_istore_n (lv' := [(2, .int (iI n)), (0, .ref (ad k)), (1, .int (iI n))]) d_N_scaleTens_1 rfl (by decide) rfl ?_
  refine J_iconst d_N_scaleTens_2 ?_
  refine J_istore_n (lv' := [(3, .int (iI 0)), (2, .int (iI n)), (0, .ref (ad k)), (1, .int (iI n))]) d_N_scaleTens_3 rfl (by decide) rfl ?_
  have lab32 : ∀ (e : Nat) (v : Nat) (z : Int) (he : z + e = n ∧ (e = 0 ∨ 0 ≤ z) ∧ z ≤ 8) (hv : v = a * 10 ^ e) , J l rm_N_scaleTens (0, 0) "NumberTower$Natural" b_N_scaleTens 4 (Option.none : Option Jvm.ClassFile.FieldType) D jCl (jTys g) A (fun _ me => me.name = y_N_scaleTens.name) (jv ad N (fun F' => F' = upN ad g F k (a * 10 ^ n.toNat))) ad N 0 0 32 [(0, .ref (ad k)), (1, .int (iI n)), (2, .int (iI z))] [] (va_up (va_up F (k + 1) (.inl (g 0, 16, .inl (aI (dg v))))) k (.inr (2, [.ref (ad (k + 1)), .int (iI (lnw 30 v : Int))]))) := by
    intro e v z he hv
    refine J_iconst d_N_scaleTens_32 ?_
    refine J_istore_n (lv' := [(3, .int (iI 0)), (0, .ref (ad k)), (1, .int (iI n)), (2, .int (iI z))]) d_N_scaleTens_33 rfl (by decide) rfl ?_
    refine J_pick (lv' := [(0, .ref (ad k)), (1, .int (iI n)), (2, .int (iI z)), (3, .int (iI 0))]) [1, 2, 3, 0] rfl ?_
    have loop34 : ∀ (fuel : Nat) (i : Nat) (e : Nat) (v : Nat) (z : Int) (h1 : i ≤ 9) (he : z + e = n ∧ (e = 0 ∨ 0 ≤ z) ∧ z + i ≤ 8) (hv : v = a * 10 ^ e) (hfu : 9 - i < fuel), J l rm_N_scaleTens (0, 0) "NumberTower$Natural" b_N_scaleTens 4 (Option.none : Option Jvm.ClassFile.FieldType) D jCl (jTys g) A (fun _ me => me.name = y_N_scaleTens.name) (jv ad N (fun F' => F' = upN ad g F k (a * 10 ^ n.toNat))) ad N 0 0 34 [(0, .ref (ad k)), (1, .int (iI n)), (2, .int (iI z)), (3, .int (iI (i : Int)))] [] (va_up (va_up F (k + 1) (.inl (g 0, 16, .inl (aI (dg v))))) k (.inr (2, [.ref (ad (k + 1)), .int (iI (lnw 30 v : Int))]))) := by
      intro fuel
      induction fuel with
      | zero => intro i e v z h1 he hv hfu; exact absurd hfu (Nat.not_lt_zero _)
      | succ fuel ih =>
        intro i e v z h1 he hv hfu
        refine J_iload_n 3 d_N_scaleTens_34 rfl rfl ?_
        refine J_bipush d_N_scaleTens_35 (i8_ok (by decide)) ?_
        refine J_if_icmpge (tgt := 60) d_N_scaleTens_37 (by decide) ⟨by omega, by omega⟩ ⟨by omega, by omega⟩ (fun c37 => ?_) (fun c37 => ?_)
        · refine J_pick (lv' := []) [] rfl ?_
          exact lab60 e v (by omega) hv
        · refine J_iload_n 2 d_N_scaleTens_40 rfl rfl ?_
          refine J_ifle (tgt := 60) d_N_scaleTens_41 (by decide) ⟨by omega, by omega⟩ (fun c41 => ?_) (fun c41 => ?_)
          · refine J_pick (lv' := []) [] rfl ?_
            exact lab60 e v (by omega) hv
          · refine J_aload_n 0 d_N_scaleTens_44 rfl rfl ?_
            refine J_bipush d_N_scaleTens_45 (i8_ok (by decide)) ?_
            refine J_iconst d_N_scaleTens_47 ?_
            have hb0 : v < 2 ^ 480 := Nat.lt_of_le_of_lt (by rw [hv]; exact tens_le (by omega)) ht
            have hb1 : v * 10 + 0 < 2 ^ 480 := Nat.lt_of_le_of_lt (by rw [hv, Nat.add_zero, Nat.mul_assoc, ← Nat.pow_succ]; exact tens_le (by omega)) ht
            refine J_callVv cw_N_64 nh_N_scale pn_N_scale rfl rfl (by omega) (by rw [va_up_self]) (As := [.int (iI 10), .int (iI 0)]) (rest := []) rfl (Nat.le_of_ble_eq_true rfl) ⟨by decide, by decide⟩ rfl ⟨by decide, by decide⟩ d_N_scaleTens_48 (c_N_scale hfl (k := k) (a := v) (n := 10) (m := 0) (by omega) (by rw [va_up_self]) (by rw [va_up_ne _ _ (by omega), va_up_self]) hb0 (by decide) (by decide) hb1) (fun  F1 hq => ?_)
            have eF1 := hq
            refine J_eqF (F2 := va_up (va_up F (k + 1) (.inl (g 0, 16, .inl (aI (dg (v * 10 + 0)))))) k (.inr (2, [.ref (ad (k + 1)), .int (iI (lnw 30 (v * 10 + 0) : Int))]))) (eF1.trans (Eq.trans (congrArg (fun q : Nat → va_E => va_up q k (.inr (2, [.ref (ad (k + 1)), .int (iI (lnw 30 (v * 10 + 0) : Int))]))) (up_in1 (by omega))) (up_in0))) ?_
            refine J_iinc (j := 2) (b := z - 1) (lv' := [(2, .int (iI (z - 1))), (0, .ref (ad k)), (1, .int (iI n)), (3, .int (iI (i : Int)))]) d_N_scaleTens_51 rfl (by omega) (by decide) rfl ?_
            refine J_iinc (j := 3) (b := (i : Int) + 1) (lv' := [(3, .int (iI ((i : Int) + 1))), (2, .int (iI (z - 1))), (0, .ref (ad k)), (1, .int (iI n))]) d_N_scaleTens_54 rfl (by omega) (by decide) rfl ?_
            refine J_goto (tgt := 34) d_N_scaleTens_57 (by decide) ?_
            refine J_pick (lv' := [(0, .ref (ad k)), (1, .int (iI n)), (2, .int (iI (z - 1))), (3, .int (iI ((i : Int) + 1)))]) [2, 3, 1, 0] rfl ?_
            exact ih (i + 1) (e + 1) (v * 10 + 0) (z - 1) (by omega) (by omega) (by rw [hv, Nat.add_zero, Nat.mul_assoc, Nat.pow_succ]) (by omega)
    exact loop34 ((9 - 0) + 1) 0 e v z (by omega) (by omega) hv (Nat.lt_succ_self _)
  refine J_pick (lv' := [(0, .ref (ad k)), (1, .int (iI n)), (2, .int (iI n)), (3, .int (iI 0))]) [2, 3, 1, 0] rfl ?_
  have loop4 : ∀ (fuel : Nat) (i : Nat) (e : Nat) (v : Nat) (z : Int) (h1 : i ≤ 16) (he : (e : Int) = 9 * i ∧ z + e = n ∧ (e = 0 ∨ 0 ≤ z)) (hv : v = a * 10 ^ e) (hfu : 16 - i < fuel), J l rm_N_scaleTens (0, 0) "NumberTower$Natural" b_N_scaleTens 4 (Option.none : Option Jvm.ClassFile.FieldType) D jCl (jTys g) A (fun _ me => me.name = y_N_scaleTens.name) (jv ad N (fun F' => F' = upN ad g F k (a * 10 ^ n.toNat))) ad N 0 0 4 [(0, .ref (ad k)), (1, .int (iI n)), (2, .int (iI z)), (3, .int (iI (i : Int)))] [] (va_up (va_up F (k + 1) (.inl (g 0, 16, .inl (aI (dg v))))) k (.inr (2, [.ref (ad (k + 1)), .int (iI (lnw 30 v : Int))]))) := by
    intro fuel
    induction fuel with
    | zero => intro i e v z h1 he hv hfu; exact absurd hfu (Nat.not_lt_zero _)
    | succ fuel ih =>
      intro i e v z h1 he hv hfu
      refine J_iload_n 3 d_N_scaleTens_4 rfl rfl ?_
      refine J_bipush d_N_scaleTens_5 (i8_ok (by decide)) ?_
      refine J_if_icmpge (tgt := 32) d_N_scaleTens_7 (by decide) ⟨by omega, by omega⟩ ⟨by omega, by omega⟩ (fun c7 => ?_) (fun c7 => ?_)
      · refine J_pick (lv' := [(0, .ref (ad k)), (1, .int (iI n)), (2, .int (iI z))]) [0, 1, 2] rfl ?_
        exact lab32 e v z (by omega) hv
      · refine J_iload_n 2 d_N_scaleTens_10 rfl rfl ?_
        refine J_bipush d_N_scaleTens_11 (i8_ok (by decide)) ?_
        refine J_if_icmplt (tgt := 32) d_N_scaleTens_13 (by decide) ⟨by omega, by omega⟩ ⟨by omega, by omega⟩ (fun c13 => ?_) (fun c13 => ?_)
        · refine J_pick (lv' := [(0, .ref (ad k)), (1, .int (iI n)), (2, .int (iI z))]) [0, 1, 2] rfl ?_
          exact lab32 e v z (by omega) hv
        · refine J_aload_n 0 d_N_scaleTens_16 rfl rfl ?_
          refine J_ldc (z := 1000000000) d_N_scaleTens_17 wd_634 (by decide) ?_
          refine J_iconst d_N_scaleTens_19 ?_
          have hb0 : v < 2 ^ 480 := Nat.lt_of_le_of_lt (by rw [hv]; exact tens_le (by omega)) ht
          have hb1 : v * 1000000000 + 0 < 2 ^ 480 := Nat.lt_of_le_of_lt (by rw [hv, Nat.add_zero, Nat.mul_assoc, show 10 ^ e * 1000000000 = 10 ^ (e + 9) by rw [Nat.pow_add]]; exact tens_le (by omega)) ht
          refine J_callVv cw_N_64 nh_N_scale pn_N_scale rfl rfl (by omega) (by rw [va_up_self]) (As := [.int (iI 1000000000), .int (iI 0)]) (rest := []) rfl (Nat.le_of_ble_eq_true rfl) ⟨by decide, by decide⟩ rfl ⟨by decide, by decide⟩ d_N_scaleTens_20 (c_N_scale hfl (k := k) (a := v) (n := 1000000000) (m := 0) (by omega) (by rw [va_up_self]) (by rw [va_up_ne _ _ (by omega), va_up_self]) hb0 (by decide) (by decide) hb1) (fun  F2 hq => ?_)
          have eF2 := hq
          refine J_eqF (F2 := va_up (va_up F (k + 1) (.inl (g 0, 16, .inl (aI (dg (v * 1000000000 + 0)))))) k (.inr (2, [.ref (ad (k + 1)), .int (iI (lnw 30 (v * 1000000000 + 0) : Int))]))) (eF2.trans (Eq.trans (congrArg (fun q : Nat → va_E => va_up q k (.inr (2, [.ref (ad (k + 1)), .int (iI (lnw 30 (v * 1000000000 + 0) : Int))]))) (up_in1 (by omega))) (up_in0))) ?_
          refine J_iinc (j := 2) (b := z - 9) (lv' := [(2, .int (iI (z - 9))), (0, .ref (ad k)), (1, .int (iI n)), (3, .int (iI (i : Int)))]) d_N_scaleTens_23 rfl (by omega) (by decide) rfl ?_
          refine J_iinc (j := 3) (b := (i : Int) + 1) (lv' := [(3, .int (iI ((i : Int) + 1))), (2, .int (iI (z - 9))), (0, .ref (ad k)), (1, .int (iI n))]) d_N_scaleTens_26 rfl (by omega) (by decide) rfl ?_
          refine J_goto (tgt := 4) d_N_scaleTens_29 (by decide) ?_
          refine J_pick (lv' := [(0, .ref (ad k)), (1, .int (iI n)), (2, .int (iI (z - 9))), (3, .int (iI ((i : Int) + 1)))]) [2, 3, 1, 0] rfl ?_
          exact ih (i + 1) (e + 9) (v * 1000000000 + 0) (z - 9) (by omega) (by omega) (by rw [hv, Nat.add_zero, Nat.mul_assoc, Nat.pow_add]) (by omega)
  refine J_eqF (F2 := va_up (va_up F (k + 1) (.inl (g 0, 16, .inl (aI (dg a))))) k (.inr (2, [.ref (ad (k + 1)), .int (iI (lnw 30 a : Int))]))) (up_same2 hA hF) ?_
  exact loop4 ((16 - 0) + 1) 0 0 a n (by omega) (by omega) (by rw [Nat.pow_zero, Nat.mul_one]) (Nat.lt_succ_self _)
set_option maxRecDepth 100000 in
set_option maxHeartbeats 4000000 in
theorem c_N_setProduct {l : Launch} (hfl : l.flags = flags0) {D : va_G} {g : Nat → ClassId} {ad : Nat → Nat} {N : Nat} {F : Nat → va_E} {k m p a x y : Nat}
    (hk : k + 1 < N) (hF : F k = oN ad k (lnw 30 a : Int)) (hA : F (k + 1) = aN g (dg a)) (xhk : m + 1 < N) (xhF : F m = oN ad m (lnw 30 x : Int)) (xhA : F (m + 1) = aN g (dg x)) (xh : x < 2 ^ 480) (yhk : p + 1 < N) (yhF : F p = oN ad p (lnw 30 y : Int)) (yhA : F (p + 1) = aN g (dg y)) (yh : y < 2 ^ 480) (hd : k + 1 < m ∨ m + 1 < k) (hd2 : k + 1 < p ∨ p + 1 < k) (ht : x * y < 2 ^ 480) :
    JC l y_N_setProduct b_N_setProduct 11 (Option.none : Option Jvm.ClassFile.FieldType) rm_N_setProduct (0, 0) D jCl (jTys g) ad N F [.ref (ad k), .ref (ad m), .ref (ad p)] (jv ad N (fun F' => F' = upN ad g F k (x * y))) := by
  have l1 := cn_16 xh
  have l2 := cn_16 yh
  refine JC.go hfl (own := "NumberTower$Natural") (lv := [(0, .ref (ad k)), (1, .ref (ad m)), (2, .ref (ad p))]) rfl (by decide +kernel) (Nat.le_of_ble_eq_true rfl) rfl (fun A => ?_)
  refine J_aload_n 0 d_N_setProduct_0 rfl rfl ?_
  refine J_callVv cw_N_23 nh_N_clear pn_N_clear rfl rfl (by omega) hF (As := []) (rest := []) rfl (Nat.le_of_ble_eq_true rfl) ⟨by decide, by decide⟩ rfl ⟨by decide, by decide⟩ d_N_setProduct_1 (c_N_clear hfl (by omega) hF hA) (fun  F1 hq => ?_)
  have eF1 := hq
  refine J_eqF eF1 ?_
  refine J_iconst d_N_setProduct_4 ?_
  refine J_istore_n (lv' := [(3, .int (iI 0)), (0, .ref (ad k)), (1, .ref (ad m)), (2, .ref (ad p))]) d_N_setProduct_5 rfl (by decide) rfl ?_
  have lab122 : J l rm_N_setProduct (0, 0) "NumberTower$Natural" b_N_setProduct 11 (Option.none : Option Jvm.ClassFile.FieldType) D jCl (jTys g) A (fun _ me => me.name = y_N_setProduct.name) (jv ad N (fun F' => F' = upN ad g F k (x * y))) ad N 0 0 122 [(0, .ref (ad k)), (1, .ref (ad m)), (2, .ref (ad p))] [] (va_up (va_up F (k + 1) (.inl (g 0, 16, .inl (aI (dg (x * y)))))) k (.inr (2, [.ref (ad (k + 1)), .int (iI (lnw 30 0 : Int))]))) := by
    refine J_aload_n 0 d_N_setProduct_122 rfl rfl ?_
    refine J_aload_n 1 d_N_setProduct_123 rfl rfl ?_
    refine gf_N_19 (by omega) (by rw [va_up_ne _ _ (by omega), va_up_ne _ _ (by omega)]; exact xhF) rfl d_N_setProduct_124 ?_
    refine J_aload_n 2 d_N_setProduct_127 rfl rfl ?_
    refine gf_N_19 (by omega) (by rw [va_up_ne _ _ (by omega), va_up_ne _ _ (by omega)]; exact yhF) rfl d_N_setProduct_128 ?_
    refine J_iadd d_N_setProduct_131 ?_
    refine J_callVv cw_N_28 nh_N_trim pn_N_trim rfl rfl (by omega) (by rw [va_up_self]) (As := [.int (iI ((lnw 30 x : Int) + (lnw 30 y : Int)))]) (rest := []) rfl (Nat.le_of_ble_eq_true rfl) ⟨by decide, by decide⟩ rfl ⟨by decide, by decide⟩ d_N_setProduct_132 (c_N_trimC hfl (n := x * y) (by omega) (by rw [va_up_self]) (by rw [va_up_ne _ _ (by omega), va_up_self]) ht ⟨by have := lnw_mul (a := x) (b := y); omega, by omega⟩) (fun  F2 hq => ?_)
    have eF2 := hq
    refine J_eqF (F2 := va_up (va_up F (k + 1) (.inl (g 0, 16, .inl (aI (dg (x * y)))))) k (.inr (2, [.ref (ad (k + 1)), .int (iI (lnw 30 (x * y) : Int))]))) (eF2.trans (up_in0)) ?_
    refine J_vret rfl d_N_setProduct_135 ⟨by decide, by decide⟩ ?_
    exact ⟨rfl, rfl, rfl, rfl⟩
  refine J_pick (lv' := [(0, .ref (ad k)), (1, .ref (ad m)), (2, .ref (ad p)), (3, .int (iI 0))]) [1, 2, 3, 0] rfl ?_
  have loop6 : ∀ (fuel : Nat) (i : Nat) (v : Nat) (h1 : i ≤ 16) (hv : v = x % 2 ^ (30 * i) * y) (hfu : 16 - i < fuel), J l rm_N_setProduct (0, 0) "NumberTower$Natural" b_N_setProduct 11 (Option.none : Option Jvm.ClassFile.FieldType) D jCl (jTys g) A (fun _ me => me.name = y_N_setProduct.name) (jv ad N (fun F' => F' = upN ad g F k (x * y))) ad N 0 0 6 [(0, .ref (ad k)), (1, .ref (ad m)), (2, .ref (ad p)), (3, .int (iI (i : Int)))] [] (va_up (va_up F (k + 1) (.inl (g 0, 16, .inl (aI (dg v))))) k (.inr (2, [.ref (ad (k + 1)), .int (iI (lnw 30 0 : Int))]))) := by
    intro fuel
    induction fuel with
    | zero => intro i v h1 hv hfu; exact absurd hfu (Nat.not_lt_zero _)
    | succ fuel ih =>
      intro i v h1 hv hfu
      have hvb : v < 2 ^ 480 := Nat.lt_of_le_of_lt (by rw [hv]; exact prod_le x y i) ht
      have hTe : v + dgt 30 x i * y * 2 ^ (30 * i) = x % 2 ^ (30 * (i + 1)) * y := by rw [hv, ← prod_S]
      have hTb : v + dgt 30 x i * y * 2 ^ (30 * i) < 2 ^ 480 := Nat.lt_of_le_of_lt (by rw [hTe]; exact prod_le x y _) ht
      refine J_iload_n 3 d_N_setProduct_6 rfl rfl ?_
      refine J_aload_n 1 d_N_setProduct_7 rfl rfl ?_
      refine gf_N_19 (by omega) (by rw [va_up_ne _ _ (by omega), va_up_ne _ _ (by omega)]; exact xhF) rfl d_N_setProduct_8 ?_
      refine J_if_icmpge (tgt := 122) d_N_setProduct_11 (by decide) ⟨by omega, by omega⟩ ⟨by omega, by omega⟩ (fun c11 => ?_) (fun c11 => ?_)
      · refine J_pick (lv' := [(0, .ref (ad k)), (1, .ref (ad m)), (2, .ref (ad p))]) [0, 1, 2] rfl ?_
        refine J_eqF (F2 := va_up (va_up F (k + 1) (.inl (g 0, 16, .inl (aI (dg (x * y)))))) k (.inr (2, [.ref (ad (k + 1)), .int (iI (lnw 30 0 : Int))]))) (congrArg (fun qq => va_up (va_up F (k + 1) (.inl (g 0, 16, .inl (aI qq)))) k (.inr (2, [.ref (ad (k + 1)), .int (iI (lnw 30 0 : Int))]))) (congrArg dg (by rw [hv, low_e (by omega)]))) ?_
        exact lab122  
      · refine J_iload_n 3 d_N_setProduct_14 rfl rfl ?_
        refine J_bipush d_N_setProduct_15 (i8_ok (by decide)) ?_
        refine J_if_icmpge (tgt := 122) d_N_setProduct_17 (by decide) ⟨by omega, by omega⟩ ⟨by omega, by omega⟩ (fun c17 => ?_) (fun c17 => ?_)
        · refine J_pick (lv' := [(0, .ref (ad k)), (1, .ref (ad m)), (2, .ref (ad p))]) [0, 1, 2] rfl ?_
          refine J_eqF (F2 := va_up (va_up F (k + 1) (.inl (g 0, 16, .inl (aI (dg (x * y)))))) k (.inr (2, [.ref (ad (k + 1)), .int (iI (lnw 30 0 : Int))]))) (congrArg (fun qq => va_up (va_up F (k + 1) (.inl (g 0, 16, .inl (aI qq)))) k (.inr (2, [.ref (ad (k + 1)), .int (iI (lnw 30 0 : Int))]))) (congrArg dg (by rw [hv, low_e (by omega)]))) ?_
          exact lab122  
        · refine J_aload_n 1 d_N_setProduct_20 rfl rfl ?_
          refine gf_N_9 (by omega) (by rw [va_up_ne _ _ (by omega), va_up_ne _ _ (by omega)]; exact xhF) rfl d_N_setProduct_21 ?_
          refine J_iload_n 3 d_N_setProduct_24 rfl rfl ?_
          refine J_iaload 0 rfl (by omega) (by rw [va_up_ne _ _ (by omega), va_up_ne _ _ (by omega)]; exact xhA) (by omega) d_N_setProduct_25 ?_
          refine J_topi (r := (dg x) i) (congrArg (fun q => iI ((dg x) q)) (by omega)) ?_
          refine J_i2l d_N_setProduct_26 (inh (dgh x) i) ?_
          refine J_lstore (lv' := [(4, .long (lI ((dg x) i))), (0, .ref (ad k)), (1, .ref (ad m)), (2, .ref (ad p)), (3, .int (iI (i : Int)))]) d_N_setProduct_27 (by decide) rfl ?_
          refine J_lconst (v := 0) d_N_setProduct_29 rfl ?_
          refine J_lstore (lv' := [(6, .long (lI 0)), (4, .long (lI ((dg x) i))), (0, .ref (ad k)), (1, .ref (ad m)), (2, .ref (ad p)), (3, .int (iI (i : Int)))]) d_N_setProduct_30 (by decide) rfl ?_
          refine J_iconst d_N_setProduct_32 ?_
          refine J_istore (lv' := [(8, .int (iI 0)), (6, .long (lI 0)), (4, .long (lI ((dg x) i))), (0, .ref (ad k)), (1, .ref (ad m)), (2, .ref (ad p)), (3, .int (iI (i : Int)))]) d_N_setProduct_33 (by decide) rfl ?_
          have lab116 : J l rm_N_setProduct (0, 0) "NumberTower$Natural" b_N_setProduct 11 (Option.none : Option Jvm.ClassFile.FieldType) D jCl (jTys g) A (fun _ me => me.name = y_N_setProduct.name) (jv ad N (fun F' => F' = upN ad g F k (x * y))) ad N 0 0 116 [(0, .ref (ad k)), (1, .ref (ad m)), (2, .ref (ad p)), (3, .int (iI (i : Int)))] [] (va_up (va_up F (k + 1) (.inl (g 0, 16, .inl (aI (dg (v + dgt 30 x i * y * 2 ^ (30 * i))))))) k (.inr (2, [.ref (ad (k + 1)), .int (iI (lnw 30 0 : Int))]))) := by
            refine J_iinc (j := 3) (b := (i : Int) + 1) (lv' := [(3, .int (iI ((i : Int) + 1))), (0, .ref (ad k)), (1, .ref (ad m)), (2, .ref (ad p))]) d_N_setProduct_116 rfl (by omega) (by decide) rfl ?_
            refine J_goto (tgt := 6) d_N_setProduct_119 (by decide) ?_
            refine J_pick (lv' := [(0, .ref (ad k)), (1, .ref (ad m)), (2, .ref (ad p)), (3, .int (iI ((i : Int) + 1)))]) [1, 2, 3, 0] rfl ?_
            exact ih (i + 1) (v + dgt 30 x i * y * 2 ^ (30 * i)) (by omega) hTe (by omega)
          refine J_pick (lv' := [(0, .ref (ad k)), (1, .ref (ad m)), (2, .ref (ad p)), (3, .int (iI (i : Int))), (4, .long (lI ((dg x) i))), (6, .long (lI 0)), (8, .int (iI 0))]) [3, 4, 5, 6, 2, 1, 0] rfl ?_
          have loop35 : ∀ (fuel : Nat) (j : Nat) (c : Int) (f : Nat → Int) (h2 : i + j ≤ 16 ∧ j ≤ 16) (hc : c = (cy v (dgt 30 x i * (y % 2 ^ (30 * j)) * 2 ^ (30 * i)) (i + j) : Int)) (hf : f = mix (i + j) (dg (v + dgt 30 x i * y * 2 ^ (30 * i))) (dg v)) (hfu : 16 - j < fuel), J l rm_N_setProduct (0, 0) "NumberTower$Natural" b_N_setProduct 11 (Option.none : Option Jvm.ClassFile.FieldType) D jCl (jTys g) A (fun _ me => me.name = y_N_setProduct.name) (jv ad N (fun F' => F' = upN ad g F k (x * y))) ad N 0 0 35 [(0, .ref (ad k)), (1, .ref (ad m)), (2, .ref (ad p)), (3, .int (iI (i : Int))), (4, .long (lI ((dg x) i))), (6, .long (lI c)), (8, .int (iI (j : Int)))] [] (va_up (va_up F (k + 1) (.inl (g 0, 16, .inl (aI f)))) k (.inr (2, [.ref (ad (k + 1)), .int (iI (lnw 30 0 : Int))]))) := by
            intro fuel
            induction fuel with
            | zero => intro j c f h2 hc hf hfu; exact absurd hfu (Nat.not_lt_zero _)
            | succ fuel ih =>
              intro j c f h2 hc hf hfu
              have hc2 := cy_le (X := v) (prod_c (dgt 30 x i) y i j)
              have fi : f (i + j) = dg v (i + j) := by rw [hf]; exact mix_at
              have hdx := dg_nat x i
              have hdy := dg_nat y j
              have hdv := dg_nat v (i + j)
              have bx := dgt_b x i
              have bv := dgt_b v (i + j)
              have hpr : dg x i * dg y j = ((dgt 30 x i * dgt 30 y j : Nat) : Int) := by rw [hdx, hdy]; push_cast; rfl
              have hpb := dprod (x := dgt 30 x i) (f := dgt 30 y j) rfl (dgt_b y j)
              refine J_iload_n 3 d_N_setProduct_35 rfl rfl ?_
              refine J_iload 6 d_N_setProduct_36 rfl ?_
              refine J_iadd d_N_setProduct_38 ?_
              refine J_bipush d_N_setProduct_39 (i8_ok (by decide)) ?_
              refine J_if_icmpge (tgt := 116) d_N_setProduct_41 (by decide) ⟨by omega, by omega⟩ ⟨by omega, by omega⟩ (fun c41 => ?_) (fun c41 => ?_)
              · refine J_pick (lv' := [(0, .ref (ad k)), (1, .ref (ad m)), (2, .ref (ad p)), (3, .int (iI (i : Int)))]) [0, 1, 2, 3] rfl ?_
                have hend := show f = dg (v + dgt 30 x i * y * 2 ^ (30 * i)) from
                  mix_end (X := v) (Y := dgt 30 x i * (y % 2 ^ (30 * j)) * 2 ^ (30 * i)) hf (fun j hj => rfl) hTb hvb hc (by
                    by_cases q : 16 ≤ i + j
                    · exact Or.inl q
                    · exact Or.inr ⟨by omega, by rw [low_e (by omega)]⟩)
                refine J_eqF (F2 := va_up (va_up F (k + 1) (.inl (g 0, 16, .inl (aI (dg ((v + dgt 30 x i * y * 2 ^ (30 * i)))))))) k (.inr (2, [.ref (ad (k + 1)), .int (iI (lnw 30 0 : Int))]))) (congrArg (fun qq => va_up (va_up F (k + 1) (.inl (g 0, 16, .inl (aI qq)))) k (.inr (2, [.ref (ad (k + 1)), .int (iI (lnw 30 0 : Int))]))) hend) ?_
                exact lab116  
              · have lab60 : J l rm_N_setProduct (0, 0) "NumberTower$Natural" b_N_setProduct 11 (Option.none : Option Jvm.ClassFile.FieldType) D jCl (jTys g) A (fun _ me => me.name = y_N_setProduct.name) (jv ad N (fun F' => F' = upN ad g F k (x * y))) ad N 0 0 60 [(0, .ref (ad k)), (1, .ref (ad m)), (2, .ref (ad p)), (3, .int (iI (i : Int))), (4, .long (lI ((dg x) i))), (6, .long (lI c)), (8, .int (iI (j : Int)))] [] (va_up (va_up F (k + 1) (.inl (g 0, 16, .inl (aI f)))) k (.inr (2, [.ref (ad (k + 1)), .int (iI (lnw 30 0 : Int))]))) := by
                  refine J_aload_n 0 d_N_setProduct_60 rfl rfl ?_
                  refine gf_N_9 (by omega) (by rw [va_up_self]) rfl d_N_setProduct_61 ?_
                  refine J_iload_n 3 d_N_setProduct_64 rfl rfl ?_
                  refine J_iload 6 d_N_setProduct_65 rfl ?_
                  refine J_iadd d_N_setProduct_67 ?_
                  refine J_iaload 0 rfl (by omega) (by rw [va_up_ne _ _ (by omega), va_up_self]) (by omega) d_N_setProduct_68 ?_
                  refine J_topi (r := f (i + j)) (congrArg (fun q => iI (f q)) (by omega)) ?_
                  refine J_i2l d_N_setProduct_69 (by rw [fi]; exact inh (dgh v) _) ?_
                  refine J_lload 4 d_N_setProduct_70 rfl ?_
                  refine J_aload_n 2 d_N_setProduct_72 rfl rfl ?_
                  refine gf_N_9 (by omega) (by rw [va_up_ne _ _ (by omega), va_up_ne _ _ (by omega)]; exact yhF) rfl d_N_setProduct_73 ?_
                  refine J_iload 6 d_N_setProduct_76 rfl ?_
                  refine J_iaload 0 rfl (by omega) (by rw [va_up_ne _ _ (by omega), va_up_ne _ _ (by omega)]; exact yhA) (by omega) d_N_setProduct_78 ?_
                  refine J_topi (r := (dg y) j) (congrArg (fun q => iI ((dg y) q)) (by omega)) ?_
                  refine J_i2l d_N_setProduct_79 (inh (dgh y) j) ?_
                  refine J_lmul d_N_setProduct_80 ?_
                  refine J_ladd d_N_setProduct_81 ?_
                  refine J_lload 5 d_N_setProduct_82 rfl ?_
                  refine J_ladd d_N_setProduct_84 ?_
                  refine J_lstore (lv' := [(9, .long (lI (((f (i + j)) + (((dg x) i) * ((dg y) j))) + c))), (0, .ref (ad k)), (1, .ref (ad m)), (2, .ref (ad p)), (3, .int (iI (i : Int))), (4, .long (lI ((dg x) i))), (6, .long (lI c)), (8, .int (iI (j : Int)))]) d_N_setProduct_85 (by decide) rfl ?_
                  refine J_aload_n 1 d_N_setProduct_87 rfl rfl ?_
                  refine gf_N_9 (by omega) (by rw [va_up_self]) rfl d_N_setProduct_88 ?_
                  refine J_iload_n 4 d_N_setProduct_91 rfl rfl ?_
                  refine J_iload 7 d_N_setProduct_92 rfl ?_
                  refine J_iadd d_N_setProduct_94 ?_
                  refine J_lload 0 d_N_setProduct_95 rfl ?_
                  refine J_ldc2 (z := 1073741823) d_N_setProduct_97 wd_310 (by decide) ?_
                  refine J_land (r := (((f (i + j)) + (((dg x) i) * ((dg y) j))) + c) % 1073741824) d_N_setProduct_100 (lI_and 30 (by decide)) ?_
                  refine J_l2i d_N_setProduct_101 ?_
                  refine J_iastore 0 rfl (by omega) (by rw [va_up_ne _ _ (by omega), va_up_self]) (by omega) d_N_setProduct_102 ?_
                  refine J_eqF (F2 := va_up (va_up (va_up F (k + 1) (.inl (g 0, 16, .inl (aI f)))) k (.inr (2, [.ref (ad (k + 1)), .int (iI (lnw 30 0 : Int))]))) (k + 1) (.inl (g 0, 16, .inl (aI (va_up f (i + j) ((((f (i + j)) + (((dg x) i) * ((dg y) j))) + c) % 1073741824)))))) (congrArg (fun q => va_up (va_up (va_up F (k + 1) (.inl (g 0, 16, .inl (aI f)))) k (.inr (2, [.ref (ad (k + 1)), .int (iI (lnw 30 0 : Int))]))) (k + 1) (.inl (g 0, 16, .inl (aI (va_up f q ((((f (i + j)) + (((dg x) i) * ((dg y) j))) + c) % 1073741824)))))) (by omega : ((i : Int) + (j : Int)).toNat = i + j)) ?_
                  refine J_eqF (F2 := va_up (va_up F (k + 1) (.inl (g 0, 16, .inl (aI (va_up f (i + j) ((((f (i + j)) + (((dg x) i) * ((dg y) j))) + c) % 1073741824)))))) k (.inr (2, [.ref (ad (k + 1)), .int (iI (lnw 30 0 : Int))]))) (up_in1 (by omega)) ?_
                  refine J_lload 0 d_N_setProduct_103 rfl ?_
                  refine J_bipush d_N_setProduct_105 (i8_ok (by decide)) ?_
                  refine J_lushr (r := (((f (i + j)) + (((dg x) i) * ((dg y) j))) + c) % 18446744073709551616 / 1073741824) d_N_setProduct_107 (lI_ushr 30 (by decide)) ?_
                  refine J_lstore (lv' := [(6, .long (lI ((((f (i + j)) + (((dg x) i) * ((dg y) j))) + c) % 18446744073709551616 / 1073741824))), (9, .long (lI (((f (i + j)) + (((dg x) i) * ((dg y) j))) + c))), (0, .ref (ad k)), (1, .ref (ad m)), (2, .ref (ad p)), (3, .int (iI (i : Int))), (4, .long (lI ((dg x) i))), (8, .int (iI (j : Int)))]) d_N_setProduct_108 (by decide) rfl ?_
                  refine J_iinc (j := 7) (b := (j : Int) + 1) (lv' := [(8, .int (iI ((j : Int) + 1))), (6, .long (lI ((((f (i + j)) + (((dg x) i) * ((dg y) j))) + c) % 18446744073709551616 / 1073741824))), (9, .long (lI (((f (i + j)) + (((dg x) i) * ((dg y) j))) + c))), (0, .ref (ad k)), (1, .ref (ad m)), (2, .ref (ad p)), (3, .int (iI (i : Int))), (4, .long (lI ((dg x) i)))]) d_N_setProduct_110 rfl (by omega) (by decide) rfl ?_
                  refine J_goto (tgt := 35) d_N_setProduct_113 (by decide) ?_
                  refine J_pick (lv' := [(0, .ref (ad k)), (1, .ref (ad m)), (2, .ref (ad p)), (3, .int (iI (i : Int))), (4, .long (lI ((dg x) i))), (6, .long (lI ((((f (i + j)) + (((dg x) i) * ((dg y) j))) + c) % 18446744073709551616 / 1073741824))), (8, .int (iI ((j : Int) + 1)))]) [3, 4, 5, 6, 7, 1, 0] rfl ?_
                  refine ih (j + 1) ((((f (i + j)) + (((dg x) i) * ((dg y) j))) + c) % 18446744073709551616 / 1073741824) (va_up f (i + j) ((((f (i + j)) + (((dg x) i) * ((dg y) j))) + c) % 1073741824)) (by omega) ?_ ?_ (by omega)
                  · have e1 := cy_step (X := v) (t := i + j) (prod_Y (dgt 30 x i) y i j)
                    rw [show i + (j + 1) = i + j + 1 by omega, e1, fi, hpr]
                    omega
                  · have e1 := cy_dig (X := v) (t := i + j) (prod_T v (dgt 30 x i) y i j)
                    rw [fi, hf]
                    refine mix_up ?_
                    rw [hpr, dg_nat (v + dgt 30 x i * y * 2 ^ (30 * i)) (i + j), e1]
                    omega
                refine J_iload 6 d_N_setProduct_44 rfl ?_
                refine J_aload_n 2 d_N_setProduct_46 rfl rfl ?_
                refine gf_N_19 (by omega) (by rw [va_up_ne _ _ (by omega), va_up_ne _ _ (by omega)]; exact yhF) rfl d_N_setProduct_47 ?_
                refine J_if_icmplt (tgt := 60) d_N_setProduct_50 (by decide) ⟨by omega, by omega⟩ ⟨by omega, by omega⟩ (fun c50 => ?_) (fun c50 => ?_)
                · exact lab60  
                · refine J_lload 5 d_N_setProduct_53 rfl ?_
                  refine J_lconst (v := 0) d_N_setProduct_55 rfl ?_
                  refine J_lcmpeq (tgt := 116) d_N_setProduct_56 d_N_setProduct_57 (by decide) ⟨by omega, by omega⟩ ⟨by omega, by omega⟩ (fun c56 => ?_) (fun c56 => ?_)
                  · refine J_pick (lv' := [(0, .ref (ad k)), (1, .ref (ad m)), (2, .ref (ad p)), (3, .int (iI (i : Int)))]) [0, 1, 2, 3] rfl ?_
                    have hend := show f = dg (v + dgt 30 x i * y * 2 ^ (30 * i)) from
                      mix_end (X := v) (Y := dgt 30 x i * (y % 2 ^ (30 * j)) * 2 ^ (30 * i)) hf (fun j hj => rfl) hTb hvb hc (by
                        by_cases q : 16 ≤ i + j
                        · exact Or.inl q
                        · exact Or.inr ⟨by omega, by rw [low_e (by omega)]⟩)
                    refine J_eqF (F2 := va_up (va_up F (k + 1) (.inl (g 0, 16, .inl (aI (dg ((v + dgt 30 x i * y * 2 ^ (30 * i)))))))) k (.inr (2, [.ref (ad (k + 1)), .int (iI (lnw 30 0 : Int))]))) (congrArg (fun qq => va_up (va_up F (k + 1) (.inl (g 0, 16, .inl (aI qq)))) k (.inr (2, [.ref (ad (k + 1)), .int (iI (lnw 30 0 : Int))]))) hend) ?_
                    exact lab116  
                  · exact lab60  
          exact loop35 ((16 - 0) + 1) 0 (0 : Int) (dg v) (by omega) (by rw [Nat.mul_zero 30, Nat.pow_zero, Nat.mod_one, Nat.mul_zero, Nat.zero_mul]; unfold cy; rw [Nat.add_zero, Nat.div_eq_of_lt (Nat.mod_lt _ (Nat.two_pow_pos _))]; rfl) (mix_low (fun jj hj => by rw [dg_nat, dg_nat, dgt_low (i := i) (by omega)])) (Nat.lt_succ_self _)
  exact loop6 ((16 - 0) + 1) 0 0 (by omega) (by rw [Nat.mul_zero, Nat.pow_zero, Nat.mod_one, Nat.zero_mul]) (Nat.lt_succ_self _)
