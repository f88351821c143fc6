/-! the class's desk: powers modulo, hashes -/
theorem pm_sq {b e m : Nat} : b ^ e % m * (b ^ e % m) % m = b ^ (2 * e) % m := by
  rw [← Nat.mul_mod, ← Nat.pow_add, Nat.two_mul]
theorem pm_mul {b e m : Nat} : b ^ e % m * b % m = b ^ (e + 1) % m := by
  rw [Nat.mod_mul_mod, ← Nat.pow_succ]
def modB (sx : Int) (ux m : Nat) : Nat := if sx < 0 ∧ ux % m ≠ 0 then m - ux % m else ux % m
theorem modB_lt {sx : Int} {ux m : Nat} (h : 0 < m) : modB sx ux m < m := by
  have := Nat.mod_lt ux h
  unfold modB; split <;> omega
/-- what a hash is -/
def hashP (sx : Int) (ux dx : Nat) (z : Int) : Prop :=
  ∃ amt : Nat, amt < 2305843009213693951 ∧ ((Nat.gcd (dx % 2305843009213693951) 2305843009213693951 = 1 ∧ ∃ v, v < 2305843009213693951 ∧ dx % 2305843009213693951 * v % 2305843009213693951 = 1 % 2305843009213693951 ∧ amt = ux % 2305843009213693951 * v % 2305843009213693951) ∨ (Nat.gcd (dx % 2305843009213693951) 2305843009213693951 ≠ 1 ∧ amt = 314159)) ∧ z = if sx * amt = -1 then -2 else sx * amt
set_option maxRecDepth 100000 in
set_option maxHeartbeats 4000000 in
theorem c_D_raiseModulo {l : Launch} (hfl : l.flags = flags0) {D : va_G} {g : Nat → ClassId} {ad : Nat → Nat} {N : Nat} {F0 : Nat → va_E} {W : Nat → Nat} {K S : Nat → Int} {x ux dx : Nat} {kx sx : Int} {pm m : Nat} {y : Int}
    (hN : 109 ≤ N) (hW : bW W) (hDk : F0 9 = oD ad) (hxp : isU x) (hx2 : x = 2 ∨ 58 ≤ x) (hx1 : W (x + 1) = ux) (hx3 : W (x + 3) = dx) (hxk : K x = kx) (hxs : S x = sx) (hxr : -1 ≤ sx ∧ sx ≤ 1 ∧ -1 ≤ kx ∧ kx ≤ 2) (hxb : ux < 2 ^ 154 ∧ dx < 2 ^ 154) (hpm : isN pm) (hpm2 : pm = 3 ∨ 59 ≤ pm) (hm : W pm = m) (hm0 : 0 < m) (hmb : m < 2 ^ 120) (hy : -999 ≤ y ∧ y ≤ 999) :
    JC l y_D_raiseModulo b_D_raiseModulo 6 (Option.some Jvm.ClassFile.FieldType.boolean) rm_D_raiseModulo (0, 0) D jCl (jTys g) ad N (cF ad g F0 W K S) [.ref (ad 9), .ref (ad x), .int (iI y), .ref (ad pm)] (ji ad N (fun z F' => ∃ (W' : Nat → Nat) (K' S' : Nat → Int), ((z = 0 ∧ y < 0 ∧ Nat.gcd (modB sx ux m) m ≠ 1) ∨ (z = 1 ∧ ∃ b2, b2 < m ∧ (0 ≤ y → b2 = modB sx ux m) ∧ (y < 0 → Nat.gcd (modB sx ux m) m = 1 ∧ modB sx ux m * b2 % m = 1 % m) ∧ K' 10 = 0 ∧ W' 11 = b2 ^ y.natAbs % m ∧ W' 13 = 1 ∧ S' 10 = (if b2 ^ y.natAbs % m = 0 then 0 else 1))) ∧ bW W' ∧ (∀ j, (j < 10 ∨ 40 < j) → W' j = W j ∧ K' j = K j ∧ S' j = S j) ∧ F' = cF ad g F0 W' K' S')) := by
  have hx4 := (isU_1 hxp).1
  have hpm3 := (isN_1 hpm).1
  have hrm := Nat.mod_lt ux hm0
  have hm4 : m < 2 ^ 450 := Nat.lt_trans hmb (by decide)
  refine JC.go hfl (own := "NumberTower$Desk") (lv := [(0, .ref (ad 9)), (1, .ref (ad x)), (2, .int (iI y)), (3, .ref (ad pm))]) rfl (by decide +kernel) (Nat.le_of_ble_eq_true rfl) rfl (fun A => ?_)
  refine J_aload_n 0 d_D_raiseModulo_0 rfl rfl ?_
  refine gf_D_49 (by omega) ((cF_0 (by decide)).trans hDk) rfl d_D_raiseModulo_1 ?_
  refine J_aload_n 3 d_D_raiseModulo_4 rfl rfl ?_
  refine J_callVv cw_D_89 nh_N_copyFrom pn_N_copyFrom rfl rfl (by omega) (cF_N (by decide) rfl) (As := [.ref (ad pm)]) (rest := []) rfl (Nat.le_of_ble_eq_true rfl) ⟨by decide, by decide⟩ rfl ⟨by decide, by decide⟩ d_D_raiseModulo_5 (n_copyFrom hfl (F0 := F0) (W := W) (K := K) (S := S) (k := 39) (m := pm) (hN := by omega) (hW := hW) (hk := (by decide)) (hm := hpm) (x := m) (hx := hm) (hd := (by omega))) (fun  F4 hq => ?_)
  obtain ⟨hW2, eF3⟩ := hq
  refine J_eqF (F2 := cF ad g F0 (va_up W 39 m) K S) eF3 ?_
  refine J_aload_n 0 d_D_raiseModulo_8 rfl rfl ?_
  refine gf_D_46 (by omega) ((cF_0 (by decide)).trans hDk) rfl d_D_raiseModulo_9 ?_
  refine J_aload_n 1 d_D_raiseModulo_12 rfl rfl ?_
  refine gf_D_76 (by omega) (cF_U hxp hxk hxs) rfl d_D_raiseModulo_13 ?_
  refine J_callVv cw_D_89 nh_N_copyFrom pn_N_copyFrom rfl rfl (by omega) (cF_N (by decide) (va_up_ne _ _ (by decide))) (As := [.ref (ad (x + 1))]) (rest := []) rfl (Nat.le_of_ble_eq_true rfl) ⟨by decide, by decide⟩ rfl ⟨by decide, by decide⟩ d_D_raiseModulo_16 (n_copyFrom hfl (F0 := F0) (W := va_up W 39 m) (K := K) (S := S) (k := 37) (m := x + 1) (hN := by omega) (hW := hW2) (hk := (by decide)) (hm := (isU_1 hxp).2.1) (x := ux) (hx := ((va_up_ne _ _ (by omega)).trans hx1)) (hd := (by omega))) (fun  F8 hq => ?_)
  obtain ⟨hW6, eF7⟩ := hq
  refine J_eqF (F2 := cF ad g F0 (va_up (va_up W 39 m) 37 ux) K S) eF7 ?_
  refine J_aload_n 0 d_D_raiseModulo_19 rfl rfl ?_
  refine gf_D_46 (by omega) ((cF_0 (by decide)).trans hDk) rfl d_D_raiseModulo_20 ?_
  refine J_aload_n 0 d_D_raiseModulo_23 rfl rfl ?_
  refine gf_D_49 (by omega) ((cF_0 (by decide)).trans hDk) rfl d_D_raiseModulo_24 ?_
  refine J_aload_n 0 d_D_raiseModulo_27 rfl rfl ?_
  refine gf_D_27 (by omega) ((cF_0 (by decide)).trans hDk) rfl d_D_raiseModulo_28 ?_
  refine J_callVv cw_D_117 nh_N_divide pn_N_divide rfl rfl (by omega) (cF_N (by decide) (va_up_self ..)) (As := [.ref (ad 39), .ref (ad 25)]) (rest := []) rfl (Nat.le_of_ble_eq_true rfl) ⟨by decide, by decide⟩ rfl ⟨by decide, by decide⟩ d_D_raiseModulo_31 (n_divide hfl (F0 := F0) (W := va_up (va_up W 39 m) 37 ux) (K := K) (S := S) (k := 37) (m := 39) (p := 25) (hN := by omega) (hW := hW6) (hk := (by decide)) (hm := (by decide)) (hp := (by decide)) (x := ux) (hx := (va_up_self ..)) (y := m) (hy := ((va_up_ne _ _ (by decide)).trans (va_up_self ..))) (hd := (by decide)) (hd1 := (by decide)) (hd2 := (by decide)) (hx4 := Nat.lt_trans hxb.1 (by decide)) (hy4 := hm4)) (fun  F12 hq => ?_)
  obtain ⟨hW10, eF11⟩ := hq
  have hW13 := (congrArg bW (up_in1 (by decide))).mp hW10
  refine J_eqF (F2 := cF ad g F0 (va_up (va_up (va_up W 39 m) 37 (ux % m)) 25 (ux / m)) K S) (eF11.trans (congrArg (fun qq => cF ad g F0 qq K S) (up_in1 (by decide)))) ?_
  refine J_aload_n 1 d_D_raiseModulo_34 rfl rfl ?_
  have lab84 : ∀ (W1 : Nat → Nat) (hW1 : bW W1) (hf1 : ∀ j, (j < 10 ∨ 40 < j) → W1 j = W j) (h39 : W1 39 = m) (h37 : W1 37 = modB sx ux m) , J l rm_D_raiseModulo (0, 0) "NumberTower$Desk" b_D_raiseModulo 6 (Option.some Jvm.ClassFile.FieldType.boolean) D jCl (jTys g) A (fun _ me => me.name = y_D_raiseModulo.name) (ji ad N (fun z F' => ∃ (W' : Nat → Nat) (K' S' : Nat → Int), ((z = 0 ∧ y < 0 ∧ Nat.gcd (modB sx ux m) m ≠ 1) ∨ (z = 1 ∧ ∃ b2, b2 < m ∧ (0 ≤ y → b2 = modB sx ux m) ∧ (y < 0 → Nat.gcd (modB sx ux m) m = 1 ∧ modB sx ux m * b2 % m = 1 % m) ∧ K' 10 = 0 ∧ W' 11 = b2 ^ y.natAbs % m ∧ W' 13 = 1 ∧ S' 10 = (if b2 ^ y.natAbs % m = 0 then 0 else 1))) ∧ bW W' ∧ (∀ j, (j < 10 ∨ 40 < j) → W' j = W j ∧ K' j = K j ∧ S' j = S j) ∧ F' = cF ad g F0 W' K' S')) ad N 0 0 84 [(0, .ref (ad 9)), (1, .ref (ad x)), (2, .int (iI y)), (3, .ref (ad pm))] [] (cF ad g F0 W1 K S) := by
    intro W1 hW1 hf1 h39 h37
    refine J_iload_n 2 d_D_raiseModulo_84 rfl rfl ?_
    have lab97 : ∀ (W2 : Nat → Nat) (b2 : Nat) (hW2 : bW W2) (hf2 : ∀ j, (j < 10 ∨ 40 < j) → W2 j = W j) (h392 : W2 39 = m) (h372 : W2 37 = b2) (hb2 : b2 < m ∧ (0 ≤ y → b2 = modB sx ux m) ∧ (y < 0 → Nat.gcd (modB sx ux m) m = 1 ∧ modB sx ux m * b2 % m = 1 % m)) , J l rm_D_raiseModulo (0, 0) "NumberTower$Desk" b_D_raiseModulo 6 (Option.some Jvm.ClassFile.FieldType.boolean) D jCl (jTys g) A (fun _ me => me.name = y_D_raiseModulo.name) (ji ad N (fun z F' => ∃ (W' : Nat → Nat) (K' S' : Nat → Int), ((z = 0 ∧ y < 0 ∧ Nat.gcd (modB sx ux m) m ≠ 1) ∨ (z = 1 ∧ ∃ b2, b2 < m ∧ (0 ≤ y → b2 = modB sx ux m) ∧ (y < 0 → Nat.gcd (modB sx ux m) m = 1 ∧ modB sx ux m * b2 % m = 1 % m) ∧ K' 10 = 0 ∧ W' 11 = b2 ^ y.natAbs % m ∧ W' 13 = 1 ∧ S' 10 = (if b2 ^ y.natAbs % m = 0 then 0 else 1))) ∧ bW W' ∧ (∀ j, (j < 10 ∨ 40 < j) → W' j = W j ∧ K' j = K j ∧ S' j = S j) ∧ F' = cF ad g F0 W' K' S')) ad N 0 0 97 [(0, .ref (ad 9)), (2, .int (iI y))] [] (cF ad g F0 W2 K S) := by
      intro W2 b2 hW2 hf2 h392 h372 hb2
      refine J_aload_n 0 d_D_raiseModulo_97 rfl rfl ?_
      refine gf_D_12 (by omega) ((cF_0 (by decide)).trans hDk) rfl d_D_raiseModulo_98 ?_
      refine J_lconst (v := 1) d_D_raiseModulo_101 rfl ?_
      refine J_callVv cw_D_127 nh_U_setWhole pn_U_setWhole rfl rfl (by omega) (cF_U (by decide) rfl rfl) (As := [.long (lI 1)]) (rest := []) rfl (Nat.le_of_ble_eq_true rfl) ⟨by decide, by decide⟩ rfl ⟨by decide, by decide⟩ d_D_raiseModulo_102 (u_setWhole hfl (F0 := F0) (W := W2) (K := K) (S := S) (k := 10) (v := 1) (by omega) hW2 (by decide) (by decide)) (fun  F14 hq => ?_)
      obtain ⟨hWs, eFs⟩ := hq
      refine J_eqF (F2 := cF ad g F0 (va_up (va_up W2 11 1) 13 1) (va_up K 10 0) (va_up S 10 1)) eFs ?_
      refine J_aload_n 0 d_D_raiseModulo_105 rfl rfl ?_
      refine gf_D_12 (by omega) ((cF_0 (by decide)).trans hDk) rfl d_D_raiseModulo_106 ?_
      refine gf_D_76 (by omega) (cF_U (by decide) (va_up_self ..) (va_up_self ..)) rfl d_D_raiseModulo_109 ?_
      refine J_aload_n 0 d_D_raiseModulo_112 rfl rfl ?_
      refine gf_D_49 (by omega) ((cF_0 (by decide)).trans hDk) rfl d_D_raiseModulo_113 ?_
      refine J_aload_n 0 d_D_raiseModulo_116 rfl rfl ?_
      refine gf_D_27 (by omega) ((cF_0 (by decide)).trans hDk) rfl d_D_raiseModulo_117 ?_
      refine J_callVv cw_D_117 nh_N_divide pn_N_divide rfl rfl (by omega) (cF_N (by decide) ((va_up_ne _ _ (by decide)).trans (va_up_self ..))) (As := [.ref (ad 39), .ref (ad 25)]) (rest := []) rfl (Nat.le_of_ble_eq_true rfl) ⟨by decide, by decide⟩ rfl ⟨by decide, by decide⟩ d_D_raiseModulo_120 (n_divide hfl (F0 := F0) (W := va_up (va_up W2 11 1) 13 1) (K := va_up K 10 0) (S := va_up S 10 1) (k := 11) (m := 39) (p := 25) (hN := by omega) (hW := hWs) (hk := (by decide)) (hm := (by decide)) (hp := (by decide)) (x := 1) (hx := ((va_up_ne _ _ (by decide)).trans (va_up_self ..))) (y := m) (hy := ((va_up_ne _ _ (by decide)).trans ((va_up_ne _ _ (by decide)).trans h392))) (hd := (by decide)) (hd1 := (by decide)) (hd2 := (by decide)) (hx4 := by decide) (hy4 := hm4)) (fun  F18 hq => ?_)
      obtain ⟨hW16, eF17⟩ := hq
      have hW19 := (congrArg bW (up_in2 (by decide) (by decide))).mp hW16
      refine J_eqF (F2 := cF ad g F0 (va_up (va_up (va_up W2 11 (1 % m)) 13 1) 25 (1 / m)) (va_up K 10 0) (va_up S 10 1)) (eF17.trans (congrArg (fun qq => cF ad g F0 qq (va_up K 10 0) (va_up S 10 1)) (up_in2 (by decide) (by decide)))) ?_
      refine J_iload_n 1 d_D_raiseModulo_123 rfl rfl ?_
      refine J_callSi cw_D_164 nh_JMath_abs pn_JMath_abs rfl (As := [.int (iI y)]) (rest := []) rfl (Nat.le_of_ble_eq_true rfl) ⟨by decide, by decide⟩ rfl ⟨by decide, by decide⟩ d_D_raiseModulo_124 (c_JMath_abs hfl ⟨by omega, by omega⟩) (fun ab F1 hq => ?_)
      obtain ⟨habs, eF1⟩ := hq
      refine J_eqF eF1 ?_
      refine J_topi (r := (y.natAbs : Int)) (congrArg iI (by omega)) ?_
      refine J_istore (lv' := [(4, .int (iI (y.natAbs : Int))), (0, .ref (ad 9)), (2, .int (iI y))]) d_D_raiseModulo_127 (by decide) rfl ?_
      refine J_bipush d_D_raiseModulo_129 (i8_ok (by decide)) ?_
      refine J_istore (lv' := [(5, .int (iI 9)), (4, .int (iI (y.natAbs : Int))), (0, .ref (ad 9)), (2, .int (iI y))]) d_D_raiseModulo_131 (by decide) rfl ?_
      refine J_pick (lv' := [(0, .ref (ad 9)), (4, .int (iI (y.natAbs : Int))), (5, .int (iI 9))]) [2, 1, 0] rfl ?_
      have loop133 : ∀ (fuel : Nat) (W3 : Nat → Nat) (bt : Int) (o : Nat) (hbt : -1 ≤ bt ∧ bt ≤ 9) (hW3 : bW W3) (hf3 : ∀ j, (j < 10 ∨ 40 < j) → W3 j = W j) (h393 : W3 39 = m) (h373 : W3 37 = b2) (h113 : W3 11 = o) (h133 : W3 13 = 1) (ho : o = b2 ^ (y.natAbs / 2 ^ (bt + 1).toNat) % m) (hfu : (bt + 1).toNat < fuel), J l rm_D_raiseModulo (0, 0) "NumberTower$Desk" b_D_raiseModulo 6 (Option.some Jvm.ClassFile.FieldType.boolean) D jCl (jTys g) A (fun _ me => me.name = y_D_raiseModulo.name) (ji ad N (fun z F' => ∃ (W' : Nat → Nat) (K' S' : Nat → Int), ((z = 0 ∧ y < 0 ∧ Nat.gcd (modB sx ux m) m ≠ 1) ∨ (z = 1 ∧ ∃ b2, b2 < m ∧ (0 ≤ y → b2 = modB sx ux m) ∧ (y < 0 → Nat.gcd (modB sx ux m) m = 1 ∧ modB sx ux m * b2 % m = 1 % m) ∧ K' 10 = 0 ∧ W' 11 = b2 ^ y.natAbs % m ∧ W' 13 = 1 ∧ S' 10 = (if b2 ^ y.natAbs % m = 0 then 0 else 1))) ∧ bW W' ∧ (∀ j, (j < 10 ∨ 40 < j) → W' j = W j ∧ K' j = K j ∧ S' j = S j) ∧ F' = cF ad g F0 W' K' S')) ad N 0 0 133 [(0, .ref (ad 9)), (4, .int (iI (y.natAbs : Int))), (5, .int (iI bt))] [] (cF ad g F0 W3 (va_up K 10 0) (va_up S 10 1)) := by
        intro fuel
        induction fuel with
        | zero => intro W3 bt o hbt hW3 hf3 h393 h373 h113 h133 ho hfu; exact absurd hfu (Nat.not_lt_zero _)
        | succ fuel ih =>
          intro W3 bt o hbt hW3 hf3 h393 h373 h113 h133 ho hfu
          refine J_iload 2 d_D_raiseModulo_133 rfl ?_
          refine J_iflt (tgt := 173) d_D_raiseModulo_135 (by decide) ⟨by omega, by omega⟩ (fun c135 => ?_) (fun c135 => ?_)
          · refine J_aload_n 0 d_D_raiseModulo_173 rfl rfl ?_
            refine gf_D_12 (by omega) ((cF_0 (by decide)).trans hDk) rfl d_D_raiseModulo_174 ?_
            refine J_aload_n 0 d_D_raiseModulo_177 rfl rfl ?_
            have lab195 : ∀ (sv : Int) (hsv : sv = if o = 0 then 0 else 1) , J l rm_D_raiseModulo (0, 0) "NumberTower$Desk" b_D_raiseModulo 6 (Option.some Jvm.ClassFile.FieldType.boolean) D jCl (jTys g) A (fun _ me => me.name = y_D_raiseModulo.name) (ji ad N (fun z F' => ∃ (W' : Nat → Nat) (K' S' : Nat → Int), ((z = 0 ∧ y < 0 ∧ Nat.gcd (modB sx ux m) m ≠ 1) ∨ (z = 1 ∧ ∃ b2, b2 < m ∧ (0 ≤ y → b2 = modB sx ux m) ∧ (y < 0 → Nat.gcd (modB sx ux m) m = 1 ∧ modB sx ux m * b2 % m = 1 % m) ∧ K' 10 = 0 ∧ W' 11 = b2 ^ y.natAbs % m ∧ W' 13 = 1 ∧ S' 10 = (if b2 ^ y.natAbs % m = 0 then 0 else 1))) ∧ bW W' ∧ (∀ j, (j < 10 ∨ 40 < j) → W' j = W j ∧ K' j = K j ∧ S' j = S j) ∧ F' = cF ad g F0 W' K' S')) ad N 0 0 195 [(0, .ref (ad 9))] [.int (iI sv), .ref (ad 10)] (cF ad g F0 W3 (va_up K 10 0) (va_up S 10 1)) := by
              intro sv hsv
              refine pf_D_69 (by omega) (cF_U (by decide) (va_up_self ..) (va_up_self ..)) (Nat.le_of_ble_eq_true rfl) d_D_raiseModulo_195 ?_
              refine J_eqF (F2 := cF ad g F0 W3 (va_up K 10 0) (va_up S 10 sv)) (((cF_upU (by decide)).trans (congrArg (fun qq => cF ad g F0 W3 qq (va_up (va_up S 10 1) 10 sv)) (up_same1 (va_up_self ..)).symm)).trans (congrArg (fun qq => cF ad g F0 W3 (va_up K 10 0) qq) (up_in0))) ?_
              refine J_iconst d_D_raiseModulo_198 ?_
              refine J_iret rfl (nb01 (by omega)).1 d_D_raiseModulo_199 ⟨by decide, by decide⟩ ?_
              have ho2 : o = b2 ^ y.natAbs % m := by rw [ho, show (bt + 1).toNat = 0 by omega, Nat.pow_zero, Nat.div_one]
              exact ⟨_, rfl, rfl, rfl, W3, _, _, Or.inr ⟨rfl, b2, hb2.1, hb2.2.1, hb2.2.2, (va_up_self ..), h113.trans ho2, h133, ((va_up_self ..)).trans (by rw [hsv, ho2])⟩, hW3, fun j hj => ⟨hf3 j hj, by rw [va_up_ne _ _ (by omega)], by rw [va_up_ne _ _ (by omega)]⟩, rfl⟩
            refine gf_D_12 (by omega) ((cF_0 (by decide)).trans hDk) rfl d_D_raiseModulo_178 ?_
            refine gf_D_76 (by omega) (cF_U (by decide) (va_up_self ..) (va_up_self ..)) rfl d_D_raiseModulo_181 ?_
            refine J_callVi cw_D_120 nh_N_isZero pn_N_isZero rfl rfl (by omega) (cF_N (by decide) h113) (As := []) (rest := [.ref (ad 10)]) rfl (Nat.le_of_ble_eq_true rfl) ⟨by decide, by decide⟩ rfl ⟨by decide, by decide⟩ d_D_raiseModulo_184 (n_isZero hfl (F0 := F0) (W := W3) (K := va_up K 10 0) (S := va_up S 10 1) (k := 11) (hN := by omega) (hW := hW3) (hk := (by decide)) (x := o) (hx := h113)) (fun z20 F2 hq => ?_)
            obtain ⟨hz20, eF2⟩ := hq
            refine J_eqF eF2 ?_
            refine J_ifeq (tgt := 194) d_D_raiseModulo_187 (by decide) ⟨by omega, by omega⟩ (fun c187 => ?_) (fun c187 => ?_)
            · refine J_iconst d_D_raiseModulo_194 ?_
              refine J_pick (lv' := [(0, .ref (ad 9))]) [0] rfl ?_
              exact lab195 (1 : Int) (by first | rw [if_pos (by omega)] | rw [if_neg (by omega)])
            · refine J_iconst d_D_raiseModulo_190 ?_
              refine J_goto (tgt := 195) d_D_raiseModulo_191 (by decide) ?_
              refine J_pick (lv' := [(0, .ref (ad 9))]) [0] rfl ?_
              exact lab195 (0 : Int) (by first | rw [if_pos (by omega)] | rw [if_neg (by omega)])
          · have hom : o < m := by rw [ho]; exact Nat.mod_lt _ hm0
            have hb1 : (bt + 1).toNat = bt.toNat + 1 := by omega
            have hn2 : y.natAbs / 2 ^ bt.toNat = 2 * (y.natAbs / 2 ^ (bt + 1).toNat) + y.natAbs / 2 ^ bt.toNat % 2 := by
              rw [hb1, Nat.pow_succ, ← Nat.div_div_eq_div_mul]; omega
            have ho1 : o * o % m = b2 ^ (2 * (y.natAbs / 2 ^ (bt + 1).toNat)) % m := by rw [ho]; exact pm_sq
            have ho1m : o * o % m < m := Nat.mod_lt _ hm0
            have hnb : y.natAbs / 2 ^ bt.toNat ≤ y.natAbs := Nat.div_le_self _ _
            refine J_aload_n 0 d_D_raiseModulo_138 rfl rfl ?_
            refine J_aload_n 0 d_D_raiseModulo_139 rfl rfl ?_
            refine gf_D_12 (by omega) ((cF_0 (by decide)).trans hDk) rfl d_D_raiseModulo_140 ?_
            refine gf_D_76 (by omega) (cF_U (by decide) (va_up_self ..) (va_up_self ..)) rfl d_D_raiseModulo_143 ?_
            refine J_callVv cw_D_168 nh_D_multiplyModulo pn_D_multiplyModulo rfl rfl (by omega) ((cF_0 (by decide)).trans hDk) (As := [.ref (ad 11)]) (rest := []) rfl (Nat.le_of_ble_eq_true rfl) ⟨by decide, by decide⟩ rfl ⟨by decide, by decide⟩ d_D_raiseModulo_146 (c_D_multiplyModulo hfl (F0 := F0) (W := W3) (K := va_up K 10 0) (S := va_up S 10 1) (f := 11) (x := o) (y := o) (m := m) hN hW3 hDk (by decide) (by decide) (h113) (h113) (h393) hm0 (Nat.lt_trans hmb (by decide)) ⟨hom, hom⟩) (fun  F26 hq => ?_)
            obtain ⟨W21, q22, q23, q24, eF25⟩ := hq
            refine J_eqF eF25 ?_
            refine J_iload 1 d_D_raiseModulo_149 rfl ?_
            refine J_iload 2 d_D_raiseModulo_151 rfl ?_
            refine J_topi (r := ((bt.toNat : Nat) : Int)) (congrArg iI (by omega)) ?_
            refine J_ishr (r := ((y.natAbs / 2 ^ bt.toNat : Nat) : Int)) d_D_raiseModulo_153 (iI_shrn (by omega) bt.toNat (by omega)) ?_
            refine J_iconst d_D_raiseModulo_154 ?_
            refine J_iand (r := (((y.natAbs / 2 ^ bt.toNat) % 2 : Nat) : Int)) d_D_raiseModulo_155 (iI_andn 1 (by decide)) ?_
            refine J_ifeq (tgt := 167) d_D_raiseModulo_156 (by decide) ⟨by omega, by omega⟩ (fun c156 => ?_) (fun c156 => ?_)
            · refine J_iinc (j := 2) (b := bt - 1) (lv' := [(5, .int (iI (bt - 1))), (0, .ref (ad 9)), (4, .int (iI (y.natAbs : Int)))]) d_D_raiseModulo_167 rfl (by omega) (by decide) rfl ?_
              refine J_goto (tgt := 133) d_D_raiseModulo_170 (by decide) ?_
              refine J_pick (lv' := [(0, .ref (ad 9)), (4, .int (iI (y.natAbs : Int))), (5, .int (iI (bt - 1)))]) [1, 2, 0] rfl ?_
              exact ih W21 (bt - 1) (o * o % m) (by omega) q22 (fun j hj => (q23 j (by omega) (by omega) (by omega)).trans (hf3 j hj)) (((q23 _ (by omega) (by omega) (by omega)).trans h393)) (((q23 _ (by omega) (by omega) (by omega)).trans h373)) (q24) (((q23 _ (by omega) (by omega) (by omega)).trans h133)) (by rw [show (bt - 1 + 1).toNat = bt.toNat by omega, hn2, ho1, show y.natAbs / 2 ^ bt.toNat % 2 = 0 by omega]; rfl) (by omega)
            · refine J_aload_n 0 d_D_raiseModulo_159 rfl rfl ?_
              refine J_aload_n 0 d_D_raiseModulo_160 rfl rfl ?_
              refine gf_D_46 (by omega) ((cF_0 (by decide)).trans hDk) rfl d_D_raiseModulo_161 ?_
              refine J_callVv cw_D_168 nh_D_multiplyModulo pn_D_multiplyModulo rfl rfl (by omega) ((cF_0 (by decide)).trans hDk) (As := [.ref (ad 37)]) (rest := []) rfl (Nat.le_of_ble_eq_true rfl) ⟨by decide, by decide⟩ rfl ⟨by decide, by decide⟩ d_D_raiseModulo_164 (c_D_multiplyModulo hfl (F0 := F0) (W := W21) (K := va_up K 10 0) (S := va_up S 10 1) (f := 37) (x := o * o % m) (y := b2) (m := m) hN q22 hDk (by decide) (by decide) (q24) (((q23 _ (by omega) (by omega) (by omega)).trans h373)) (((q23 _ (by omega) (by omega) (by omega)).trans h393)) hm0 (Nat.lt_trans hmb (by decide)) ⟨ho1m, hb2.1⟩) (fun  F32 hq => ?_)
              obtain ⟨W27, q28, q29, q30, eF31⟩ := hq
              refine J_eqF eF31 ?_
              refine J_iinc (j := 2) (b := bt - 1) (lv' := [(5, .int (iI (bt - 1))), (0, .ref (ad 9)), (4, .int (iI (y.natAbs : Int)))]) d_D_raiseModulo_167 rfl (by omega) (by decide) rfl ?_
              refine J_goto (tgt := 133) d_D_raiseModulo_170 (by decide) ?_
              refine J_pick (lv' := [(0, .ref (ad 9)), (4, .int (iI (y.natAbs : Int))), (5, .int (iI (bt - 1)))]) [1, 2, 0] rfl ?_
              exact ih W27 (bt - 1) ((o * o % m) * b2 % m) (by omega) q28 (fun j hj => (q29 j (by omega) (by omega) (by omega)).trans ((q23 j (by omega) (by omega) (by omega)).trans (hf3 j hj))) (((q29 _ (by omega) (by omega) (by omega)).trans ((q23 _ (by omega) (by omega) (by omega)).trans h393))) (((q29 _ (by omega) (by omega) (by omega)).trans ((q23 _ (by omega) (by omega) (by omega)).trans h373))) (q30) (((q29 _ (by omega) (by omega) (by omega)).trans ((q23 _ (by omega) (by omega) (by omega)).trans h133))) (by rw [show (bt - 1 + 1).toNat = bt.toNat by omega, hn2, ho1, show y.natAbs / 2 ^ bt.toNat % 2 = 1 by omega]; exact pm_mul) (by omega)
      exact loop133 ((((9 : Int) + 1).toNat) + 1) (va_up (va_up (va_up W2 11 (1 % m)) 13 1) 25 (1 / m)) (9 : Int) (1 % m) (by omega) hW19 (fun j hj => (show (va_up (va_up (va_up W2 11 (1 % m)) 13 1) 25 (1 / m)) j = W2 j from by rw [va_up_ne _ _ (by omega), va_up_ne _ _ (by omega), va_up_ne _ _ (by omega)]).trans (hf2 j hj)) (((va_up_ne _ _ (by decide)).trans ((va_up_ne _ _ (by decide)).trans ((va_up_ne _ _ (by decide)).trans h392)))) (((va_up_ne _ _ (by decide)).trans ((va_up_ne _ _ (by decide)).trans ((va_up_ne _ _ (by decide)).trans h372)))) (((va_up_ne _ _ (by decide)).trans ((va_up_ne _ _ (by decide)).trans (va_up_self ..)))) (((va_up_ne _ _ (by decide)).trans (va_up_self ..))) (by rw [Nat.div_eq_of_lt (Nat.lt_of_lt_of_le (by omega : y.natAbs < 1024) (by decide)), Nat.pow_zero]) (Nat.lt_succ_self _)
    refine J_ifge (tgt := 97) d_D_raiseModulo_85 (by decide) ⟨by omega, by omega⟩ (fun c85 => ?_) (fun c85 => ?_)
    · refine J_pick (lv' := [(0, .ref (ad 9)), (2, .int (iI y))]) [0, 2] rfl ?_
      exact lab97 W1 (modB sx ux m) hW1 (fun j hj => (show (W1) j = W1 j from by rfl).trans (hf1 j hj)) (h39) (h37) ⟨modB_lt hm0, fun _ => rfl, fun e => by omega⟩
    · refine J_aload_n 0 d_D_raiseModulo_88 rfl rfl ?_
      refine J_callVi cw_D_161 nh_D_invertBase pn_D_invertBase rfl rfl (by omega) ((cF_0 (by decide)).trans hDk) (As := []) (rest := []) rfl (Nat.le_of_ble_eq_true rfl) ⟨by decide, by decide⟩ rfl ⟨by decide, by decide⟩ d_D_raiseModulo_89 (c_D_invertBase hfl (F0 := F0) (W := W1) (K := K) (S := S) (m := m) (B := modB sx ux m) hN hW1 hDk (h39) (h37) (modB_lt hm0) (Nat.lt_trans hmb (by decide))) (fun iv F33 hq => ?_)
      obtain ⟨Wi, hiv, q1, q2, eFi⟩ := hq
      refine J_eqF eFi ?_
      refine J_ifne (tgt := 97) d_D_raiseModulo_92 (by decide) ⟨by omega, by omega⟩ (fun c92 => ?_) (fun c92 => ?_)
      · refine J_pick (lv' := [(0, .ref (ad 9)), (2, .int (iI y))]) [0, 2] rfl ?_
        exact lab97 Wi (Wi 37) q1 (fun j hj => ((show (Wi) j = Wi j from by rfl)).trans ((q2 j (by omega) (by omega) (by omega) (by omega) (by omega) (by omega) (by omega)).trans ((show (W1) j = W1 j from by rfl).trans (hf1 j hj)))) (((q2 _ (by omega) (by omega) (by omega) (by omega) (by omega) (by omega) (by omega)).trans h39)) rfl (by rcases hiv with ⟨e1, e2, e3, e4⟩ | ⟨e1, e2⟩; exact ⟨e3, fun e => by omega, fun _ => ⟨e2, e4⟩⟩; omega)
      · refine J_iconst d_D_raiseModulo_95 ?_
        refine J_iret rfl (nb01 (by omega)).1 d_D_raiseModulo_96 ⟨by decide, by decide⟩ ?_
        exact ⟨_, rfl, rfl, rfl, Wi, K, S, Or.inl ⟨rfl, by omega, by rcases hiv with ⟨e1, e2, e3, e4⟩ | ⟨e1, e2⟩; omega; exact e2⟩, q1, fun j hj => ⟨(fun j hj => ((show (Wi) j = Wi j from by rfl)).trans ((q2 j (by omega) (by omega) (by omega) (by omega) (by omega) (by omega) (by omega)).trans ((show (W1) j = W1 j from by rfl).trans (hf1 j hj)))) j hj, rfl, rfl⟩, rfl⟩
  refine gf_D_69 (by omega) (cF_U hxp hxk hxs) rfl d_D_raiseModulo_35 ?_
  refine J_ifge (tgt := 84) d_D_raiseModulo_38 (by decide) ⟨by omega, by omega⟩ (fun c38 => ?_) (fun c38 => ?_)
  · exact lab84 (va_up (va_up (va_up W 39 m) 37 (ux % m)) 25 (ux / m)) hW13 (fun j hj => (show (va_up (va_up (va_up W 39 m) 37 (ux % m)) 25 (ux / m)) j = W j from by rw [va_up_ne _ _ (by omega), va_up_ne _ _ (by omega), va_up_ne _ _ (by omega)])) (((va_up_ne _ _ (by decide)).trans ((va_up_ne _ _ (by decide)).trans (va_up_self ..)))) (by unfold modB; rw [if_neg (by omega)]; exact ((va_up_ne _ _ (by decide)).trans (va_up_self ..)))
  · refine J_aload_n 0 d_D_raiseModulo_41 rfl rfl ?_
    refine gf_D_46 (by omega) ((cF_0 (by decide)).trans hDk) rfl d_D_raiseModulo_42 ?_
    refine J_callVi cw_D_120 nh_N_isZero pn_N_isZero rfl rfl (by omega) (cF_N (by decide) ((va_up_ne _ _ (by decide)).trans (va_up_self ..))) (As := []) (rest := []) rfl (Nat.le_of_ble_eq_true rfl) ⟨by decide, by decide⟩ rfl ⟨by decide, by decide⟩ d_D_raiseModulo_45 (n_isZero hfl (F0 := F0) (W := va_up (va_up (va_up W 39 m) 37 (ux % m)) 25 (ux / m)) (K := K) (S := S) (k := 37) (hN := by omega) (hW := hW13) (hk := (by decide)) (x := ux % m) (hx := ((va_up_ne _ _ (by decide)).trans (va_up_self ..)))) (fun z34 F3 hq => ?_)
    obtain ⟨hz34, eF3⟩ := hq
    refine J_eqF eF3 ?_
    refine J_ifne (tgt := 84) d_D_raiseModulo_48 (by decide) ⟨by omega, by omega⟩ (fun c48 => ?_) (fun c48 => ?_)
    · exact lab84 (va_up (va_up (va_up W 39 m) 37 (ux % m)) 25 (ux / m)) hW13 (fun j hj => (show (va_up (va_up (va_up W 39 m) 37 (ux % m)) 25 (ux / m)) j = W j from by rw [va_up_ne _ _ (by omega), va_up_ne _ _ (by omega), va_up_ne _ _ (by omega)])) (((va_up_ne _ _ (by decide)).trans ((va_up_ne _ _ (by decide)).trans (va_up_self ..)))) (by unfold modB; rw [if_neg (by omega)]; exact ((va_up_ne _ _ (by decide)).trans (va_up_self ..)))
    · refine J_aload_n 0 d_D_raiseModulo_51 rfl rfl ?_
      refine gf_D_31 (by omega) ((cF_0 (by decide)).trans hDk) rfl d_D_raiseModulo_52 ?_
      refine J_aload_n 0 d_D_raiseModulo_55 rfl rfl ?_
      refine gf_D_49 (by omega) ((cF_0 (by decide)).trans hDk) rfl d_D_raiseModulo_56 ?_
      refine J_callVv cw_D_89 nh_N_copyFrom pn_N_copyFrom rfl rfl (by omega) (cF_N (by decide) ((va_up_ne _ _ (by decide)).trans ((va_up_ne _ _ (by decide)).trans (va_up_ne _ _ (by decide))))) (As := [.ref (ad 39)]) (rest := []) rfl (Nat.le_of_ble_eq_true rfl) ⟨by decide, by decide⟩ rfl ⟨by decide, by decide⟩ d_D_raiseModulo_59 (n_copyFrom hfl (F0 := F0) (W := va_up (va_up (va_up W 39 m) 37 (ux % m)) 25 (ux / m)) (K := K) (S := S) (k := 27) (m := 39) (hN := by omega) (hW := hW13) (hk := (by decide)) (hm := (by decide)) (x := m) (hx := ((va_up_ne _ _ (by decide)).trans ((va_up_ne _ _ (by decide)).trans (va_up_self ..)))) (hd := (by decide))) (fun  F38 hq => ?_)
      obtain ⟨hW36, eF37⟩ := hq
      refine J_eqF (F2 := cF ad g F0 (va_up (va_up (va_up (va_up W 39 m) 37 (ux % m)) 25 (ux / m)) 27 m) K S) eF37 ?_
      refine J_aload_n 0 d_D_raiseModulo_62 rfl rfl ?_
      refine gf_D_31 (by omega) ((cF_0 (by decide)).trans hDk) rfl d_D_raiseModulo_63 ?_
      refine J_aload_n 0 d_D_raiseModulo_66 rfl rfl ?_
      refine gf_D_46 (by omega) ((cF_0 (by decide)).trans hDk) rfl d_D_raiseModulo_67 ?_
      refine J_callVv cw_D_114 nh_N_subtract pn_N_subtract rfl rfl (by omega) (cF_N (by decide) (va_up_self ..)) (As := [.ref (ad 37)]) (rest := []) rfl (Nat.le_of_ble_eq_true rfl) ⟨by decide, by decide⟩ rfl ⟨by decide, by decide⟩ d_D_raiseModulo_70 (n_subtract hfl (F0 := F0) (W := va_up (va_up (va_up (va_up W 39 m) 37 (ux % m)) 25 (ux / m)) 27 m) (K := K) (S := S) (k := 27) (m := 37) (r := (m - ux % m)) (hN := by omega) (hW := hW36) (hk := (by decide)) (hm := (by decide)) (x := m) (hx := (va_up_self ..)) (y := ux % m) (hy := ((va_up_ne _ _ (by decide)).trans ((va_up_ne _ _ (by decide)).trans (va_up_self ..)))) (hd := (by decide)) (hr := by omega)) (fun  F42 hq => ?_)
      obtain ⟨hW40, eF41⟩ := hq
      have hW43 := (congrArg bW (up_in0)).mp hW40
      refine J_eqF (F2 := cF ad g F0 (va_up (va_up (va_up (va_up W 39 m) 37 (ux % m)) 25 (ux / m)) 27 (m - ux % m)) K S) (eF41.trans (congrArg (fun qq => cF ad g F0 qq K S) (up_in0))) ?_
      refine J_aload_n 0 d_D_raiseModulo_73 rfl rfl ?_
      refine gf_D_46 (by omega) ((cF_0 (by decide)).trans hDk) rfl d_D_raiseModulo_74 ?_
      refine J_aload_n 0 d_D_raiseModulo_77 rfl rfl ?_
      refine gf_D_31 (by omega) ((cF_0 (by decide)).trans hDk) rfl d_D_raiseModulo_78 ?_
      refine J_callVv cw_D_89 nh_N_copyFrom pn_N_copyFrom rfl rfl (by omega) (cF_N (by decide) ((va_up_ne _ _ (by decide)).trans ((va_up_ne _ _ (by decide)).trans (va_up_self ..)))) (As := [.ref (ad 27)]) (rest := []) rfl (Nat.le_of_ble_eq_true rfl) ⟨by decide, by decide⟩ rfl ⟨by decide, by decide⟩ d_D_raiseModulo_81 (n_copyFrom hfl (F0 := F0) (W := va_up (va_up (va_up (va_up W 39 m) 37 (ux % m)) 25 (ux / m)) 27 (m - ux % m)) (K := K) (S := S) (k := 37) (m := 27) (hN := by omega) (hW := hW43) (hk := (by decide)) (hm := (by decide)) (x := (m - ux % m)) (hx := (va_up_self ..)) (hd := (by decide))) (fun  F47 hq => ?_)
      obtain ⟨hW45, eF46⟩ := hq
      have hW48 := (congrArg bW (up_in2 (by decide) (by decide))).mp hW45
      refine J_eqF (F2 := cF ad g F0 (va_up (va_up (va_up (va_up W 39 m) 37 (m - ux % m)) 25 (ux / m)) 27 (m - ux % m)) K S) (eF46.trans (congrArg (fun qq => cF ad g F0 qq K S) (up_in2 (by decide) (by decide)))) ?_
      exact lab84 (va_up (va_up (va_up (va_up W 39 m) 37 (m - ux % m)) 25 (ux / m)) 27 (m - ux % m)) hW48 (fun j hj => (show (va_up (va_up (va_up (va_up W 39 m) 37 (m - ux % m)) 25 (ux / m)) 27 (m - ux % m)) j = W j from by rw [va_up_ne _ _ (by omega), va_up_ne _ _ (by omega), va_up_ne _ _ (by omega), va_up_ne _ _ (by omega)])) (((va_up_ne _ _ (by decide)).trans ((va_up_ne _ _ (by decide)).trans ((va_up_ne _ _ (by decide)).trans (va_up_self ..))))) (by unfold modB; rw [if_pos ⟨by omega, by omega⟩]; exact ((va_up_ne _ _ (by decide)).trans ((va_up_ne _ _ (by decide)).trans (va_up_self ..))))
set_option maxRecDepth 100000 in
set_option maxHeartbeats 4000000 in
theorem c_D_hashOf {l : Launch} (hfl : l.flags = flags0) {D : va_G} {g : Nat → ClassId} {ad : Nat → Nat} {N : Nat} {F0 : Nat → va_E} {W : Nat → Nat} {K S : Nat → Int} {x ux dx : Nat} {kx sx : Int}
    (hN : 109 ≤ N) (hW : bW W) (hDk : F0 9 = oD ad) (hxp : isU x) (hx2 : x = 2 ∨ 58 ≤ x) (hx1 : W (x + 1) = ux) (hx3 : W (x + 3) = dx) (hxk : K x = kx) (hxs : S x = sx) (hxr : -1 ≤ sx ∧ sx ≤ 1 ∧ -1 ≤ kx ∧ kx ≤ 2) (hxb : ux < 2 ^ 154 ∧ dx < 2 ^ 154) :
    JC l y_D_hashOf b_D_hashOf 6 (Option.some Jvm.ClassFile.FieldType.long) rm_D_hashOf (0, 0) D jCl (jTys g) ad N (cF ad g F0 W K S) [.ref (ad 9), .ref (ad x)] (jl ad N (fun z F' => hashP sx ux dx z ∧ ∃ W' : Nat → Nat, bW W' ∧ (∀ j, (j < 10 ∨ 40 < j) → W' j = W j) ∧ F' = cF ad g F0 W' K S)) := by
  have hx4 := (isU_1 hxp).1
  have hrm := Nat.mod_lt dx (show 0 < 2305843009213693951 by decide)
  have hrm2 := Nat.mod_lt ux (show 0 < 2305843009213693951 by decide)
  refine JC.go hfl (own := "NumberTower$Desk") (lv := [(0, .ref (ad 9)), (1, .ref (ad x))]) rfl (by decide +kernel) (Nat.le_of_ble_eq_true rfl) rfl (fun A => ?_)
  refine J_aload_n 0 d_D_hashOf_0 rfl rfl ?_
  refine gf_D_49 (by omega) ((cF_0 (by decide)).trans hDk) rfl d_D_hashOf_1 ?_
  refine J_ldc2 (z := 2305843009213693951) d_D_hashOf_4 wd_396 (by decide) ?_
  refine J_callVv cw_D_93 nh_N_set pn_N_set rfl rfl (by omega) (cF_N (by decide) rfl) (As := [.long (lI 2305843009213693951)]) (rest := []) rfl (Nat.le_of_ble_eq_true rfl) ⟨by decide, by decide⟩ rfl ⟨by decide, by decide⟩ d_D_hashOf_7 (n_set hfl (F0 := F0) (W := W) (K := K) (S := S) (k := 39) (n := 2305843009213693951) (hN := by omega) (hW := hW) (hk := (by decide)) (hn := by decide)) (fun  F52 hq => ?_)
  obtain ⟨hW50, eF51⟩ := hq
  refine J_eqF (F2 := cF ad g F0 (va_up W 39 2305843009213693951) K S) eF51 ?_
  refine J_aload_n 0 d_D_hashOf_10 rfl rfl ?_
  refine gf_D_46 (by omega) ((cF_0 (by decide)).trans hDk) rfl d_D_hashOf_11 ?_
  refine J_aload_n 1 d_D_hashOf_14 rfl rfl ?_
  refine gf_D_79 (by omega) (cF_U hxp hxk hxs) rfl d_D_hashOf_15 ?_
  refine J_callVv cw_D_89 nh_N_copyFrom pn_N_copyFrom rfl rfl (by omega) (cF_N (by decide) (va_up_ne _ _ (by decide))) (As := [.ref (ad (x + 3))]) (rest := []) rfl (Nat.le_of_ble_eq_true rfl) ⟨by decide, by decide⟩ rfl ⟨by decide, by decide⟩ d_D_hashOf_18 (n_copyFrom hfl (F0 := F0) (W := va_up W 39 2305843009213693951) (K := K) (S := S) (k := 37) (m := x + 3) (hN := by omega) (hW := hW50) (hk := (by decide)) (hm := (isU_1 hxp).2.2) (x := dx) (hx := ((va_up_ne _ _ (by omega)).trans hx3)) (hd := (by omega))) (fun  F56 hq => ?_)
  obtain ⟨hW54, eF55⟩ := hq
  refine J_eqF (F2 := cF ad g F0 (va_up (va_up W 39 2305843009213693951) 37 dx) K S) eF55 ?_
  refine J_aload_n 0 d_D_hashOf_21 rfl rfl ?_
  refine gf_D_46 (by omega) ((cF_0 (by decide)).trans hDk) rfl d_D_hashOf_22 ?_
  refine J_aload_n 0 d_D_hashOf_25 rfl rfl ?_
  refine gf_D_49 (by omega) ((cF_0 (by decide)).trans hDk) rfl d_D_hashOf_26 ?_
  refine J_aload_n 0 d_D_hashOf_29 rfl rfl ?_
  refine gf_D_27 (by omega) ((cF_0 (by decide)).trans hDk) rfl d_D_hashOf_30 ?_
  refine J_callVv cw_D_117 nh_N_divide pn_N_divide rfl rfl (by omega) (cF_N (by decide) (va_up_self ..)) (As := [.ref (ad 39), .ref (ad 25)]) (rest := []) rfl (Nat.le_of_ble_eq_true rfl) ⟨by decide, by decide⟩ rfl ⟨by decide, by decide⟩ d_D_hashOf_33 (n_divide hfl (F0 := F0) (W := va_up (va_up W 39 2305843009213693951) 37 dx) (K := K) (S := S) (k := 37) (m := 39) (p := 25) (hN := by omega) (hW := hW54) (hk := (by decide)) (hm := (by decide)) (hp := (by decide)) (x := dx) (hx := (va_up_self ..)) (y := 2305843009213693951) (hy := ((va_up_ne _ _ (by decide)).trans (va_up_self ..))) (hd := (by decide)) (hd1 := (by decide)) (hd2 := (by decide)) (hx4 := Nat.lt_trans hxb.2 (by decide)) (hy4 := by decide)) (fun  F60 hq => ?_)
  obtain ⟨hW58, eF59⟩ := hq
  have hW61 := (congrArg bW (up_in1 (by decide))).mp hW58
  refine J_eqF (F2 := cF ad g F0 (va_up (va_up (va_up W 39 2305843009213693951) 37 (dx % 2305843009213693951)) 25 (dx / 2305843009213693951)) K S) (eF59.trans (congrArg (fun qq => cF ad g F0 qq K S) (up_in1 (by decide)))) ?_
  refine J_ldc2 (z := 314159) d_D_hashOf_36 wd_430 (by decide) ?_
  refine J_lstore_n (lv' := [(2, .long (lI 314159)), (0, .ref (ad 9)), (1, .ref (ad x))]) d_D_hashOf_39 rfl (by decide) rfl ?_
  have lab111 : ∀ (W2 : Nat → Nat) (amt : Nat) (hW2 : bW W2) (hf2 : ∀ j, (j < 10 ∨ 40 < j) → W2 j = W j) (hamt : amt < 2305843009213693951) (hh : (Nat.gcd (dx % 2305843009213693951) 2305843009213693951 = 1 ∧ ∃ v, v < 2305843009213693951 ∧ dx % 2305843009213693951 * v % 2305843009213693951 = 1 % 2305843009213693951 ∧ amt = ux % 2305843009213693951 * v % 2305843009213693951) ∨ (Nat.gcd (dx % 2305843009213693951) 2305843009213693951 ≠ 1 ∧ amt = 314159)) , J l rm_D_hashOf (0, 0) "NumberTower$Desk" b_D_hashOf 6 (Option.some Jvm.ClassFile.FieldType.long) D jCl (jTys g) A (fun _ me => me.name = y_D_hashOf.name) (jl ad N (fun z F' => hashP sx ux dx z ∧ ∃ W' : Nat → Nat, bW W' ∧ (∀ j, (j < 10 ∨ 40 < j) → W' j = W j) ∧ F' = cF ad g F0 W' K S)) ad N 0 0 111 [(1, .ref (ad x)), (2, .long (lI (amt : Int)))] [] (cF ad g F0 W2 K S) := by
    intro W2 amt hW2 hf2 hamt hh
    have hsa : -2305843009213693951 ≤ sx * (amt : Int) ∧ sx * (amt : Int) ≤ 2305843009213693951 := by
      obtain e | e | e : sx = -1 ∨ sx = 0 ∨ sx = 1 := by omega
      all_goals rw [e]; omega
    refine J_aload_n 0 d_D_hashOf_111 rfl rfl ?_
    refine gf_D_69 (by omega) (cF_U hxp hxk hxs) rfl d_D_hashOf_112 ?_
    refine J_i2l d_D_hashOf_115 ⟨by omega, by omega⟩ ?_
    refine J_lload_n 1 d_D_hashOf_116 rfl rfl ?_
    refine J_lmul d_D_hashOf_117 ?_
    refine J_lstore (lv' := [(4, .long (lI (sx * (amt : Int)))), (1, .ref (ad x)), (2, .long (lI (amt : Int)))]) d_D_hashOf_118 (by decide) rfl ?_
    refine J_lload 0 d_D_hashOf_120 rfl ?_
    refine J_ldc2 (z := (-1)) d_D_hashOf_122 wd_456 (by decide) ?_
    refine J_lcmpne (tgt := 135) d_D_hashOf_125 d_D_hashOf_126 (by decide) ⟨by omega, by omega⟩ ⟨by omega, by omega⟩ (fun c125 => ?_) (fun c125 => ?_)
    · refine J_lload 0 d_D_hashOf_135 rfl ?_
      refine J_lret rfl d_D_hashOf_137 ⟨by decide, by decide⟩ ?_
      first
      | exact ⟨_, rfl, rfl, rfl, ⟨amt, hamt, hh, by rw [if_pos (by omega)]⟩, W2, hW2, hf2, rfl⟩
      | exact ⟨_, rfl, rfl, rfl, ⟨amt, hamt, hh, by rw [if_neg (by omega)]⟩, W2, hW2, hf2, rfl⟩
    · refine J_ldc2 (z := (-2)) d_D_hashOf_129 wd_457 (by decide) ?_
      refine J_goto (tgt := 137) d_D_hashOf_132 (by decide) ?_
      refine J_lret rfl d_D_hashOf_137 ⟨by decide, by decide⟩ ?_
      first
      | exact ⟨_, rfl, rfl, rfl, ⟨amt, hamt, hh, by rw [if_pos (by omega)]⟩, W2, hW2, hf2, rfl⟩
      | exact ⟨_, rfl, rfl, rfl, ⟨amt, hamt, hh, by rw [if_neg (by omega)]⟩, W2, hW2, hf2, rfl⟩
  refine J_aload_n 1 d_D_hashOf_40 rfl rfl ?_
  refine J_callVi cw_D_161 nh_D_invertBase pn_D_invertBase rfl rfl (by omega) ((cF_0 (by decide)).trans hDk) (As := []) (rest := []) rfl (Nat.le_of_ble_eq_true rfl) ⟨by decide, by decide⟩ rfl ⟨by decide, by decide⟩ d_D_hashOf_41 (c_D_invertBase hfl (F0 := F0) (W := va_up (va_up (va_up W 39 2305843009213693951) 37 (dx % 2305843009213693951)) 25 (dx / 2305843009213693951)) (K := K) (S := S) (m := 2305843009213693951) (B := dx % 2305843009213693951) hN hW61 hDk (((va_up_ne _ _ (by decide)).trans ((va_up_ne _ _ (by decide)).trans (va_up_self ..)))) (((va_up_ne _ _ (by decide)).trans (va_up_self ..))) hrm (by decide)) (fun iv F62 hq => ?_)
  obtain ⟨Wi, hiv, q1, q2, eFi⟩ := hq
  refine J_eqF eFi ?_
  refine J_ifeq (tgt := 111) d_D_hashOf_44 (by decide) ⟨by omega, by omega⟩ (fun c44 => ?_) (fun c44 => ?_)
  · refine J_pick (lv' := [(1, .ref (ad x)), (2, .long (lI 314159))]) [2, 0] rfl ?_
    exact lab111 Wi 314159 q1 (fun j hj => ((show (Wi) j = Wi j from by rfl)).trans ((q2 j (by omega) (by omega) (by omega) (by omega) (by omega) (by omega) (by omega)).trans (show (va_up (va_up (va_up W 39 2305843009213693951) 37 (dx % 2305843009213693951)) 25 (dx / 2305843009213693951)) j = W j from by rw [va_up_ne _ _ (by omega), va_up_ne _ _ (by omega), va_up_ne _ _ (by omega)]))) (by omega) (Or.inr ⟨by rcases hiv with ⟨e1, e2, e3, e4⟩ | ⟨e1, e2⟩; omega; exact e2, rfl⟩)
  · obtain ⟨hg1, hv1, hv2⟩ : Nat.gcd (dx % 2305843009213693951) 2305843009213693951 = 1 ∧ Wi 37 < 2305843009213693951 ∧ dx % 2305843009213693951 * Wi 37 % 2305843009213693951 = 1 % 2305843009213693951 := by
      rcases hiv with ⟨e1, e2, e3, e4⟩ | ⟨e1, e2⟩
      · exact ⟨e2, e3, e4⟩
      · omega
    have hpb : ux % 2305843009213693951 * Wi 37 < 2 ^ 130 := Nat.lt_of_lt_of_le (Nat.mul_lt_mul'' hrm2 hv1) (by decide)
    have hpm := Nat.mod_lt (ux % 2305843009213693951 * Wi 37) (show 0 < 2305843009213693951 by decide)
    refine J_aload_n 1 d_D_hashOf_47 rfl rfl ?_
    refine gf_D_31 (by omega) ((cF_0 (by decide)).trans hDk) rfl d_D_hashOf_48 ?_
    refine J_aload_n 2 d_D_hashOf_51 rfl rfl ?_
    refine gf_D_76 (by omega) (cF_U hxp hxk hxs) rfl d_D_hashOf_52 ?_
    refine J_callVv cw_D_89 nh_N_copyFrom pn_N_copyFrom rfl rfl (by omega) (cF_N (by decide) rfl) (As := [.ref (ad (x + 1))]) (rest := []) rfl (Nat.le_of_ble_eq_true rfl) ⟨by decide, by decide⟩ rfl ⟨by decide, by decide⟩ d_D_hashOf_55 (n_copyFrom hfl (F0 := F0) (W := Wi) (K := K) (S := S) (k := 27) (m := x + 1) (hN := by omega) (hW := q1) (hk := (by decide)) (hm := (isU_1 hxp).2.1) (x := ux) (hx := ((q2 _ (by omega) (by omega) (by omega) (by omega) (by omega) (by omega) (by omega)).trans ((va_up_ne _ _ (by omega)).trans ((va_up_ne _ _ (by omega)).trans ((va_up_ne _ _ (by omega)).trans hx1))))) (hd := (by omega))) (fun  F66 hq => ?_)
    obtain ⟨hW64, eF65⟩ := hq
    refine J_eqF (F2 := cF ad g F0 (va_up Wi 27 ux) K S) eF65 ?_
    refine J_aload_n 1 d_D_hashOf_58 rfl rfl ?_
    refine gf_D_31 (by omega) ((cF_0 (by decide)).trans hDk) rfl d_D_hashOf_59 ?_
    refine J_aload_n 1 d_D_hashOf_62 rfl rfl ?_
    refine gf_D_49 (by omega) ((cF_0 (by decide)).trans hDk) rfl d_D_hashOf_63 ?_
    refine J_aload_n 1 d_D_hashOf_66 rfl rfl ?_
    refine gf_D_27 (by omega) ((cF_0 (by decide)).trans hDk) rfl d_D_hashOf_67 ?_
    refine J_callVv cw_D_117 nh_N_divide pn_N_divide rfl rfl (by omega) (cF_N (by decide) (va_up_self ..)) (As := [.ref (ad 39), .ref (ad 25)]) (rest := []) rfl (Nat.le_of_ble_eq_true rfl) ⟨by decide, by decide⟩ rfl ⟨by decide, by decide⟩ d_D_hashOf_70 (n_divide hfl (F0 := F0) (W := va_up Wi 27 ux) (K := K) (S := S) (k := 27) (m := 39) (p := 25) (hN := by omega) (hW := hW64) (hk := (by decide)) (hm := (by decide)) (hp := (by decide)) (x := ux) (hx := (va_up_self ..)) (y := 2305843009213693951) (hy := ((va_up_ne _ _ (by decide)).trans ((q2 _ (by omega) (by omega) (by omega) (by omega) (by omega) (by omega) (by omega)).trans ((va_up_ne _ _ (by decide)).trans ((va_up_ne _ _ (by decide)).trans (va_up_self ..)))))) (hd := (by decide)) (hd1 := (by decide)) (hd2 := (by decide)) (hx4 := Nat.lt_trans hxb.1 (by decide)) (hy4 := by decide)) (fun  F70 hq => ?_)
    obtain ⟨hW68, eF69⟩ := hq
    have hW71 := (congrArg bW (up_in1 (by decide))).mp hW68
    refine J_eqF (F2 := cF ad g F0 (va_up (va_up Wi 27 (ux % 2305843009213693951)) 25 (ux / 2305843009213693951)) K S) (eF69.trans (congrArg (fun qq => cF ad g F0 qq K S) (up_in1 (by decide)))) ?_
    refine J_aload_n 1 d_D_hashOf_73 rfl rfl ?_
    refine gf_D_34 (by omega) ((cF_0 (by decide)).trans hDk) rfl d_D_hashOf_74 ?_
    refine J_aload_n 1 d_D_hashOf_77 rfl rfl ?_
    refine gf_D_31 (by omega) ((cF_0 (by decide)).trans hDk) rfl d_D_hashOf_78 ?_
    refine J_aload_n 1 d_D_hashOf_81 rfl rfl ?_
    refine gf_D_46 (by omega) ((cF_0 (by decide)).trans hDk) rfl d_D_hashOf_82 ?_
    refine J_callVv cw_D_97 nh_N_setProduct pn_N_setProduct rfl rfl (by omega) (cF_N (by decide) ((va_up_ne _ _ (by decide)).trans (va_up_ne _ _ (by decide)))) (As := [.ref (ad 27), .ref (ad 37)]) (rest := []) rfl (Nat.le_of_ble_eq_true rfl) ⟨by decide, by decide⟩ rfl ⟨by decide, by decide⟩ d_D_hashOf_85 (n_setProduct hfl (F0 := F0) (W := va_up (va_up Wi 27 (ux % 2305843009213693951)) 25 (ux / 2305843009213693951)) (K := K) (S := S) (k := 29) (m := 27) (p := 37) (hN := by omega) (hW := hW71) (hk := (by decide)) (hm := (by decide)) (hp := (by decide)) (x := ux % 2305843009213693951) (hx := ((va_up_ne _ _ (by decide)).trans (va_up_self ..))) (y := Wi 37) (hy := ((va_up_ne _ _ (by decide)).trans (va_up_ne _ _ (by decide)))) (hd := (by decide)) (hd2 := (by decide)) (ht := Nat.lt_trans hpb (by decide))) (fun  F75 hq => ?_)
    obtain ⟨hW73, eF74⟩ := hq
    refine J_eqF (F2 := cF ad g F0 (va_up (va_up (va_up Wi 27 (ux % 2305843009213693951)) 25 (ux / 2305843009213693951)) 29 ((ux % 2305843009213693951) * (Wi 37))) K S) eF74 ?_
    refine J_aload_n 1 d_D_hashOf_88 rfl rfl ?_
    refine gf_D_34 (by omega) ((cF_0 (by decide)).trans hDk) rfl d_D_hashOf_89 ?_
    refine J_aload_n 1 d_D_hashOf_92 rfl rfl ?_
    refine gf_D_49 (by omega) ((cF_0 (by decide)).trans hDk) rfl d_D_hashOf_93 ?_
    refine J_aload_n 1 d_D_hashOf_96 rfl rfl ?_
    refine gf_D_27 (by omega) ((cF_0 (by decide)).trans hDk) rfl d_D_hashOf_97 ?_
    refine J_callVv cw_D_117 nh_N_divide pn_N_divide rfl rfl (by omega) (cF_N (by decide) (va_up_self ..)) (As := [.ref (ad 39), .ref (ad 25)]) (rest := []) rfl (Nat.le_of_ble_eq_true rfl) ⟨by decide, by decide⟩ rfl ⟨by decide, by decide⟩ d_D_hashOf_100 (n_divide hfl (F0 := F0) (W := va_up (va_up (va_up Wi 27 (ux % 2305843009213693951)) 25 (ux / 2305843009213693951)) 29 ((ux % 2305843009213693951) * (Wi 37))) (K := K) (S := S) (k := 29) (m := 39) (p := 25) (hN := by omega) (hW := hW73) (hk := (by decide)) (hm := (by decide)) (hp := (by decide)) (x := (ux % 2305843009213693951) * (Wi 37)) (hx := (va_up_self ..)) (y := 2305843009213693951) (hy := ((va_up_ne _ _ (by decide)).trans ((va_up_ne _ _ (by decide)).trans ((va_up_ne _ _ (by decide)).trans ((q2 _ (by omega) (by omega) (by omega) (by omega) (by omega) (by omega) (by omega)).trans ((va_up_ne _ _ (by decide)).trans ((va_up_ne _ _ (by decide)).trans (va_up_self ..)))))))) (hd := (by decide)) (hd1 := (by decide)) (hd2 := (by decide)) (hx4 := Nat.lt_trans hpb (by decide)) (hy4 := by decide)) (fun  F79 hq => ?_)
    obtain ⟨hW77, eF78⟩ := hq
    have hW80 := (congrArg bW (Eq.trans (congrArg (fun qq : Nat → Nat => va_up qq 29 (((ux % 2305843009213693951) * (Wi 37)) % 2305843009213693951)) (up_in1 (by decide))) (up_in0))).mp hW77
    refine J_eqF (F2 := cF ad g F0 (va_up (va_up (va_up Wi 27 (ux % 2305843009213693951)) 25 (((ux % 2305843009213693951) * (Wi 37)) / 2305843009213693951)) 29 (((ux % 2305843009213693951) * (Wi 37)) % 2305843009213693951)) K S) (eF78.trans (congrArg (fun qq => cF ad g F0 qq K S) (Eq.trans (congrArg (fun qq : Nat → Nat => va_up qq 29 (((ux % 2305843009213693951) * (Wi 37)) % 2305843009213693951)) (up_in1 (by decide))) (up_in0)))) ?_
    refine J_aload_n 1 d_D_hashOf_103 rfl rfl ?_
    refine gf_D_34 (by omega) ((cF_0 (by decide)).trans hDk) rfl d_D_hashOf_104 ?_
    refine J_callVl cw_D_197 nh_N_toLong pn_N_toLong rfl rfl (by omega) (cF_N (by decide) (va_up_self ..)) (As := []) (rest := []) rfl (Nat.le_of_ble_eq_true rfl) ⟨by decide, by decide⟩ rfl ⟨by decide, by decide⟩ d_D_hashOf_107 (n_toLong hfl (F0 := F0) (W := va_up (va_up (va_up Wi 27 (ux % 2305843009213693951)) 25 (((ux % 2305843009213693951) * (Wi 37)) / 2305843009213693951)) 29 (((ux % 2305843009213693951) * (Wi 37)) % 2305843009213693951)) (K := K) (S := S) (k := 29) (hN := by omega) (hW := hW80) (hk := (by decide)) (x := ((ux % 2305843009213693951) * (Wi 37)) % 2305843009213693951) (hx := (va_up_self ..)) (h63 := by omega)) (fun z81 F1 hq => ?_)
    obtain ⟨hz81, eF1⟩ := hq
    refine J_eqF eF1 ?_
    refine J_topl (r := ((((ux % 2305843009213693951) * (Wi 37)) % 2305843009213693951 : Nat) : Int)) (congrArg lI hz81) ?_
    refine J_lstore_n (lv' := [(2, .long (lI ((((ux % 2305843009213693951) * (Wi 37)) % 2305843009213693951 : Nat) : Int))), (0, .ref (ad 9)), (1, .ref (ad x))]) d_D_hashOf_110 rfl (by decide) rfl ?_
    refine J_pick (lv' := [(1, .ref (ad x)), (2, .long (lI ((((ux % 2305843009213693951) * (Wi 37)) % 2305843009213693951 : Nat) : Int)))]) [2, 0] rfl ?_
    exact lab111 (va_up (va_up (va_up Wi 27 (ux % 2305843009213693951)) 25 (((ux % 2305843009213693951) * (Wi 37)) / 2305843009213693951)) 29 (((ux % 2305843009213693951) * (Wi 37)) % 2305843009213693951)) (((ux % 2305843009213693951) * (Wi 37)) % 2305843009213693951) hW80 (fun j hj => ((show (va_up (va_up (va_up Wi 27 (ux % 2305843009213693951)) 25 (((ux % 2305843009213693951) * (Wi 37)) / 2305843009213693951)) 29 (((ux % 2305843009213693951) * (Wi 37)) % 2305843009213693951)) j = Wi j from by rw [va_up_ne _ _ (by omega), va_up_ne _ _ (by omega), va_up_ne _ _ (by omega)])).trans ((q2 j (by omega) (by omega) (by omega) (by omega) (by omega) (by omega) (by omega)).trans (show (va_up (va_up (va_up W 39 2305843009213693951) 37 (dx % 2305843009213693951)) 25 (dx / 2305843009213693951)) j = W j from by rw [va_up_ne _ _ (by omega), va_up_ne _ _ (by omega), va_up_ne _ _ (by omega)]))) (by omega) (Or.inl ⟨hg1, Wi 37, hv1, hv2, rfl⟩)
