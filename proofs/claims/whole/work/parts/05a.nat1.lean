/-! folds of updates -/
theorem up_in0 {α : Type} {f : Nat → α} {i : Nat} {a c : α} : va_up (va_up f i a) i c = va_up f i c := by
  funext x; simp only [va_up]; split <;> rfl
theorem up_cm {α : Type} {f : Nat → α} {i j : Nat} {a b : α} (h : i ≠ j) : va_up (va_up f i a) j b = va_up (va_up f j b) i a := by
  funext x; simp only [va_up]; split
  · split
    · exact absurd (by omega) h
    · rfl
  · rfl
theorem up_in1 {α : Type} {f : Nat → α} {i j : Nat} {a b c : α} (h : i ≠ j) : va_up (va_up (va_up f i a) j b) i c = va_up (va_up f i c) j b := by
  rw [up_cm (f := f) h, up_in0, up_cm h]
theorem up_in2 {α : Type} {f : Nat → α} {i j k : Nat} {a b b2 c : α} (h : i ≠ j) (h2 : i ≠ k) : va_up (va_up (va_up (va_up f i a) j b) k b2) i c = va_up (va_up (va_up f i c) j b) k b2 := by
  rw [← up_cm (f := va_up (va_up f i a) j b) h2, up_in1 h]
theorem up_in3 {α : Type} {f : Nat → α} {i j k m : Nat} {a b b2 b3 c : α} (h : i ≠ j) (h2 : i ≠ k) (h3 : i ≠ m) : va_up (va_up (va_up (va_up (va_up f i a) j b) k b2) m b3) i c = va_up (va_up (va_up (va_up f i c) j b) k b2) m b3 := by
  rw [← up_cm (f := va_up (va_up (va_up f i a) j b) k b2) h3, up_in2 h h2]
theorem up_same1 {α : Type} {f : Nat → α} {i : Nat} {a : α} (h : f i = a) : f = va_up f i a := by
  funext x; simp only [va_up]; split
  · subst_vars; rfl
  · rfl
theorem up_same2 {α : Type} {f : Nat → α} {i j : Nat} {a b : α} (h : f i = a) (h2 : f j = b) : f = va_up (va_up f i a) j b := by
  rw [← up_same1 h, ← up_same1 h2]
theorem up_same3 {α : Type} {f : Nat → α} {i j k : Nat} {a b c : α} (h : f i = a) (h2 : f j = b) (h3 : f k = c) : f = va_up (va_up (va_up f i a) j b) k c := by
  rw [← up_same1 h, ← up_same1 h2, ← up_same1 h3]
theorem i2c_ok {z : Int} (h : 0 ≤ z ∧ z < 65536) : ((iI z).toUInt32 % 65536).toInt32 = iI z := by
  rw [pk_char]
  have h1 := iI_mod (a := z)
  rw [h1, nI_iI]
  congr 1
  omega
theorem nar_c {z : Int} (h : 0 ≤ z ∧ z < 65536) : vp_nar .char (iI z) = iI z := by
  rw [vp_nar_char]
  exact i2c_ok h
theorem nar_z {z : Int} (h : z = 0 ∨ z = 1) : vp_nar .boolean (iI z) = iI z := by
  rcases h with rfl | rfl <;> rfl
/-- the cells of a Natural: the object, its limbs -/
abbrev oN (ad : Nat → Nat) (k : Nat) (c : Int) : va_E := .inr (2, [.ref (ad (k + 1)), .int (iI c)])
theorem inh {h : Nat → Int} (hh : ∀ j : Nat, 0 ≤ h j ∧ h j < 1073741824) (j : Nat) : inI (h j) := ⟨by have := hh j; omega, by have := hh j; omega⟩
abbrev aN (g : Nat → ClassId) (h : Nat → Int) : va_E := .inl (g 0, 16, .inl (aI h))
/-- a natural's limbs, and how many -/
def dg (n : Nat) : Nat → Int := fun i => (dgt 30 n i : Int)
theorem dgh (n : Nat) : ∀ j : Nat, 0 ≤ dg n j ∧ dg n j < 1073741824 := fun j => by
  have h := dgt_lt 30 n j
  simp only [dg]
  omega
theorem dg_zero {n j : Nat} (h : lnw 30 n ≤ j) : dg n j = 0 := by
  simp only [dg, dgt_zeroL (by decide) h]; rfl
theorem dg_0 : dg 0 = fun _ => (0 : Int) := by
  funext j; exact dg_zero (by rw [lnw_0]; omega)
theorem cn_16 {n : Nat} (h : n < 2 ^ 480) : lnw 30 n ≤ 16 := (lnw_le (by decide)).mpr h
theorem cn_eq0 {n : Nat} : lnw 30 n = 0 ↔ n = 0 := by
  constructor
  · intro h
    have h2 := (lnw_le (w := 30) (n := n) (m := 0) (by decide)).mp (by omega)
    simpa using h2
  · rintro rfl; exact lnw_0 30
/-- three limbs by hand -/
theorem dg_3 {n : Nat} (h : n < 18446744073709551616) : va_up (va_up (va_up (fun _ => (0 : Int)) 0 ((n % 1073741824 : Nat) : Int)) 1 ((n / 1073741824 % 1073741824 : Nat) : Int)) 2 ((n / 1152921504606846976 : Nat) : Int) = dg n := by
  funext j
  simp only [va_up, dg, dgt]
  match j with
  | 0 => simp
  | 1 => simp
  | 2 =>
    simp
    omega
  | j + 3 =>
    rw [if_neg (by omega), if_neg (by omega), if_neg (by omega)]
    have : n < 2 ^ (30 * (j + 3)) := Nat.lt_of_lt_of_le h (by
      have : 2 ^ 64 ≤ 2 ^ (30 * (j + 3)) := Nat.pow_le_pow_right (by decide) (by omega)
      exact this)
    rw [Nat.div_eq_of_lt this]; rfl
def cmpN (n m : Nat) : Int := if n < m then -1 else if n = m then 0 else 1
theorem cmpN_L {n m : Nat} (h : lnw 30 n ≠ lnw 30 m) : cmpN n m = if lnw 30 n < lnw 30 m then -1 else 1 := by
  unfold cmpN
  by_cases q : lnw 30 n < lnw 30 m
  · rw [if_pos q]
    have h1 : n < 2 ^ (30 * lnw 30 n) := lnw_lt (by decide)
    have h2 : ¬ m < 2 ^ (30 * lnw 30 n) := fun z => by have := (lnw_le (w := 30) (by decide)).mpr z; omega
    rw [if_pos (by omega)]
  · rw [if_neg q]
    have h1 : m < 2 ^ (30 * lnw 30 m) := lnw_lt (by decide)
    have h2 : ¬ n < 2 ^ (30 * lnw 30 m) := fun z => by have := (lnw_le (w := 30) (by decide)).mpr z; omega
    rw [if_neg (by omega), if_neg (by omega)]
theorem up_eq_down {n m i k : Nat} (hn : n < 2 ^ (30 * k)) (hm : m < 2 ^ (30 * k)) (h : ∀ j, i ≤ j → j < k → dgt 30 n j = dgt 30 m j) : n / 2 ^ (30 * i) = m / 2 ^ (30 * i) := by
  by_cases hik : i ≤ k
  · apply dgt_ext (w := 30) (k := k - i)
    · rw [Nat.div_lt_iff_lt_mul (Nat.two_pow_pos _), ← Nat.pow_add, show 30 * (k - i) + 30 * i = 30 * k by rw [Nat.mul_sub]; have := Nat.mul_le_mul_left 30 hik; omega]; exact hn
    · rw [Nat.div_lt_iff_lt_mul (Nat.two_pow_pos _), ← Nat.pow_add, show 30 * (k - i) + 30 * i = 30 * k by rw [Nat.mul_sub]; have := Nat.mul_le_mul_left 30 hik; omega]; exact hm
    · intro j hj
      have := h (i + j) (by omega) (by omega)
      unfold dgt at this ⊢
      rw [Nat.div_div_eq_div_mul, Nat.div_div_eq_div_mul, ← Nat.pow_add, ← Nat.mul_add]
      exact this
  · have h1 : 2 ^ (30 * k) ≤ 2 ^ (30 * i) := Nat.pow_le_pow_right (by decide) (by omega)
    rw [Nat.div_eq_of_lt (by omega), Nat.div_eq_of_lt (by omega)]
theorem cmpN_at {n m i k : Nat} (hn : n < 2 ^ (30 * k)) (hm : m < 2 ^ (30 * k)) (h : ∀ j, i + 1 ≤ j → j < k → dgt 30 n j = dgt 30 m j) (hd : dgt 30 n i ≠ dgt 30 m i) : cmpN n m = if dgt 30 n i < dgt 30 m i then -1 else 1 := by
  have h1 := up_eq_down hn hm h
  have e : ∀ x : Nat, x / 2 ^ (30 * i) = x / 2 ^ (30 * (i + 1)) * 2 ^ 30 + dgt 30 x i := fun x => by
    unfold dgt
    rw [pw_succ, ← Nat.div_div_eq_div_mul, Nat.mul_comm]
    exact (Nat.div_add_mod' _ _).symm
  have en := e n
  have em := e m
  have hlt : n / 2 ^ (30 * i) < m / 2 ^ (30 * i) ↔ dgt 30 n i < dgt 30 m i := by rw [en, em, h1]; omega
  have hne : n / 2 ^ (30 * i) ≠ m / 2 ^ (30 * i) := by rw [en, em, h1]; omega
  unfold cmpN
  by_cases q : dgt 30 n i < dgt 30 m i
  · rw [if_pos q, if_pos]
    apply Nat.lt_of_not_le
    intro z
    have := Nat.div_le_div_right (c := 2 ^ (30 * i)) z
    omega
  · rw [if_neg q, if_neg, if_neg]
    · intro z; subst z; exact hne rfl
    · intro z
      have := Nat.div_le_div_right (c := 2 ^ (30 * i)) (Nat.le_of_lt z)
      omega
theorem cmpN_eq {n m k : Nat} (hn : n < 2 ^ (30 * k)) (hm : m < 2 ^ (30 * k)) (h : ∀ j, j < k → dgt 30 n j = dgt 30 m j) : cmpN n m = 0 := by
  have := dgt_ext hn hm h
  subst this
  unfold cmpN
  rw [if_neg (by omega), if_pos rfl]
/-! Long.bitCount, at numbers all ones -/
def bcnt (i : Int64) : Int32 :=
  let a := i - ((i.toUInt64 >>> ((1 : Int32).toInt64.toUInt64 &&& Int64.toUInt64 63)).toInt64 &&& 6148914691236517205)
  let b := (a &&& 3689348814741910323) + ((a.toUInt64 >>> ((2 : Int32).toInt64.toUInt64 &&& Int64.toUInt64 63)).toInt64 &&& 3689348814741910323)
  let c := (b + (b.toUInt64 >>> ((4 : Int32).toInt64.toUInt64 &&& Int64.toUInt64 63)).toInt64) &&& 1085102592571150095
  let d := c + (c.toUInt64 >>> ((8 : Int32).toInt64.toUInt64 &&& Int64.toUInt64 63)).toInt64
  let e := d + (d.toUInt64 >>> ((16 : Int32).toInt64.toUInt64 &&& Int64.toUInt64 63)).toInt64
  let f := e + (e.toUInt64 >>> ((32 : Int32).toInt64.toUInt64 &&& Int64.toUInt64 63)).toInt64
  f.toInt32 &&& 127
theorem bcnt_ones : ∀ b : Nat, b < 64 → bcnt (lI ((2 ^ b - 1 : Nat) : Int)) = iI b := by decide +kernel
set_option maxRecDepth 100000 in
set_option maxHeartbeats 4000000 in
theorem c_N_trim {l : Launch} (hfl : l.flags = flags0) {D : va_G} {g : Nat → ClassId} {ad : Nat → Nat} {N : Nat} {F : Nat → va_E} {k : Nat} {z c : Int} {h : Nat → Int}
    (hk : k + 1 < N) (hF : F k = oN ad k c) (hA : F (k + 1) = aN g h) (hh : ∀ j : Nat, 0 ≤ h j ∧ h j < 1073741824) (hz : 0 ≤ z ∧ z ≤ 2147483647) :
    JC l y_N_trim b_N_trim 4 (Option.none : Option Jvm.ClassFile.FieldType) rm_N_trim (0, 0) D jCl (jTys g) ad N F [.ref (ad k), .int (iI z)] (jv ad N (fun F' => ∃ n : Int, (0 ≤ n ∧ n ≤ z ∧ n ≤ 16) ∧ (n = 0 ∨ h (n - 1).toNat ≠ 0) ∧ (∀ j : Nat, n ≤ j → (j : Int) < z → j < 16 → h j = 0) ∧ F' = va_up F k (oN ad k n))) := by
  refine JC.go hfl (own := "NumberTower$Natural") (lv := [(0, .ref (ad k)), (1, .int (iI z))]) rfl (by decide +kernel) (Nat.le_of_ble_eq_true rfl) rfl (fun A => ?_)
  have loop15 : ∀ (fuel : Nat) (n : Int) (h1 : 0 ≤ n ∧ n ≤ z ∧ n ≤ 16) (h2 : ∀ j : Nat, n ≤ j → (j : Int) < z → j < 16 → h j = 0) (hm : n.toNat < fuel), J l rm_N_trim (0, 0) "NumberTower$Natural" b_N_trim 4 (Option.none : Option Jvm.ClassFile.FieldType) D jCl (jTys g) A (fun _ me => me.name = y_N_trim.name) (jv ad N (fun F' => ∃ n : Int, (0 ≤ n ∧ n ≤ z ∧ n ≤ 16) ∧ (n = 0 ∨ h (n - 1).toNat ≠ 0) ∧ (∀ j : Nat, n ≤ j → (j : Int) < z → j < 16 → h j = 0) ∧ F' = va_up F k (oN ad k n))) ad N 0 0 15 [(0, .ref (ad k)), (1, .int (iI z)), (2, .int (iI n)), (3, .int (iI n))] [] F := by
    intro fuel
    induction fuel with
    | zero => intro n h1 h2 hm; exact absurd hm (Nat.not_lt_zero _)
    | succ fuel ih =>
      intro n h1 h2 hm
      refine J_iload_n 3 d_N_trim_15 rfl rfl ?_
      refine J_ifle (tgt := 39) d_N_trim_16 (by decide) ⟨by omega, by omega⟩ (fun c16 => ?_) (fun c16 => ?_)
      · refine J_aload_n 0 d_N_trim_39 rfl rfl ?_
        refine J_iload_n 2 d_N_trim_40 rfl rfl ?_
        refine pf_N_19 (by omega) hF (Nat.le_of_ble_eq_true rfl) d_N_trim_41 ?_
        refine J_eqF (F2 := va_up F k (.inr (2, [.ref (ad (k + 1)), .int (iI n)]))) rfl ?_
        refine J_vret rfl d_N_trim_44 ⟨by decide, by decide⟩ ?_
        exact ⟨rfl, rfl, rfl, n, h1, by first | exact Or.inl (by omega) | exact Or.inr c27, h2, rfl⟩
      · refine J_aload_n 0 d_N_trim_19 rfl rfl ?_
        refine gf_N_9 (by omega) hF rfl d_N_trim_20 ?_
        refine J_iload_n 3 d_N_trim_23 rfl rfl ?_
        refine J_iconst d_N_trim_24 ?_
        refine J_isub d_N_trim_25 ?_
        refine J_iaload 0 rfl (by omega) hA (by omega) d_N_trim_26 ?_
        refine J_ifne (tgt := 39) d_N_trim_27 (by decide) (inh hh _) (fun c27 => ?_) (fun c27 => ?_)
        · refine J_aload_n 0 d_N_trim_39 rfl rfl ?_
          refine J_iload_n 2 d_N_trim_40 rfl rfl ?_
          refine pf_N_19 (by omega) hF (Nat.le_of_ble_eq_true rfl) d_N_trim_41 ?_
          refine J_eqF (F2 := va_up F k (.inr (2, [.ref (ad (k + 1)), .int (iI n)]))) rfl ?_
          refine J_vret rfl d_N_trim_44 ⟨by decide, by decide⟩ ?_
          exact ⟨rfl, rfl, rfl, n, h1, by first | exact Or.inl (by omega) | exact Or.inr c27, h2, rfl⟩
        · refine J_iinc (j := 2) (b := n - 1) (lv' := [(2, .int (iI (n - 1))), (0, .ref (ad k)), (1, .int (iI z)), (3, .int (iI n))]) d_N_trim_30 rfl (by omega) (by decide) rfl ?_
          refine J_iinc (j := 3) (b := n - 1) (lv' := [(3, .int (iI (n - 1))), (2, .int (iI (n - 1))), (0, .ref (ad k)), (1, .int (iI z))]) d_N_trim_33 rfl (by omega) (by decide) rfl ?_
          refine J_goto (tgt := 15) d_N_trim_36 (by decide) ?_
          refine J_pick (lv' := [(0, .ref (ad k)), (1, .int (iI z)), (2, .int (iI (n - 1))), (3, .int (iI (n - 1)))]) [2, 3, 1, 0] rfl ?_
          refine ih (n - 1) (by omega) ?_ (by omega)
          · intro j q1 q2 q3
            by_cases e : (j : Int) = n - 1
            · have e2 : (n - 1).toNat = j := by omega
              rw [← e2]; exact c27
            · exact h2 j (by omega) q2 q3
  refine J_iload_n 1 d_N_trim_0 rfl rfl ?_
  refine J_bipush d_N_trim_1 (i8_ok (by decide)) ?_
  refine J_if_icmpge (tgt := 10) d_N_trim_3 (by decide) ⟨by omega, by omega⟩ ⟨by omega, by omega⟩ (fun c3 => ?_) (fun c3 => ?_)
  · refine J_bipush d_N_trim_10 (i8_ok (by decide)) ?_
    refine J_istore_n (lv' := [(2, .int (iI 16)), (0, .ref (ad k)), (1, .int (iI z))]) d_N_trim_12 rfl (by decide) rfl ?_
    refine J_iload_n 0 d_N_trim_13 rfl rfl ?_
    refine J_istore_n (lv' := [(3, .int (iI 16)), (2, .int (iI 16)), (0, .ref (ad k)), (1, .int (iI z))]) d_N_trim_14 rfl (by decide) rfl ?_
    refine J_pick (lv' := [(0, .ref (ad k)), (1, .int (iI z)), (2, .int (iI 16)), (3, .int (iI 16))]) [2, 3, 1, 0] rfl ?_
    exact loop15 (((16 : Int).toNat) + 1) (16 : Int) (by omega) (fun j q1 q2 q3 => by omega) (Nat.lt_succ_self _)
  · refine J_iload_n 1 d_N_trim_6 rfl rfl ?_
    refine J_goto (tgt := 12) d_N_trim_7 (by decide) ?_
    refine J_istore_n (lv' := [(2, .int (iI z)), (0, .ref (ad k)), (1, .int (iI z))]) d_N_trim_12 rfl (by decide) rfl ?_
    refine J_iload_n 0 d_N_trim_13 rfl rfl ?_
    refine J_istore_n (lv' := [(3, .int (iI z)), (2, .int (iI z)), (0, .ref (ad k)), (1, .int (iI z))]) d_N_trim_14 rfl (by decide) rfl ?_
    refine J_pick (lv' := [(0, .ref (ad k)), (1, .int (iI z)), (2, .int (iI z)), (3, .int (iI z))]) [2, 3, 1, 0] rfl ?_
    exact loop15 (z.toNat + 1) z (by omega) (fun j q1 q2 q3 => by omega) (Nat.lt_succ_self _)
/-- trim over a natural's own limbs -/
theorem c_N_trimC {l : Launch} (hfl : l.flags = flags0) {D : va_G} {g : Nat → ClassId} {ad : Nat → Nat} {N : Nat} {F : Nat → va_E} {k n : Nat} {z c : Int} (hk : k + 1 < N) (hF : F k = oN ad k c) (hA : F (k + 1) = aN g (dg n)) (hn : n < 2 ^ 480) (hz : (lnw 30 n : Int) ≤ z ∧ z ≤ 2147483647) :
    JC l y_N_trim b_N_trim 4 none rm_N_trim (0, 0) D jCl (jTys g) ad N F [.ref (ad k), .int (iI z)] (jv ad N (fun F' => F' = va_up F k (oN ad k (lnw 30 n : Int)))) := by
  refine (c_N_trim hfl hk hF hA (dgh n) ⟨by omega, hz.2⟩).mono ?_
  rintro o ad' N' F' ⟨h1, h2, h3, m, h4, h5, h6, h7⟩
  refine ⟨h1, h2, h3, ?_⟩
  obtain ⟨q, rfl⟩ : ∃ q : Nat, m = (q : Int) := ⟨m.toNat, by omega⟩
  have h16 := cn_16 hn
  have : q = lnw 30 n := by
    refine lnw_uniq (L := min z.toNat 16) (by decide) (by omega) ?_ (fun j h8 h9 => ?_)
    · rcases h5 with h5 | h5
      · left; omega
      · right
        rw [show ((q : Int) - 1).toNat = q - 1 by omega] at h5
        intro z0
        apply h5
        simp only [dg, z0]; rfl
    · have := h6 j (by omega) (by omega) (by omega)
      simp only [dg] at this
      omega
  rw [h7, this]
set_option maxRecDepth 100000 in
set_option maxHeartbeats 4000000 in
theorem c_JArrays_fill {l : Launch} (hfl : l.flags = flags0) {D : va_G} {g : Nat → ClassId} {ad : Nat → Nat} {N : Nat} {F : Nat → va_E} {k n : Nat} {v : Int} {h : Nat → Int}
    (hk : k < N) (hF : F k = .inl (g 0, n, .inl (aI h))) (hn : n ≤ 2147483647) :
    JC l y_JArrays_fill b_JArrays_fill 4 (Option.none : Option Jvm.ClassFile.FieldType) rm_JArrays_fill (0, 0) D jCl (jTys g) ad N F [.ref (ad k), .int (iI v)] (jv ad N (fun F' => F' = va_up F k (.inl (g 0, n, .inl (aI (fun _ => v)))))) := by
  refine JC.go hfl (own := "java/util/Arrays") (lv := [(0, .ref (ad k)), (1, .int (iI v))]) rfl (by decide +kernel) (Nat.le_of_ble_eq_true rfl) rfl (fun A => ?_)
  refine J_iconst d_JArrays_fill_0 ?_
  refine J_istore_n (lv' := [(2, .int (iI 0)), (0, .ref (ad k)), (1, .int (iI v))]) d_JArrays_fill_1 rfl (by decide) rfl ?_
  refine J_aload_n 1 d_JArrays_fill_2 rfl rfl ?_
  refine J_alen 0 rfl (by omega) hF d_JArrays_fill_3 ?_
  refine J_istore_n (lv' := [(3, .int (iI (n : Int))), (2, .int (iI 0)), (0, .ref (ad k)), (1, .int (iI v))]) d_JArrays_fill_4 rfl (by decide) rfl ?_
  refine J_pick (lv' := [(0, .ref (ad k)), (1, .int (iI v)), (2, .int (iI 0)), (3, .int (iI (n : Int)))]) [2, 3, 1, 0] rfl ?_
  have loop5 : ∀ (fuel : Nat) (i : Nat) (f : Nat → Int) (h1 : i ≤ n) (h2 : ∀ j : Nat, j < i → f j = v) (hm : n - i < fuel), J l rm_JArrays_fill (0, 0) "java/util/Arrays" b_JArrays_fill 4 (Option.none : Option Jvm.ClassFile.FieldType) D jCl (jTys g) A (fun _ me => me.name = y_JArrays_fill.name) (jv ad N (fun F' => F' = va_up F k (.inl (g 0, n, .inl (aI (fun _ => v)))))) ad N 0 0 5 [(0, .ref (ad k)), (1, .int (iI v)), (2, .int (iI (i : Int))), (3, .int (iI (n : Int)))] [] (va_up F k (.inl (g 0, n, .inl (aI f)))) := by
    intro fuel
    induction fuel with
    | zero => intro i f h1 h2 hm; exact absurd hm (Nat.not_lt_zero _)
    | succ fuel ih =>
      intro i f h1 h2 hm
      refine J_iload_n 2 d_JArrays_fill_5 rfl rfl ?_
      refine J_iload_n 3 d_JArrays_fill_6 rfl rfl ?_
      refine J_if_icmpge (tgt := 20) d_JArrays_fill_7 (by decide) ⟨by omega, by omega⟩ ⟨by omega, by omega⟩ (fun c7 => ?_) (fun c7 => ?_)
      · refine J_arrI (k := k) (h := f) (h' := fun _ => v) (by omega) (va_up_self _ _ _) (fun j hj => h2 j (by omega)) ?_
        refine J_eqF up_in0 ?_
        refine J_vret rfl d_JArrays_fill_20 ⟨by decide, by decide⟩ ?_
        exact ⟨rfl, rfl, rfl, rfl⟩
      · refine J_aload_n 0 d_JArrays_fill_10 rfl rfl ?_
        refine J_iload_n 2 d_JArrays_fill_11 rfl rfl ?_
        refine J_iload_n 1 d_JArrays_fill_12 rfl rfl ?_
        refine J_iastore 0 rfl (by omega) (by rw [va_up_self]) (by omega) d_JArrays_fill_13 ?_
        refine J_eqF (F2 := va_up (va_up F k (.inl (g 0, n, .inl (aI f)))) k (.inl (g 0, n, .inl (aI (va_up f i v))))) (congrArg (fun q => va_up (va_up F k (.inl (g 0, n, .inl (aI f)))) k (.inl (g 0, n, .inl (aI (va_up f q v))))) (by omega : (i : Int).toNat = i)) ?_
        refine J_eqF (F2 := va_up F k (.inl (g 0, n, .inl (aI (va_up f i v))))) (up_in0) ?_
        refine J_iinc (j := 2) (b := (i : Int) + 1) (lv' := [(2, .int (iI ((i : Int) + 1))), (0, .ref (ad k)), (1, .int (iI v)), (3, .int (iI (n : Int)))]) d_JArrays_fill_14 rfl (by omega) (by decide) rfl ?_
        refine J_goto (tgt := 5) d_JArrays_fill_17 (by decide) ?_
        refine J_pick (lv' := [(0, .ref (ad k)), (1, .int (iI v)), (2, .int (iI ((i : Int) + 1))), (3, .int (iI (n : Int)))]) [1, 2, 0, 3] rfl ?_
        refine ih (i + 1) (va_up f i v) (by omega) ?_ (by omega)
        · intro j q
          by_cases e : j = i
          · rw [e, va_up_self]
          · rw [va_up_ne _ _ e]; exact h2 j (by omega)
  refine J_eqF (F2 := va_up F k (.inl (g 0, n, .inl (aI h)))) (up_same1 hF) ?_
  exact loop5 ((n - 0) + 1) 0 h (by omega) (fun j q => absurd q (Nat.not_lt_zero _)) (Nat.lt_succ_self _)
set_option maxRecDepth 100000 in
set_option maxHeartbeats 4000000 in
theorem c_JMath_min {l : Launch} (hfl : l.flags = flags0) {D : va_G} {g : Nat → ClassId} {ad : Nat → Nat} {N : Nat} {F : Nat → va_E} {a b : Int}
    (ha : inI a) (hb : inI b) :
    JC l y_JMath_min b_JMath_min 2 (Option.some Jvm.ClassFile.FieldType.int) rm_JMath_min (0, 0) D jCl (jTys g) ad N F [.int (iI a), .int (iI b)] (ji ad N (fun z F' => z = min a b ∧ F' = F)) := by
  refine JC.go hfl (own := "java/lang/Math") (lv := [(0, .int (iI a)), (1, .int (iI b))]) rfl (by decide +kernel) (Nat.le_of_ble_eq_true rfl) rfl (fun A => ?_)
  refine J_iload_n 0 d_JMath_min_0 rfl rfl ?_
  refine J_iload_n 1 d_JMath_min_1 rfl rfl ?_
  refine J_if_icmpgt (tgt := 9) d_JMath_min_2 (by decide) ⟨by omega, by omega⟩ ⟨by omega, by omega⟩ (fun c2 => ?_) (fun c2 => ?_)
  · refine J_iload_n 1 d_JMath_min_9 rfl rfl ?_
    refine J_iret rfl rfl d_JMath_min_10 ⟨by decide, by decide⟩ ?_
    exact ⟨_, rfl, rfl, rfl, by omega, rfl⟩
  · refine J_iload_n 0 d_JMath_min_5 rfl rfl ?_
    refine J_goto (tgt := 10) d_JMath_min_6 (by decide) ?_
    refine J_iret rfl rfl d_JMath_min_10 ⟨by decide, by decide⟩ ?_
    exact ⟨_, rfl, rfl, rfl, by omega, rfl⟩
set_option maxRecDepth 100000 in
set_option maxHeartbeats 4000000 in
theorem c_JMath_max {l : Launch} (hfl : l.flags = flags0) {D : va_G} {g : Nat → ClassId} {ad : Nat → Nat} {N : Nat} {F : Nat → va_E} {a b : Int}
    (ha : inI a) (hb : inI b) :
    JC l y_JMath_max b_JMath_max 2 (Option.some Jvm.ClassFile.FieldType.int) rm_JMath_max (0, 0) D jCl (jTys g) ad N F [.int (iI a), .int (iI b)] (ji ad N (fun z F' => z = max a b ∧ F' = F)) := by
  refine JC.go hfl (own := "java/lang/Math") (lv := [(0, .int (iI a)), (1, .int (iI b))]) rfl (by decide +kernel) (Nat.le_of_ble_eq_true rfl) rfl (fun A => ?_)
  refine J_iload_n 0 d_JMath_max_0 rfl rfl ?_
  refine J_iload_n 1 d_JMath_max_1 rfl rfl ?_
  refine J_if_icmplt (tgt := 9) d_JMath_max_2 (by decide) ⟨by omega, by omega⟩ ⟨by omega, by omega⟩ (fun c2 => ?_) (fun c2 => ?_)
  · refine J_iload_n 1 d_JMath_max_9 rfl rfl ?_
    refine J_iret rfl rfl d_JMath_max_10 ⟨by decide, by decide⟩ ?_
    exact ⟨_, rfl, rfl, rfl, by omega, rfl⟩
  · refine J_iload_n 0 d_JMath_max_5 rfl rfl ?_
    refine J_goto (tgt := 10) d_JMath_max_6 (by decide) ?_
    refine J_iret rfl rfl d_JMath_max_10 ⟨by decide, by decide⟩ ?_
    exact ⟨_, rfl, rfl, rfl, by omega, rfl⟩
set_option maxRecDepth 100000 in
set_option maxHeartbeats 4000000 in
theorem c_JMath_abs {l : Launch} (hfl : l.flags = flags0) {D : va_G} {g : Nat → ClassId} {ad : Nat → Nat} {N : Nat} {F : Nat → va_E} {a : Int}
    (ha : -2147483647 ≤ a ∧ a ≤ 2147483647) :
    JC l y_JMath_abs b_JMath_abs 1 (Option.some Jvm.ClassFile.FieldType.int) rm_JMath_abs (0, 0) D jCl (jTys g) ad N F [.int (iI a)] (ji ad N (fun z F' => z = (a.natAbs : Int) ∧ F' = F)) := by
  refine JC.go hfl (own := "java/lang/Math") (lv := [(0, .int (iI a))]) rfl (by decide +kernel) (Nat.le_of_ble_eq_true rfl) rfl (fun A => ?_)
  refine J_iload_n 0 d_JMath_abs_0 rfl rfl ?_
  refine J_ifge (tgt := 9) d_JMath_abs_1 (by decide) ⟨by omega, by omega⟩ (fun c1 => ?_) (fun c1 => ?_)
  · refine J_iload_n 0 d_JMath_abs_9 rfl rfl ?_
    refine J_iret rfl rfl d_JMath_abs_10 ⟨by decide, by decide⟩ ?_
    exact ⟨_, rfl, rfl, rfl, by omega, rfl⟩
  · refine J_iload_n 0 d_JMath_abs_4 rfl rfl ?_
    refine J_ineg d_JMath_abs_5 ?_
    refine J_goto (tgt := 10) d_JMath_abs_6 (by decide) ?_
    refine J_iret rfl rfl d_JMath_abs_10 ⟨by decide, by decide⟩ ?_
    exact ⟨_, rfl, rfl, rfl, by omega, rfl⟩
