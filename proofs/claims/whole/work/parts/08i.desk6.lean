/-! the class's desk: bits, shifts -/
theorem less1 {x i : Nat} (hx : 0 < x) : (x % 2 ^ (30 * i) = 0 → dgt 30 (x - 1) i = (dgt 30 x i + 1073741823) % 1073741824) ∧ (x % 2 ^ (30 * i) ≠ 0 → dgt 30 (x - 1) i = dgt 30 x i) := by
  unfold dgt
  have hP := Nat.two_pow_pos (30 * i)
  generalize 2 ^ (30 * i) = P at *
  have h1 := Nat.div_add_mod x P
  constructor
  · intro h
    have hq : 0 < x / P := by
      apply Nat.pos_of_ne_zero
      intro z
      rw [z, Nat.mul_zero] at h1; omega
    have e : (x - 1) / P = x / P - 1 := by
      obtain ⟨q, hq2⟩ : ∃ q, x / P = q + 1 := ⟨x / P - 1, by omega⟩
      rw [hq2, Nat.mul_succ] at h1
      rw [hq2, show x - 1 = (P - 1) + P * q by omega, Nat.add_mul_div_left _ _ hP, Nat.div_eq_of_lt (by omega)]
      omega
    rw [e]
    generalize x / P = q at *
    omega
  · intro h
    have e : (x - 1) / P = x / P := by
      have h2 := Nat.mod_lt x hP
      rw [show x - 1 = (x % P - 1) + P * (x / P) by omega, Nat.add_mul_div_left _ _ hP, Nat.div_eq_of_lt (by omega)]
      omega
    rw [e]
theorem low_z {x i : Nat} : x % 2 ^ (30 * (i + 1)) = 0 ↔ x % 2 ^ (30 * i) = 0 ∧ dgt 30 x i = 0 := by
  rw [low_w]
  have hP := Nat.two_pow_pos (30 * i)
  constructor
  · intro h
    have h2 : dgt 30 x i * 2 ^ (30 * i) = 0 := by omega
    exact ⟨by omega, by rcases Nat.mul_eq_zero.mp h2 with e | e <;> omega⟩
  · rintro ⟨h1, h2⟩
    rw [h1, h2, Nat.zero_mul]
/-- the operations on bits -/
def bopB (op : Int) (a b : Bool) : Bool := if op = 7 then a && b else if op = 8 then a || b else a ^^ b
def bopN (op : Int) (a b : Nat) : Nat := if op = 7 then a &&& b else if op = 8 then a ||| b else a ^^^ b
def msk (w : Nat) (b : Bool) : Nat := if b then 2 ^ w - 1 else 0
/-- the amount of the result, bit by bit -/
def mixZ (op : Int) (nx ny : Bool) (X Y : Nat) : Nat := Nat.bitwise (fun a b => bopB op (a ^^ nx) (b ^^ ny) ^^ bopB op nx ny) X Y
theorem bopN_bit (op : Int) (a b j : Nat) : (bopN op a b).testBit j = bopB op (a.testBit j) (b.testBit j) := by
  unfold bopN bopB
  split
  · exact Nat.testBit_and ..
  · split
    · exact Nat.testBit_or ..
    · exact Nat.testBit_xor ..
theorem msk_bit (w j : Nat) (b : Bool) : (msk w b).testBit j = (b && decide (j < w)) := by
  unfold msk
  cases b
  · simp
  · simp [Nat.testBit_two_pow_sub_one]
theorem dgt_bit (w n i j : Nat) : (dgt w n i).testBit j = (decide (j < w) && n.testBit (w * i + j)) := by
  unfold dgt
  rw [Nat.testBit_mod_two_pow, ← Nat.shiftRight_eq_div_pow, Nat.testBit_shiftRight]
theorem bopB_0 (op : Int) (a b : Bool) : (bopB op (false ^^ a) (false ^^ b) ^^ bopB op a b) = false := by
  cases a <;> cases b <;> simp
theorem bopB_00 (op : Int) : bopB op false false = false := by unfold bopB; split; rfl; split <;> rfl
theorem mix_dgt (w : Nat) (op : Int) (nx ny : Bool) (X Y i : Nat) : dgt w (mixZ op nx ny X Y) i = bopN op (dgt w X i ^^^ msk w nx) (dgt w Y i ^^^ msk w ny) ^^^ msk w (bopB op nx ny) := by
  apply Nat.eq_of_testBit_eq
  intro j
  rw [Nat.testBit_xor, bopN_bit, Nat.testBit_xor, Nat.testBit_xor, msk_bit, msk_bit, msk_bit, dgt_bit, dgt_bit, dgt_bit]
  unfold mixZ
  rw [Nat.testBit_bitwise (by exact bopB_0 op nx ny)]
  by_cases h : j < w
  · simp [h]
  · simp [h, bopB_00]
theorem mixZ_lt {op : Int} {nx ny : Bool} {X Y n : Nat} (hX : X < 2 ^ n) (hY : Y < 2 ^ n) : mixZ op nx ny X Y < 2 ^ n := Nat.bitwise_lt_two_pow hX hY
theorem bopN_lt {op : Int} {a b w : Nat} (ha : a < 2 ^ w) (hb : b < 2 ^ w) : bopN op a b < 2 ^ w := by
  unfold bopN
  split
  · exact Nat.and_lt_two_pow _ hb
  · split
    · exact Nat.or_lt_two_pow ha hb
    · exact Nat.xor_lt_two_pow ha hb
theorem msk_lt (w : Nat) (b : Bool) : msk w b < 2 ^ w := by
  have := Nat.two_pow_pos w
  unfold msk; split <;> omega
theorem msk_op (w : Nat) (op : Int) (a b : Bool) : bopN op (msk w a) (msk w b) = msk w (bopB op a b) := by
  apply Nat.eq_of_testBit_eq
  intro j
  rw [bopN_bit, msk_bit, msk_bit, msk_bit]
  by_cases h : j < w
  · simp [h]
  · simp [h, bopB_00]
def mixF (op sx : Int) (ux : Nat) (sy : Int) (uy : Nat) : Option (Int × Int × Nat × Nat) :=
  let nx := decide (sx < 0)
  let ny := decide (sy < 0)
  let Z := mixZ op nx ny (if sx < 0 then ux - 1 else ux) (if sy < 0 then uy - 1 else uy)
  fin 0 (if bopB op nx ny = true then -1 else 1) (if bopB op nx ny = true then Z + 1 else Z) 1
def shF (sx : Int) (ux : Nat) (by' : Int) : Option (Int × Int × Nat × Nat) :=
  fin 0 sx (if 0 ≤ by' then ux * 2 ^ by'.toNat else if 0 ≤ sx then ux / 2 ^ (-by').toNat else (ux - 1) / 2 ^ (-by').toNat + 1) 1
set_option maxRecDepth 100000 in
set_option maxHeartbeats 4000000 in
theorem c_D_lessOne {l : Launch} (hfl : l.flags = flags0) {D : va_G} {g : Nat → ClassId} {ad : Nat → Nat} {N : Nat} {F0 : Nat → va_E} {W : Nat → Nat} {K S : Nat → Int} {p x : Nat}
    (hN : 109 ≤ N) (hW : bW W) (hp : isN p) (hx : W p = x) :
    JC l y_D_lessOne b_D_lessOne 3 (Option.none : Option Jvm.ClassFile.FieldType) rm_D_lessOne (0, 0) D jCl (jTys g) ad N (cF ad g F0 W K S) [.ref (ad p)] (jv ad N (fun F' => bW (va_up W p (x - 1)) ∧ F' = cF ad g F0 (va_up W p (x - 1)) K S)) := by
  have hp2 := (isN_1 hp).1
  have hxb : x < 2 ^ 480 := hx ▸ hW p
  have hl16 := cn_16 hxb
  refine JC.go hfl (own := "NumberTower$Desk") (lv := [(0, .ref (ad p))]) rfl (by decide +kernel) (Nat.le_of_ble_eq_true rfl) rfl (fun A => ?_)
  refine J_aload_n 0 d_D_lessOne_0 rfl rfl ?_
  have lab12 : ∀ (b0 : Int) (hb0 : (b0 = 1 ∧ x ≠ 0) ∨ (b0 = 0 ∧ x = 0)) , J l rm_D_lessOne (0, 0) "NumberTower$Desk" b_D_lessOne 3 (Option.none : Option Jvm.ClassFile.FieldType) D jCl (jTys g) A (fun _ me => me.name = y_D_lessOne.name) (jv ad N (fun F' => bW (va_up W p (x - 1)) ∧ F' = cF ad g F0 (va_up W p (x - 1)) K S)) ad N 0 0 12 [(0, .ref (ad p))] [.int (iI b0)] (cF ad g F0 W K S) := by
    intro b0 hb0
    refine J_istore_n (lv' := [(1, .int (iI b0)), (0, .ref (ad p))]) d_D_lessOne_12 rfl (by decide) rfl ?_
    refine J_iconst d_D_lessOne_13 ?_
    refine J_istore_n (lv' := [(2, .int (iI 0)), (1, .int (iI b0)), (0, .ref (ad p))]) d_D_lessOne_14 rfl (by decide) rfl ?_
    refine J_pick (lv' := [(0, .ref (ad p)), (1, .int (iI b0)), (2, .int (iI 0))]) [2, 1, 0] rfl ?_
    have loop15 : ∀ (fuel : Nat) (i : Nat) (b : Int) (f : Nat → Int) (h1 : i ≤ 16) (hb : (b = 1 ∧ x ≠ 0 ∧ x % 2 ^ (30 * i) = 0) ∨ (b = 0 ∧ (x = 0 ∨ x % 2 ^ (30 * i) ≠ 0))) (hf : f = mix i (dg (x - 1)) (dg x)) (hfu : 16 - i < fuel), J l rm_D_lessOne (0, 0) "NumberTower$Desk" b_D_lessOne 3 (Option.none : Option Jvm.ClassFile.FieldType) D jCl (jTys g) A (fun _ me => me.name = y_D_lessOne.name) (jv ad N (fun F' => bW (va_up W p (x - 1)) ∧ F' = cF ad g F0 (va_up W p (x - 1)) K S)) ad N 0 0 15 [(0, .ref (ad p)), (1, .int (iI b)), (2, .int (iI (i : Int)))] [] (va_up (cF ad g F0 W K S) (p + 1) (.inl (g 0, 16, .inl (aI f)))) := by
      intro fuel
      induction fuel with
      | zero => intro i b f h1 hb hf hfu; exact absurd hfu (Nat.not_lt_zero _)
      | succ fuel ih =>
        intro i b f h1 hb hf hfu
        have hbz : b = 0 → x ≠ 0 → x % 2 ^ (30 * i) ≠ 0 := fun e1 e2 => by omega
        have fi : f i = dg x i := by rw [hf]; exact mix_at
        have hdx := dg_nat x i
        have bdx := dgt_b x i
        have hlw := low_z (x := x) (i := i)
        refine J_iload_n 2 d_D_lessOne_15 rfl rfl ?_
        have lab63 : ∀ (i : Nat) (b : Int) (f : Nat → Int) (hf : f = mix i (dg (x - 1)) (dg x)) (hbz : (i < 16 → x ≠ 0 → x % 2 ^ (30 * i) ≠ 0)) , J l rm_D_lessOne (0, 0) "NumberTower$Desk" b_D_lessOne 3 (Option.none : Option Jvm.ClassFile.FieldType) D jCl (jTys g) A (fun _ me => me.name = y_D_lessOne.name) (jv ad N (fun F' => bW (va_up W p (x - 1)) ∧ F' = cF ad g F0 (va_up W p (x - 1)) K S)) ad N 0 0 63 [(0, .ref (ad p))] [] (va_up (cF ad g F0 W K S) (p + 1) (.inl (g 0, 16, .inl (aI f)))) := by
          intro i b f hf hbz
          refine J_aload_n 0 d_D_lessOne_63 rfl rfl ?_
          refine J_aload_n 0 d_D_lessOne_64 rfl rfl ?_
          refine gf_D_152 (by omega) (by rw [va_up_ne _ _ (by omega)]; exact (cF_N hp hx)) rfl d_D_lessOne_65 ?_
          have hend : f = dg (x - 1) := by
            rw [hf]
            refine mix_all (fun j hj => ?_)
            rw [dg_nat, dg_nat]
            by_cases q : 16 ≤ j
            · rw [dgt_zero (Nat.lt_of_lt_of_le hxb (Nat.pow_le_pow_right (by decide) (by omega))), dgt_zero (Nat.lt_of_le_of_lt (Nat.sub_le _ _) (Nat.lt_of_lt_of_le hxb (Nat.pow_le_pow_right (by decide) (by omega))))]
            · by_cases z : x = 0
              · rw [z]
              · have hm : x % 2 ^ (30 * j) ≠ 0 := by
                  intro e
                  apply hbz (by omega) z
                  exact Nat.eq_zero_of_dvd_of_lt (Nat.dvd_trans (Nat.pow_dvd_pow 2 (by omega : 30 * i ≤ 30 * j)) (Nat.dvd_of_mod_eq_zero e) |> fun d => (Nat.dvd_mod_iff (Nat.dvd_refl _)).mpr d) (Nat.mod_lt _ (Nat.two_pow_pos _))
                rw [(less1 (by omega)).2 hm]
          refine J_eqF (F2 := va_up (cF ad g F0 W K S) (p + 1) (.inl (g 0, 16, .inl (aI (dg (x - 1)))))) (congrArg (fun qq => va_up (cF ad g F0 W K S) (p + 1) (.inl (g 0, 16, .inl (aI qq)))) hend) ?_
          refine J_callVv cw_D_145 nh_N_trim pn_N_trim rfl rfl (by omega) (by rw [va_up_ne _ _ (by omega)]; exact (cF_N hp hx)) (As := [.int (iI (lnw 30 x : Int))]) (rest := []) rfl (Nat.le_of_ble_eq_true rfl) ⟨by decide, by decide⟩ rfl ⟨by decide, by decide⟩ d_D_lessOne_68 (c_N_trimC hfl (k := p) (n := x - 1) (z := lnw 30 x) (c := lnw 30 x) (by omega) (by rw [va_up_ne _ _ (by omega)]; exact (cF_N hp hx)) (by rw [va_up_self]) (Nat.lt_of_le_of_lt (Nat.sub_le _ _) hxb) ⟨by have := lnw_mono (Nat.sub_le x 1); omega, by have := cn_16 hxb; omega⟩) (fun  F1 hq => ?_)
          have eFt := hq
          refine J_eqF (eFt.trans (cF_upN hp)) ?_
          refine J_vret rfl d_D_lessOne_71 ⟨by decide, by decide⟩ ?_
          exact ⟨rfl, rfl, rfl, bW_up hW (Nat.lt_of_le_of_lt (Nat.sub_le _ _) hxb), rfl⟩
        refine J_bipush d_D_lessOne_16 (i8_ok (by decide)) ?_
        refine J_if_icmpge (tgt := 63) d_D_lessOne_18 (by decide) ⟨by omega, by omega⟩ ⟨by omega, by omega⟩ (fun c18 => ?_) (fun c18 => ?_)
        · refine J_pick (lv' := [(0, .ref (ad p))]) [0] rfl ?_
          exact lab63 i b f hf (fun e1 e2 => by omega)
        · refine J_iload_n 1 d_D_lessOne_21 rfl rfl ?_
          refine J_ifeq (tgt := 63) d_D_lessOne_22 (by decide) ⟨by omega, by omega⟩ (fun c22 => ?_) (fun c22 => ?_)
          · refine J_pick (lv' := [(0, .ref (ad p))]) [0] rfl ?_
            exact lab63 i b f hf (fun e1 e2 => by omega)
          · refine J_aload_n 0 d_D_lessOne_25 rfl rfl ?_
            refine gf_D_141 (by omega) (by rw [va_up_ne _ _ (by omega)]; exact (cF_N hp hx)) rfl d_D_lessOne_26 ?_
            have lab39 : ∀ (e0 : Int) (he0 : (e0 = 1 ∧ dgt 30 x i = 0) ∨ (e0 = 0 ∧ dgt 30 x i ≠ 0)) , J l rm_D_lessOne (0, 0) "NumberTower$Desk" b_D_lessOne 3 (Option.none : Option Jvm.ClassFile.FieldType) D jCl (jTys g) A (fun _ me => me.name = y_D_lessOne.name) (jv ad N (fun F' => bW (va_up W p (x - 1)) ∧ F' = cF ad g F0 (va_up W p (x - 1)) K S)) ad N 0 0 39 [(0, .ref (ad p)), (1, .int (iI b)), (2, .int (iI (i : Int)))] [.int (iI e0)] (va_up (cF ad g F0 W K S) (p + 1) (.inl (g 0, 16, .inl (aI f)))) := by
              intro e0 he0
              refine J_istore_n (lv' := [(1, .int (iI e0)), (0, .ref (ad p)), (2, .int (iI (i : Int)))]) d_D_lessOne_39 rfl (by decide) rfl ?_
              refine J_aload_n 1 d_D_lessOne_40 rfl rfl ?_
              refine gf_D_141 (by omega) (by rw [va_up_ne _ _ (by omega)]; exact (cF_N hp hx)) rfl d_D_lessOne_41 ?_
              refine J_iload_n 2 d_D_lessOne_44 rfl rfl ?_
              refine J_aload_n 1 d_D_lessOne_45 rfl rfl ?_
              refine gf_D_141 (by omega) (by rw [va_up_ne _ _ (by omega)]; exact (cF_N hp hx)) rfl d_D_lessOne_46 ?_
              refine J_iload_n 2 d_D_lessOne_49 rfl rfl ?_
              refine J_iaload 0 rfl (by omega) (by rw [va_up_self]) (by omega) d_D_lessOne_50 ?_
              refine J_topi (r := f i) (congrArg (fun q => iI (f q)) (by omega)) ?_
              refine J_iconst d_D_lessOne_51 ?_
              refine J_isub d_D_lessOne_52 ?_
              refine J_ldc (z := 1073741823) d_D_lessOne_53 wd_695 (by decide) ?_
              refine J_iand (r := ((f i) - 1) % 1073741824) d_D_lessOne_55 (iI_and 30 (by decide)) ?_
              refine J_iastore 0 rfl (by omega) (by rw [va_up_self]) (by omega) d_D_lessOne_56 ?_
              refine J_eqF (F2 := va_up (va_up (cF ad g F0 W K S) (p + 1) (.inl (g 0, 16, .inl (aI f)))) (p + 1) (.inl (g 0, 16, .inl (aI (va_up f i (((f i) - 1) % 1073741824)))))) (congrArg (fun q => va_up (va_up (cF ad g F0 W K S) (p + 1) (.inl (g 0, 16, .inl (aI f)))) (p + 1) (.inl (g 0, 16, .inl (aI (va_up f q (((f i) - 1) % 1073741824)))))) (by omega : (i : Int).toNat = i)) ?_
              refine J_eqF (F2 := va_up (cF ad g F0 W K S) (p + 1) (.inl (g 0, 16, .inl (aI (va_up f i (((f i) - 1) % 1073741824)))))) (up_in0) ?_
              refine J_iinc (j := 2) (b := (i : Int) + 1) (lv' := [(2, .int (iI ((i : Int) + 1))), (1, .int (iI e0)), (0, .ref (ad p))]) d_D_lessOne_57 rfl (by omega) (by decide) rfl ?_
              refine J_goto (tgt := 15) d_D_lessOne_60 (by decide) ?_
              refine J_pick (lv' := [(0, .ref (ad p)), (1, .int (iI e0)), (2, .int (iI ((i : Int) + 1)))]) [2, 1, 0] rfl ?_
              refine ih (i + 1) e0 (va_up f i (((f i) - 1) % 1073741824)) (by omega) (by omega) ?_ (by omega)
              · rw [fi, hf]
                refine mix_up ?_
                rw [dg_nat (x - 1) i, (less1 (x := x) (by omega)).1 (by omega), hdx]
                omega
            refine J_iload_n 2 d_D_lessOne_29 rfl rfl ?_
            refine J_iaload 0 rfl (by omega) (by rw [va_up_self]) (by omega) d_D_lessOne_30 ?_
            refine J_topi (r := f i) (congrArg (fun q => iI (f q)) (by omega)) ?_
            refine J_ifne (tgt := 38) d_D_lessOne_31 (by decide) (by rw [fi]; exact ⟨by omega, by omega⟩) (fun c31 => ?_) (fun c31 => ?_)
            · refine J_iconst d_D_lessOne_38 ?_
              exact lab39 (0 : Int) (by omega)
            · refine J_iconst d_D_lessOne_34 ?_
              refine J_goto (tgt := 39) d_D_lessOne_35 (by decide) ?_
              exact lab39 (1 : Int) (by omega)
    refine J_eqF (F2 := va_up (cF ad g F0 W K S) (p + 1) (.inl (g 0, 16, .inl (aI (dg x))))) (up_same1 (cF_A (k := p) hp hx)) ?_
    exact loop15 ((16 - 0) + 1) 0 b0 (dg x) (by omega) (by rw [Nat.mul_zero, Nat.pow_zero, Nat.mod_one]; omega) (mix_0 _ _) (Nat.lt_succ_self _)
  refine J_callVi cw_D_120 nh_N_isZero pn_N_isZero rfl rfl (by omega) (cF_N hp hx) (As := []) (rest := []) rfl (Nat.le_of_ble_eq_true rfl) ⟨by decide, by decide⟩ rfl ⟨by decide, by decide⟩ d_D_lessOne_1 (n_isZero hfl (F0 := F0) (W := W) (K := K) (S := S) (k := p) (hN := by omega) (hW := hW) (hk := hp) (x := x) (hx := hx)) (fun z2 F1 hq => ?_)
  obtain ⟨hz2, eF1⟩ := hq
  refine J_eqF eF1 ?_
  refine J_ifne (tgt := 11) d_D_lessOne_4 (by decide) ⟨by omega, by omega⟩ (fun c4 => ?_) (fun c4 => ?_)
  · refine J_iconst d_D_lessOne_11 ?_
    exact lab12 (0 : Int) (by omega)
  · refine J_iconst d_D_lessOne_7 ?_
    refine J_goto (tgt := 12) d_D_lessOne_8 (by decide) ?_
    exact lab12 (1 : Int) (by omega)
