/-! the Model: rests and inverses modulo m -/
/-- a, or less than 0 by a, modulo m -/
def rdN (b : Int) (a m : Nat) : Nat := if b = 1 ∧ a % m ≠ 0 then m - a % m else a % m
theorem rdN_lt {b : Int} {a m : Nat} (h : 0 < m) : rdN b a m < m := by
  have := Nat.mod_lt a h
  unfold rdN; split <;> omega
theorem rdN_0 {a m : Nat} : rdN 0 a m = a % m := by unfold rdN; rw [if_neg (fun h => absurd h.1 (by decide))]
theorem rdN_1 {a m : Nat} (h : 0 < m) : (rdN 1 a m + a) % m = 0 := by
  have hm := Nat.mod_lt a h
  unfold rdN
  rw [Nat.add_mod]
  by_cases z : a % m = 0
  · rw [if_neg (fun w => w.2 z), z]; simp
  · rw [if_pos ⟨rfl, z⟩, Nat.mod_eq_of_lt (show m - a % m < m by omega), show m - a % m + a % m = m by omega, Nat.mod_self]
theorem mod_cancel {a b c m : Nat} (h : (a + c) % m = (b + c) % m) : a % m = b % m := by
  have h2 : ((a : Int) + c) % m = ((b : Int) + c) % m := by
    have := congrArg (fun n : Nat => (n : Int)) h
    simpa using this
  have h3 := (Int.emod_add_cancel_right (c : Int)).mp h2
  have h4 : ((a % m : Nat) : Int) = ((b % m : Nat) : Int) := by
    rw [Int.natCast_emod, Int.natCast_emod]; exact h3
  omega
theorem eu_step {m x u h p q : Nat} (hm : 0 < m) (h1 : u % m = x * p % m) (h2 : h % m = x * q % m) : u % h % m = x * ((rdN 1 (u / h * q) m + p) % m) % m := by
  apply mod_cancel (c := x * (u / h * q))
  have e1 : (u % h + x * (u / h * q)) % m = u % m := by
    have : x * (u / h * q) % m = u / h * h % m := by
      rw [Nat.mul_left_comm, Nat.mul_mod, ← h2, ← Nat.mul_mod]
    rw [Nat.add_mod, this, ← Nat.add_mod]
    congr 1
    have := Nat.div_add_mod u h
    rw [Nat.mul_comm] at this
    omega
  have e2 : (x * ((rdN 1 (u / h * q) m + p) % m) + x * (u / h * q)) % m = x * p % m := by
    rw [Nat.add_mod, Nat.mul_mod_mod, ← Nat.add_mod, ← Nat.mul_add, show rdN 1 (u / h * q) m + p + u / h * q = rdN 1 (u / h * q) m + u / h * q + p by omega, Nat.mul_add, Nat.add_mod, Nat.mul_mod x (rdN 1 (u / h * q) m + u / h * q), rdN_1 hm, Nat.mul_zero, Nat.zero_mod, Nat.zero_add, Nat.mod_mod]
  rw [e1, e2, h1]
theorem lnw_mod_le {a m : Nat} (h : 0 < m) {k : Nat} (hk : lnw 28 m ≤ k) : lnw 28 (a % m) ≤ k := Nat.le_trans (lnw_mono8 (Nat.le_of_lt (Nat.mod_lt a h))) hk
theorem one_of_cmp {a : Nat} (h : cmpN a 1 = 0) : a = 1 := by
  unfold cmpN at h
  split at h
  · omega
  · split at h
    · assumption
    · omega
set_option maxRecDepth 100000 in
set_option maxHeartbeats 4000000 in
theorem c_M_reduce {l : Launch} (hfl : l.flags = flags0) {D : va_G} {g : Nat → ClassId} {ad : Nat → Nat} {N : Nat} {F : Nat → va_E} {hh ll f : Nat → Int} {v : UInt64} {V : Nat → Nat} {br : Nat → Nat} {x a m : Nat} {b : Int}
    (hN : 109 ≤ N) (hO : F 98 = oM ad f v) (hB : F 99 = aB g hh) (hL : F 100 = aL g ll) (hR : reg br hh ll V) (hzz : okB br) (hx33 : x < 24) (hx30 : x ≠ 30) (brx : br x = 0) (hx : V x = a) (hz : V 30 = m) (hb : b = 0 ∨ b = 1) (hm0 : 0 < m) (hl : lnw 28 a ≤ 25 ∧ lnw 28 m ≤ 25) :
    JC l y_M_reduce b_M_reduce 3 (Option.none : Option Jvm.ClassFile.FieldType) rm_M_reduce (0, 0) D jCl (jTys g) ad N F [.ref (ad 98), .int (iI (x : Int)), .int (iI b)] (jv ad N (fun F' => ∃ (hh' ll' : Nat → Int) (j : Nat), reg br hh' ll' (va_up (va_up (va_up (va_up V 26 j) 25 (a % m)) 24 (a / m)) x (rdN b a m)) ∧ F' = va_up (va_up F 99 (aB g hh')) 100 (aL g ll'))) := by
  refine JC.go hfl (own := "NumberTowerModel") (lv := [(0, .ref (ad 98)), (1, .int (iI (x : Int))), (2, .int (iI b))]) rfl (by decide +kernel) (Nat.le_of_ble_eq_true rfl) rfl (fun A => ?_)
  refine J_aload_n 0 d_M_reduce_0 rfl rfl ?_
  refine J_iload_n 1 d_M_reduce_1 rfl rfl ?_
  refine J_bipush d_M_reduce_2 (i8_ok (by decide)) ?_
  refine J_callVv cw_M_79 nh_M_divide pn_M_divide rfl rfl (by omega) hO (As := [.int (iI (x : Int)), .int (iI 30)]) (rest := []) rfl (Nat.le_of_ble_eq_true rfl) ⟨by decide, by decide⟩ rfl ⟨by decide, by decide⟩ d_M_reduce_4 (k_M_divide hfl (a := x) (b := 30) (hh := hh) (ll := ll) (V := V) (br := br) (hN := hN) (hO := hO) (hB := hB) (hL := hL) (hR := hR) (ha := by omega) (hb := by omega) (hxa := hx) (bra := brx) (hxb := hz) (brb := (hzz.2 30 (by decide) (by decide))) (hzz := hzz) (ha2 := by omega) (hb2 := by omega) (hb0 := by omega) (hla2 := hl.1) (hlb2 := hl.2)) (fun  F1 hq => ?_)
  obtain ⟨bh1, bl2, j6, hR3, eF1⟩ := hq
  refine J_eqF (F2 := va_up (va_up F 99 (.inl (g 0, 858, .inl (aI bh1)))) 100 (.inl (g 0, 33, .inl (aI bl2)))) eF1 ?_
  refine J_aload_n 0 d_M_reduce_7 rfl rfl ?_
  refine J_bipush d_M_reduce_8 (i8_ok (by decide)) ?_
  refine J_iload_n 1 d_M_reduce_10 rfl rfl ?_
  refine J_callVv cw_M_58 nh_M_copy pn_M_copy rfl rfl (by omega) (by rw [va_up_ne _ _ (by decide), va_up_ne _ _ (by decide)]; exact hO) (As := [.int (iI 25), .int (iI (x : Int))]) (rest := []) rfl (Nat.le_of_ble_eq_true rfl) ⟨by decide, by decide⟩ rfl ⟨by decide, by decide⟩ d_M_reduce_11 (k_M_copy hfl (a := 25) (b := x) (hh := bh1) (ll := bl2) (V := va_up (va_up (va_up V 26 j6) 25 (a % m)) 24 (a / m)) (br := br) (hN := hN) (hO := (by rw [va_up_ne _ _ (by decide), va_up_ne _ _ (by decide)]; exact hO)) (hB := (by rw [va_up_ne _ _ (by decide), va_up_self])) (hL := (by rw [va_up_self])) (hR := hR3) (ha := by omega) (hb := by omega) (hxa := ((va_up_ne _ _ (by decide)).trans (va_up_self ..))) (bra := (hzz.2 25 (by decide) (by decide)))) (fun  F2 hq => ?_)
  obtain ⟨bh7, bl8, hR9, eF2⟩ := hq
  refine J_eqF (F2 := va_up (va_up F 99 (.inl (g 0, 858, .inl (aI bh7)))) 100 (.inl (g 0, 33, .inl (aI bl8)))) (eF2.trans (Eq.trans (congrArg (fun q : Nat → va_E => va_up q 100 (.inl (g 0, 33, .inl (aI bl8)))) (up_in1 (by decide))) (up_in0))) ?_
  have hR12 := reg_w1 (hzz.1 _) hR9
  refine J_iload_n 2 d_M_reduce_14 rfl rfl ?_
  refine J_ifeq (tgt := 34) d_M_reduce_15 (by decide) ⟨by omega, by omega⟩ (fun c15 => ?_) (fun c15 => ?_)
  · have hR13 := (congrArg (fun qq : Nat => reg _ _ _ (va_up (va_up (va_up (va_up V 26 j6) 25 (a % m)) 24 (a / m)) x qq)) (show (a % m) = (rdN b a m) from (by unfold rdN; first | rw [if_pos ⟨by omega, by omega⟩] | rw [if_neg (fun w => by omega)]))).mp hR12
    refine J_vret rfl d_M_reduce_34 ⟨by decide, by decide⟩ ?_
    exact ⟨rfl, rfl, rfl, _, _, _, hR13, rfl⟩
  · refine J_aload_n 0 d_M_reduce_18 rfl rfl ?_
    refine J_iload_n 1 d_M_reduce_19 rfl rfl ?_
    refine J_callVi cw_M_75 nh_M_zero pn_M_zero rfl rfl (by omega) (by rw [va_up_ne _ _ (by decide), va_up_ne _ _ (by decide)]; exact hO) (As := [.int (iI (x : Int))]) (rest := []) rfl (Nat.le_of_ble_eq_true rfl) ⟨by decide, by decide⟩ rfl ⟨by decide, by decide⟩ d_M_reduce_20 (k_M_zero hfl (a := x) (hh := bh7) (ll := bl8) (V := va_up (va_up (va_up (va_up V 26 j6) 25 (a % m)) 24 (a / m)) x (a % m)) (br := br) (hN := hN) (hO := (by rw [va_up_ne _ _ (by decide), va_up_ne _ _ (by decide)]; exact hO)) (hB := (by rw [va_up_ne _ _ (by decide), va_up_self])) (hL := (by rw [va_up_self])) (hR := hR12) (ha := by omega) (hxa := (va_up_self ..)) (bra := brx)) (fun z14 F3 hq => ?_)
    obtain ⟨hz14, eF3⟩ := hq
    refine J_eqF eF3 ?_
    refine J_ifne (tgt := 34) d_M_reduce_23 (by decide) ⟨by omega, by omega⟩ (fun c23 => ?_) (fun c23 => ?_)
    · have hR15 := (congrArg (fun qq : Nat => reg _ _ _ (va_up (va_up (va_up (va_up V 26 j6) 25 (a % m)) 24 (a / m)) x qq)) (show (a % m) = (rdN b a m) from (by unfold rdN; first | rw [if_pos ⟨by omega, by omega⟩] | rw [if_neg (fun w => by omega)]))).mp hR12
      refine J_vret rfl d_M_reduce_34 ⟨by decide, by decide⟩ ?_
      exact ⟨rfl, rfl, rfl, _, _, _, hR15, rfl⟩
    · refine J_aload_n 0 d_M_reduce_26 rfl rfl ?_
      refine J_bipush d_M_reduce_27 (i8_ok (by decide)) ?_
      refine J_iload_n 1 d_M_reduce_29 rfl rfl ?_
      refine J_iload_n 1 d_M_reduce_30 rfl rfl ?_
      refine J_callVv cw_M_158 nh_M_less pn_M_less rfl rfl (by omega) (by rw [va_up_ne _ _ (by decide), va_up_ne _ _ (by decide)]; exact hO) (As := [.int (iI 30), .int (iI (x : Int)), .int (iI (x : Int))]) (rest := []) rfl (Nat.le_of_ble_eq_true rfl) ⟨by decide, by decide⟩ rfl ⟨by decide, by decide⟩ d_M_reduce_31 (k_M_less hfl (a := 30) (b := x) (t := x) (r := (m - a % m)) (hh := bh7) (ll := bl8) (V := va_up (va_up (va_up (va_up V 26 j6) 25 (a % m)) 24 (a / m)) x (a % m)) (br := br) (hN := hN) (hO := (by rw [va_up_ne _ _ (by decide), va_up_ne _ _ (by decide)]; exact hO)) (hB := (by rw [va_up_ne _ _ (by decide), va_up_self])) (hL := (by rw [va_up_self])) (hR := hR12) (ha := by omega) (hb := by omega) (ht := by omega) (hxa := ((va_up_ne _ _ (by omega)).trans ((va_up_ne _ _ (by decide)).trans ((va_up_ne _ _ (by decide)).trans ((va_up_ne _ _ (by decide)).trans hz))))) (bra := (hzz.2 30 (by decide) (by decide))) (hxb := (va_up_self ..)) (brb := brx) (hr := by have := Nat.mod_lt a hm0; omega)) (fun  F4 hq => ?_)
      obtain ⟨bh16, bl17, hR18, eF4⟩ := hq
      refine J_eqF (F2 := va_up (va_up F 99 (.inl (g 0, 858, .inl (aI bh16)))) 100 (.inl (g 0, 33, .inl (aI bl17)))) (eF4.trans (Eq.trans (congrArg (fun q : Nat → va_E => va_up q 100 (.inl (g 0, 33, .inl (aI bl17)))) (up_in1 (by decide))) (up_in0))) ?_
      have hR21 := reg_w1 (hzz.1 _) hR18
      have hR22 := (congrArg (fun qq : Nat → Nat => reg _ _ _ (qq)) (up_in0)).mp hR21
      have hR23 := (congrArg (fun qq : Nat => reg _ _ _ (va_up (va_up (va_up (va_up V 26 j6) 25 (a % m)) 24 (a / m)) x qq)) (show ((m - a % m)) = (rdN b a m) from (by unfold rdN; first | rw [if_pos ⟨by omega, by omega⟩] | rw [if_neg (fun w => by omega)]))).mp hR22
      refine J_vret rfl d_M_reduce_34 ⟨by decide, by decide⟩ ?_
      exact ⟨rfl, rfl, rfl, _, _, _, hR23, rfl⟩
set_option maxRecDepth 100000 in
set_option maxHeartbeats 4000000 in
theorem c_M_inverted {l : Launch} (hfl : l.flags = flags0) {D : va_G} {g : Nat → ClassId} {ad : Nat → Nat} {N : Nat} {F : Nat → va_E} {hh ll f : Nat → Int} {v : UInt64} {V : Nat → Nat} {br : Nat → Nat} {x m : Nat}
    (hN : 109 ≤ N) (hO : F 98 = oM ad f v) (hB : F 99 = aB g hh) (hL : F 100 = aL g ll) (hR : reg br hh ll V) (hzz : okB br) (hx : V 16 = x) (hz : V 30 = m) (hxm : x < m) (hmb : m < 2 ^ 140) :
    JC l y_M_inverted b_M_inverted 1 (Option.some Jvm.ClassFile.FieldType.boolean) rm_M_inverted (0, 0) D jCl (jTys g) ad N F [.ref (ad 98)] (ji ad N (fun z F' => ∃ (hh' ll' : Nat → Int) (W : Nat → Nat), reg br hh' ll' W ∧ (∀ k, k < 16 → W k = V k) ∧ W 30 = m ∧ ((z = 1 ∧ Nat.gcd x m = 1 ∧ W 16 < m ∧ x * W 16 % m = 1 % m) ∨ (z = 0 ∧ Nat.gcd x m ≠ 1)) ∧ F' = va_up (va_up F 99 (aB g hh')) 100 (aL g ll'))) := by
  have hm0 : 0 < m := by omega
  have hlm : lnw 28 m ≤ 5 := (lnw_le (by decide)).mpr hmb
  have hlx : lnw 28 x ≤ 5 := Nat.le_trans (lnw_mono8 (Nat.le_of_lt hxm)) hlm
  have hl1 : lnw 28 1 ≤ 5 := by decide
  refine JC.go hfl (own := "NumberTowerModel") (lv := [(0, .ref (ad 98))]) rfl (by decide +kernel) (Nat.le_of_ble_eq_true rfl) rfl (fun A => ?_)
  refine J_aload_n 0 d_M_inverted_0 rfl rfl ?_
  refine J_bipush d_M_inverted_1 (i8_ok (by decide)) ?_
  refine J_bipush d_M_inverted_3 (i8_ok (by decide)) ?_
  refine J_callVv cw_M_58 nh_M_copy pn_M_copy rfl rfl (by omega) hO (As := [.int (iI 30), .int (iI 31)]) (rest := []) rfl (Nat.le_of_ble_eq_true rfl) ⟨by decide, by decide⟩ rfl ⟨by decide, by decide⟩ d_M_inverted_5 (k_M_copy hfl (a := 30) (b := 31) (hh := hh) (ll := ll) (V := V) (br := br) (hN := hN) (hO := hO) (hB := hB) (hL := hL) (hR := hR) (ha := by omega) (hb := by omega) (hxa := hz) (bra := (hzz.2 30 (by decide) (by decide)))) (fun  F1 hq => ?_)
  obtain ⟨bh24, bl25, hR26, eF1⟩ := hq
  refine J_eqF (F2 := va_up (va_up F 99 (.inl (g 0, 858, .inl (aI bh24)))) 100 (.inl (g 0, 33, .inl (aI bl25)))) eF1 ?_
  have hR29 := reg_w1 (hzz.1 _) hR26
  refine J_aload_n 0 d_M_inverted_8 rfl rfl ?_
  refine J_bipush d_M_inverted_9 (i8_ok (by decide)) ?_
  refine J_bipush d_M_inverted_11 (i8_ok (by decide)) ?_
  refine J_callVv cw_M_58 nh_M_copy pn_M_copy rfl rfl (by omega) (by rw [va_up_ne _ _ (by decide), va_up_ne _ _ (by decide)]; exact hO) (As := [.int (iI 16), .int (iI 28)]) (rest := []) rfl (Nat.le_of_ble_eq_true rfl) ⟨by decide, by decide⟩ rfl ⟨by decide, by decide⟩ d_M_inverted_13 (k_M_copy hfl (a := 16) (b := 28) (hh := bh24) (ll := bl25) (V := va_up V 31 m) (br := br) (hN := hN) (hO := (by rw [va_up_ne _ _ (by decide), va_up_ne _ _ (by decide)]; exact hO)) (hB := (by rw [va_up_ne _ _ (by decide), va_up_self])) (hL := (by rw [va_up_self])) (hR := hR29) (ha := by omega) (hb := by omega) (hxa := ((va_up_ne _ _ (by decide)).trans hx)) (bra := (hzz.2 16 (by decide) (by decide)))) (fun  F2 hq => ?_)
  obtain ⟨bh30, bl31, hR32, eF2⟩ := hq
  refine J_eqF (F2 := va_up (va_up F 99 (.inl (g 0, 858, .inl (aI bh30)))) 100 (.inl (g 0, 33, .inl (aI bl31)))) (eF2.trans (Eq.trans (congrArg (fun q : Nat → va_E => va_up q 100 (.inl (g 0, 33, .inl (aI bl31)))) (up_in1 (by decide))) (up_in0))) ?_
  have hR35 := reg_w1 (hzz.1 _) hR32
  refine J_aload_n 0 d_M_inverted_16 rfl rfl ?_
  refine gf_M_13 (by omega) (by rw [va_up_ne _ _ (by decide), va_up_ne _ _ (by decide)]; exact hO) rfl d_M_inverted_17 ?_
  refine J_bipush d_M_inverted_20 (i8_ok (by decide)) ?_
  refine J_iconst d_M_inverted_22 ?_
  refine J_iastore 0 rfl (by omega) (by rw [va_up_self]) (by omega) d_M_inverted_23 ?_
  refine J_eqF (F2 := va_up (va_up (va_up F 99 (.inl (g 0, 858, .inl (aI bh30)))) 100 (.inl (g 0, 33, .inl (aI bl31)))) 100 (.inl (g 0, 33, .inl (aI (va_up bl31 18 0))))) (congrArg (fun q => va_up (va_up (va_up F 99 (.inl (g 0, 858, .inl (aI bh30)))) 100 (.inl (g 0, 33, .inl (aI bl31)))) 100 (.inl (g 0, 33, .inl (aI (va_up bl31 q 0))))) (by omega : (18 : Int).toNat = 18)) ?_
  refine J_eqF (F2 := va_up (va_up F 99 (.inl (g 0, 858, .inl (aI bh30)))) 100 (.inl (g 0, 33, .inl (aI (va_up bl31 18 0))))) (up_in0) ?_
  have hR36 := reg_w1 (hzz.1 _) (reg_zero hR35 18)
  refine J_aload_n 0 d_M_inverted_24 rfl rfl ?_
  refine J_bipush d_M_inverted_25 (i8_ok (by decide)) ?_
  refine J_lconst (v := 1) d_M_inverted_27 rfl ?_
  refine J_callVv cw_M_82 nh_M_put pn_M_put rfl rfl (by omega) (by rw [va_up_ne _ _ (by decide), va_up_ne _ _ (by decide)]; exact hO) (As := [.int (iI 19), .long (lI 1)]) (rest := []) rfl (Nat.le_of_ble_eq_true rfl) ⟨by decide, by decide⟩ rfl ⟨by decide, by decide⟩ d_M_inverted_28 (k_M_put hfl (a := 19) (n := 1) (hh := bh30) (ll := va_up bl31 18 0) (V := va_up (va_up (va_up V 31 m) 28 x) 18 0) (br := br) (hN := hN) (hO := (by rw [va_up_ne _ _ (by decide), va_up_ne _ _ (by decide)]; exact hO)) (hB := (by rw [va_up_ne _ _ (by decide), va_up_self])) (hL := (by rw [va_up_self])) (hR := hR36) (ha := by omega) (hn := by decide)) (fun  F3 hq => ?_)
  obtain ⟨bh37, bl38, hR39, eF3⟩ := hq
  refine J_eqF (F2 := va_up (va_up F 99 (.inl (g 0, 858, .inl (aI bh37)))) 100 (.inl (g 0, 33, .inl (aI bl38)))) (eF3.trans (Eq.trans (congrArg (fun q : Nat → va_E => va_up q 100 (.inl (g 0, 33, .inl (aI bl38)))) (up_in1 (by decide))) (up_in0))) ?_
  have hR42 := reg_w1 (hzz.1 _) hR39
  refine J_aload_n 0 d_M_inverted_31 rfl rfl ?_
  refine J_bipush d_M_inverted_32 (i8_ok (by decide)) ?_
  refine J_iconst d_M_inverted_34 ?_
  refine J_callVv cw_M_214 nh_M_reduce pn_M_reduce rfl rfl (by omega) (by rw [va_up_ne _ _ (by decide), va_up_ne _ _ (by decide)]; exact hO) (As := [.int (iI 19), .int (iI 0)]) (rest := []) rfl (Nat.le_of_ble_eq_true rfl) ⟨by decide, by decide⟩ rfl ⟨by decide, by decide⟩ d_M_inverted_35 (c_M_reduce hfl (x := 19) (a := 1) (m := m) (b := 0) (hh := bh37) (ll := bl38) (f := f) (v := v) (V := va_up (va_up (va_up (va_up V 31 m) 28 x) 18 0) 19 1) (br := br) hN (by rw [va_up_ne _ _ (by decide), va_up_ne _ _ (by decide)]; exact hO) (by rw [va_up_ne _ _ (by decide), va_up_self]) (by rw [va_up_self]) hR42 hzz (by omega) (by omega) (hzz.2 19 (by decide) (by decide)) ((va_up_self ..)) (((va_up_ne _ _ (by decide)).trans ((va_up_ne _ _ (by decide)).trans ((va_up_ne _ _ (by decide)).trans ((va_up_ne _ _ (by decide)).trans hz))))) (by decide) hm0 ⟨by omega, by omega⟩) (fun  F4 hq => ?_)
  obtain ⟨bh43, bl44, j46, hR45, eF4⟩ := hq
  refine J_eqF (F2 := va_up (va_up F 99 (.inl (g 0, 858, .inl (aI bh43)))) 100 (.inl (g 0, 33, .inl (aI bl44)))) (eF4.trans (Eq.trans (congrArg (fun q : Nat → va_E => va_up q 100 (.inl (g 0, 33, .inl (aI bl44)))) (up_in1 (by decide))) (up_in0))) ?_
  have hR47 := (congrArg (fun qq : Nat → Nat => reg _ _ _ (qq)) (up_in3 (by decide) (by decide) (by decide))).mp hR45
  have loop38 : ∀ (fuel : Nat) (e1 : Nat → Int) (e2 : Nat → Int) (u : Nat) (h : Nat) (p : Nat) (q : Nat) (j1 : Nat) (j2 : Nat) (j3 : Nat) (j4 : Nat) (hg : Nat.gcd u h = Nat.gcd x m) (hpq : p < m ∧ q < m) (hu : u % m = x * p % m) (hh2 : h % m = x * q % m) (huh : u ≤ m ∧ h < m) (hRL38 : reg br e1 e2 (va_up (va_up (va_up (va_up (va_up (va_up (va_up (va_up V 31 u) 28 h) 18 p) 19 q) 26 j1) 25 j2) 24 j3) 22 j4)) (hfu : h < fuel), J l rm_M_inverted (0, 0) "NumberTowerModel" b_M_inverted 1 (Option.some Jvm.ClassFile.FieldType.boolean) D jCl (jTys g) A (fun _ me => me.name = y_M_inverted.name) (ji ad N (fun z F' => ∃ (hh' ll' : Nat → Int) (W : Nat → Nat), reg br hh' ll' W ∧ (∀ k, k < 16 → W k = V k) ∧ W 30 = m ∧ ((z = 1 ∧ Nat.gcd x m = 1 ∧ W 16 < m ∧ x * W 16 % m = 1 % m) ∨ (z = 0 ∧ Nat.gcd x m ≠ 1)) ∧ F' = va_up (va_up F 99 (aB g hh')) 100 (aL g ll'))) ad N 0 0 38 [(0, .ref (ad 98))] [] (va_up (va_up F 99 (.inl (g 0, 858, .inl (aI e1)))) 100 (.inl (g 0, 33, .inl (aI e2)))) := by
    intro fuel
    induction fuel with
    | zero => intro e1 e2 u h p q j1 j2 j3 j4 hg hpq hu hh2 huh hRL38 hfu; exact absurd hfu (Nat.not_lt_zero _)
    | succ fuel ih =>
      intro e1 e2 u h p q j1 j2 j3 j4 hg hpq hu hh2 huh hRL38 hfu
      have hlu : lnw 28 u ≤ 5 := Nat.le_trans (lnw_mono8 huh.1) hlm
      have hlh : lnw 28 h ≤ 5 := Nat.le_trans (lnw_mono8 (Nat.le_of_lt huh.2)) hlm
      have hlp : lnw 28 p ≤ 5 := Nat.le_trans (lnw_mono8 (Nat.le_of_lt hpq.1)) hlm
      have hlq : lnw 28 q ≤ 5 := Nat.le_trans (lnw_mono8 (Nat.le_of_lt hpq.2)) hlm
      refine J_aload_n 0 d_M_inverted_38 rfl rfl ?_
      refine J_bipush d_M_inverted_39 (i8_ok (by decide)) ?_
      refine J_callVi cw_M_75 nh_M_zero pn_M_zero rfl rfl (by omega) (by rw [va_up_ne _ _ (by decide), va_up_ne _ _ (by decide)]; exact hO) (As := [.int (iI 28)]) (rest := []) rfl (Nat.le_of_ble_eq_true rfl) ⟨by decide, by decide⟩ rfl ⟨by decide, by decide⟩ d_M_inverted_41 (k_M_zero hfl (a := 28) (hh := e1) (ll := e2) (V := va_up (va_up (va_up (va_up (va_up (va_up (va_up (va_up V 31 u) 28 h) 18 p) 19 q) 26 j1) 25 j2) 24 j3) 22 j4) (br := br) (hN := hN) (hO := (by rw [va_up_ne _ _ (by decide), va_up_ne _ _ (by decide)]; exact hO)) (hB := (by rw [va_up_ne _ _ (by decide), va_up_self])) (hL := (by rw [va_up_self])) (hR := hRL38) (ha := by omega) (hxa := ((va_up_ne _ _ (by decide)).trans ((va_up_ne _ _ (by decide)).trans ((va_up_ne _ _ (by decide)).trans ((va_up_ne _ _ (by decide)).trans ((va_up_ne _ _ (by decide)).trans ((va_up_ne _ _ (by decide)).trans (va_up_self ..)))))))) (bra := (hzz.2 28 (by decide) (by decide)))) (fun z48 F5 hq => ?_)
      obtain ⟨hz48, eF5⟩ := hq
      refine J_eqF eF5 ?_
      refine J_ifne (tgt := 124) d_M_inverted_44 (by decide) ⟨by omega, by omega⟩ (fun c44 => ?_) (fun c44 => ?_)
      · refine J_aload_n 0 d_M_inverted_124 rfl rfl ?_
        refine J_bipush d_M_inverted_125 (i8_ok (by decide)) ?_
        refine J_bipush d_M_inverted_127 (i8_ok (by decide)) ?_
        refine J_callVv cw_M_58 nh_M_copy pn_M_copy rfl rfl (by omega) (by rw [va_up_ne _ _ (by decide), va_up_ne _ _ (by decide)]; exact hO) (As := [.int (iI 18), .int (iI 16)]) (rest := []) rfl (Nat.le_of_ble_eq_true rfl) ⟨by decide, by decide⟩ rfl ⟨by decide, by decide⟩ d_M_inverted_129 (k_M_copy hfl (a := 18) (b := 16) (hh := e1) (ll := e2) (V := va_up (va_up (va_up (va_up (va_up (va_up (va_up (va_up V 31 u) 28 h) 18 p) 19 q) 26 j1) 25 j2) 24 j3) 22 j4) (br := br) (hN := hN) (hO := (by rw [va_up_ne _ _ (by decide), va_up_ne _ _ (by decide)]; exact hO)) (hB := (by rw [va_up_ne _ _ (by decide), va_up_self])) (hL := (by rw [va_up_self])) (hR := hRL38) (ha := by omega) (hb := by omega) (hxa := ((va_up_ne _ _ (by decide)).trans ((va_up_ne _ _ (by decide)).trans ((va_up_ne _ _ (by decide)).trans ((va_up_ne _ _ (by decide)).trans ((va_up_ne _ _ (by decide)).trans (va_up_self ..))))))) (bra := (hzz.2 18 (by decide) (by decide)))) (fun  F6 hq => ?_)
        obtain ⟨bh49, bl50, hR51, eF6⟩ := hq
        refine J_eqF (F2 := va_up (va_up F 99 (.inl (g 0, 858, .inl (aI bh49)))) 100 (.inl (g 0, 33, .inl (aI bl50)))) (eF6.trans (Eq.trans (congrArg (fun q : Nat → va_E => va_up q 100 (.inl (g 0, 33, .inl (aI bl50)))) (up_in1 (by decide))) (up_in0))) ?_
        have hR54 := reg_w1 (hzz.1 _) hR51
        refine J_aload_n 0 d_M_inverted_132 rfl rfl ?_
        refine J_bipush d_M_inverted_133 (i8_ok (by decide)) ?_
        refine J_lconst (v := 1) d_M_inverted_135 rfl ?_
        refine J_callVv cw_M_82 nh_M_put pn_M_put rfl rfl (by omega) (by rw [va_up_ne _ _ (by decide), va_up_ne _ _ (by decide)]; exact hO) (As := [.int (iI 32), .long (lI 1)]) (rest := []) rfl (Nat.le_of_ble_eq_true rfl) ⟨by decide, by decide⟩ rfl ⟨by decide, by decide⟩ d_M_inverted_136 (k_M_put hfl (a := 32) (n := 1) (hh := bh49) (ll := bl50) (V := va_up (va_up (va_up (va_up (va_up (va_up (va_up (va_up (va_up V 31 u) 28 h) 18 p) 19 q) 26 j1) 25 j2) 24 j3) 22 j4) 16 p) (br := br) (hN := hN) (hO := (by rw [va_up_ne _ _ (by decide), va_up_ne _ _ (by decide)]; exact hO)) (hB := (by rw [va_up_ne _ _ (by decide), va_up_self])) (hL := (by rw [va_up_self])) (hR := hR54) (ha := by omega) (hn := by decide)) (fun  F7 hq => ?_)
        obtain ⟨bh55, bl56, hR57, eF7⟩ := hq
        refine J_eqF (F2 := va_up (va_up F 99 (.inl (g 0, 858, .inl (aI bh55)))) 100 (.inl (g 0, 33, .inl (aI bl56)))) (eF7.trans (Eq.trans (congrArg (fun q : Nat → va_E => va_up q 100 (.inl (g 0, 33, .inl (aI bl56)))) (up_in1 (by decide))) (up_in0))) ?_
        have hR60 := reg_w1 (hzz.1 _) hR57
        refine J_aload_n 0 d_M_inverted_139 rfl rfl ?_
        refine J_bipush d_M_inverted_140 (i8_ok (by decide)) ?_
        refine J_bipush d_M_inverted_142 (i8_ok (by decide)) ?_
        refine J_callVi cw_M_105 nh_M_order pn_M_order rfl rfl (by omega) (by rw [va_up_ne _ _ (by decide), va_up_ne _ _ (by decide)]; exact hO) (As := [.int (iI 31), .int (iI 32)]) (rest := []) rfl (Nat.le_of_ble_eq_true rfl) ⟨by decide, by decide⟩ rfl ⟨by decide, by decide⟩ d_M_inverted_144 (k_M_order hfl (a := 31) (b := 32) (hh := bh55) (ll := bl56) (V := va_up (va_up (va_up (va_up (va_up (va_up (va_up (va_up (va_up (va_up V 31 u) 28 h) 18 p) 19 q) 26 j1) 25 j2) 24 j3) 22 j4) 16 p) 32 1) (br := br) (hN := hN) (hO := (by rw [va_up_ne _ _ (by decide), va_up_ne _ _ (by decide)]; exact hO)) (hB := (by rw [va_up_ne _ _ (by decide), va_up_self])) (hL := (by rw [va_up_self])) (hR := hR60) (ha := by omega) (hb := by omega) (hxa := ((va_up_ne _ _ (by decide)).trans ((va_up_ne _ _ (by decide)).trans ((va_up_ne _ _ (by decide)).trans ((va_up_ne _ _ (by decide)).trans ((va_up_ne _ _ (by decide)).trans ((va_up_ne _ _ (by decide)).trans ((va_up_ne _ _ (by decide)).trans ((va_up_ne _ _ (by decide)).trans ((va_up_ne _ _ (by decide)).trans (va_up_self ..))))))))))) (bra := (hzz.2 31 (by decide) (by decide))) (hxb := (va_up_self ..)) (brb := (hzz.2 32 (by decide) (by decide)))) (fun z61 F8 hq => ?_)
        obtain ⟨hz61, eF8⟩ := hq
        refine J_eqF eF8 ?_
        refine J_topi (r := cmpN u 1) (congrArg iI hz61) ?_
        have hcr := cmpN_rng u 1
        refine J_ifne (tgt := 154) d_M_inverted_147 (by decide) ⟨by omega, by omega⟩ (fun c147 => ?_) (fun c147 => ?_)
        · refine J_iconst d_M_inverted_154 ?_
          refine J_iret rfl (nb01 (by omega)).1 d_M_inverted_155 ⟨by decide, by decide⟩ ?_
          have hh0 : h = 0 := by omega
          have hgu : u = Nat.gcd x m := by rw [← hg, hh0, Nat.gcd_zero_right]
          have hcm := cmpN_val u 1
          refine ⟨_, rfl, rfl, rfl, _, _, _, hR60, fun k hk => (show (va_up (va_up (va_up (va_up (va_up (va_up (va_up (va_up (va_up (va_up V 31 u) 28 h) 18 p) 19 q) 26 j1) 25 j2) 24 j3) 22 j4) 16 p) 32 1) k = V k from by rw [va_up_ne _ _ (by omega), va_up_ne _ _ (by omega), va_up_ne _ _ (by omega), va_up_ne _ _ (by omega), va_up_ne _ _ (by omega), va_up_ne _ _ (by omega), va_up_ne _ _ (by omega), va_up_ne _ _ (by omega), va_up_ne _ _ (by omega), va_up_ne _ _ (by omega)]), ((va_up_ne _ _ (by decide)).trans ((va_up_ne _ _ (by decide)).trans ((va_up_ne _ _ (by decide)).trans ((va_up_ne _ _ (by decide)).trans ((va_up_ne _ _ (by decide)).trans ((va_up_ne _ _ (by decide)).trans ((va_up_ne _ _ (by decide)).trans ((va_up_ne _ _ (by decide)).trans ((va_up_ne _ _ (by decide)).trans ((va_up_ne _ _ (by decide)).trans hz)))))))))), Or.inr ⟨rfl, fun e => absurd (hcm.2.1 (hgu.trans e)) (by omega)⟩, rfl⟩
        · refine J_iconst d_M_inverted_150 ?_
          refine J_goto (tgt := 155) d_M_inverted_151 (by decide) ?_
          refine J_iret rfl (nb01 (by omega)).1 d_M_inverted_155 ⟨by decide, by decide⟩ ?_
          have hh0 : h = 0 := by omega
          have hgu : u = Nat.gcd x m := by rw [← hg, hh0, Nat.gcd_zero_right]
          have hcm := cmpN_val u 1
          refine ⟨_, rfl, rfl, rfl, _, _, _, hR60, fun k hk => (show (va_up (va_up (va_up (va_up (va_up (va_up (va_up (va_up (va_up (va_up V 31 u) 28 h) 18 p) 19 q) 26 j1) 25 j2) 24 j3) 22 j4) 16 p) 32 1) k = V k from by rw [va_up_ne _ _ (by omega), va_up_ne _ _ (by omega), va_up_ne _ _ (by omega), va_up_ne _ _ (by omega), va_up_ne _ _ (by omega), va_up_ne _ _ (by omega), va_up_ne _ _ (by omega), va_up_ne _ _ (by omega), va_up_ne _ _ (by omega), va_up_ne _ _ (by omega)]), ((va_up_ne _ _ (by decide)).trans ((va_up_ne _ _ (by decide)).trans ((va_up_ne _ _ (by decide)).trans ((va_up_ne _ _ (by decide)).trans ((va_up_ne _ _ (by decide)).trans ((va_up_ne _ _ (by decide)).trans ((va_up_ne _ _ (by decide)).trans ((va_up_ne _ _ (by decide)).trans ((va_up_ne _ _ (by decide)).trans ((va_up_ne _ _ (by decide)).trans hz)))))))))), Or.inl ⟨rfl, by rw [← hgu]; exact one_of_cmp (by omega), by rw [((va_up_ne _ _ (by decide)).trans (va_up_self ..))]; exact hpq.1, by rw [((va_up_ne _ _ (by decide)).trans (va_up_self ..)), ← hu, one_of_cmp (a := u) (by omega)]⟩, rfl⟩
      · refine J_aload_n 0 d_M_inverted_47 rfl rfl ?_
        refine J_bipush d_M_inverted_48 (i8_ok (by decide)) ?_
        refine J_bipush d_M_inverted_50 (i8_ok (by decide)) ?_
        refine J_callVv cw_M_79 nh_M_divide pn_M_divide rfl rfl (by omega) (by rw [va_up_ne _ _ (by decide), va_up_ne _ _ (by decide)]; exact hO) (As := [.int (iI 31), .int (iI 28)]) (rest := []) rfl (Nat.le_of_ble_eq_true rfl) ⟨by decide, by decide⟩ rfl ⟨by decide, by decide⟩ d_M_inverted_52 (k_M_divide hfl (a := 31) (b := 28) (hh := e1) (ll := e2) (V := va_up (va_up (va_up (va_up (va_up (va_up (va_up (va_up V 31 u) 28 h) 18 p) 19 q) 26 j1) 25 j2) 24 j3) 22 j4) (br := br) (hN := hN) (hO := (by rw [va_up_ne _ _ (by decide), va_up_ne _ _ (by decide)]; exact hO)) (hB := (by rw [va_up_ne _ _ (by decide), va_up_self])) (hL := (by rw [va_up_self])) (hR := hRL38) (ha := by omega) (hb := by omega) (hxa := ((va_up_ne _ _ (by decide)).trans ((va_up_ne _ _ (by decide)).trans ((va_up_ne _ _ (by decide)).trans ((va_up_ne _ _ (by decide)).trans ((va_up_ne _ _ (by decide)).trans ((va_up_ne _ _ (by decide)).trans ((va_up_ne _ _ (by decide)).trans (va_up_self ..))))))))) (bra := (hzz.2 31 (by decide) (by decide))) (hxb := ((va_up_ne _ _ (by decide)).trans ((va_up_ne _ _ (by decide)).trans ((va_up_ne _ _ (by decide)).trans ((va_up_ne _ _ (by decide)).trans ((va_up_ne _ _ (by decide)).trans ((va_up_ne _ _ (by decide)).trans (va_up_self ..)))))))) (brb := (hzz.2 28 (by decide) (by decide))) (hzz := hzz) (ha2 := by omega) (hb2 := by omega) (hb0 := by omega) (hla2 := by omega) (hlb2 := by omega)) (fun  F9 hq => ?_)
        obtain ⟨bh62, bl63, j67, hR64, eF9⟩ := hq
        refine J_eqF (F2 := va_up (va_up F 99 (.inl (g 0, 858, .inl (aI bh62)))) 100 (.inl (g 0, 33, .inl (aI bl63)))) (eF9.trans (Eq.trans (congrArg (fun q : Nat → va_E => va_up q 100 (.inl (g 0, 33, .inl (aI bl63)))) (up_in1 (by decide))) (up_in0))) ?_
        have hR68 := (congrArg (fun qq : Nat → Nat => reg _ _ _ (va_up (va_up (qq) 25 (u % h)) 24 (u / h))) (up_in3 (by decide) (by decide) (by decide))).mp hR64
        have hR69 := (congrArg (fun qq : Nat → Nat => reg _ _ _ (va_up (qq) 24 (u / h))) (up_in2 (by decide) (by decide))).mp hR68
        have hR70 := (congrArg (fun qq : Nat → Nat => reg _ _ _ (qq)) (up_in1 (by decide))).mp hR69
        refine J_aload_n 0 d_M_inverted_55 rfl rfl ?_
        refine J_bipush d_M_inverted_56 (i8_ok (by decide)) ?_
        refine J_bipush d_M_inverted_58 (i8_ok (by decide)) ?_
        refine J_callVv cw_M_58 nh_M_copy pn_M_copy rfl rfl (by omega) (by rw [va_up_ne _ _ (by decide), va_up_ne _ _ (by decide)]; exact hO) (As := [.int (iI 28), .int (iI 31)]) (rest := []) rfl (Nat.le_of_ble_eq_true rfl) ⟨by decide, by decide⟩ rfl ⟨by decide, by decide⟩ d_M_inverted_60 (k_M_copy hfl (a := 28) (b := 31) (hh := bh62) (ll := bl63) (V := va_up (va_up (va_up (va_up (va_up (va_up (va_up (va_up V 31 u) 28 h) 18 p) 19 q) 26 j67) 25 (u % h)) 24 (u / h)) 22 j4) (br := br) (hN := hN) (hO := (by rw [va_up_ne _ _ (by decide), va_up_ne _ _ (by decide)]; exact hO)) (hB := (by rw [va_up_ne _ _ (by decide), va_up_self])) (hL := (by rw [va_up_self])) (hR := hR70) (ha := by omega) (hb := by omega) (hxa := ((va_up_ne _ _ (by decide)).trans ((va_up_ne _ _ (by decide)).trans ((va_up_ne _ _ (by decide)).trans ((va_up_ne _ _ (by decide)).trans ((va_up_ne _ _ (by decide)).trans ((va_up_ne _ _ (by decide)).trans (va_up_self ..)))))))) (bra := (hzz.2 28 (by decide) (by decide)))) (fun  F10 hq => ?_)
        obtain ⟨bh71, bl72, hR73, eF10⟩ := hq
        refine J_eqF (F2 := va_up (va_up F 99 (.inl (g 0, 858, .inl (aI bh71)))) 100 (.inl (g 0, 33, .inl (aI bl72)))) (eF10.trans (Eq.trans (congrArg (fun q : Nat → va_E => va_up q 100 (.inl (g 0, 33, .inl (aI bl72)))) (up_in1 (by decide))) (up_in0))) ?_
        have hR76 := reg_w1 (hzz.1 _) hR73
        have hR77 := (congrArg (fun qq : Nat → Nat => reg _ _ _ (qq)) (up_in7 (by decide) (by decide) (by decide) (by decide) (by decide) (by decide) (by decide))).mp hR76
        refine J_aload_n 0 d_M_inverted_63 rfl rfl ?_
        refine J_bipush d_M_inverted_64 (i8_ok (by decide)) ?_
        refine J_bipush d_M_inverted_66 (i8_ok (by decide)) ?_
        refine J_callVv cw_M_58 nh_M_copy pn_M_copy rfl rfl (by omega) (by rw [va_up_ne _ _ (by decide), va_up_ne _ _ (by decide)]; exact hO) (As := [.int (iI 25), .int (iI 28)]) (rest := []) rfl (Nat.le_of_ble_eq_true rfl) ⟨by decide, by decide⟩ rfl ⟨by decide, by decide⟩ d_M_inverted_68 (k_M_copy hfl (a := 25) (b := 28) (hh := bh71) (ll := bl72) (V := va_up (va_up (va_up (va_up (va_up (va_up (va_up (va_up V 31 h) 28 h) 18 p) 19 q) 26 j67) 25 (u % h)) 24 (u / h)) 22 j4) (br := br) (hN := hN) (hO := (by rw [va_up_ne _ _ (by decide), va_up_ne _ _ (by decide)]; exact hO)) (hB := (by rw [va_up_ne _ _ (by decide), va_up_self])) (hL := (by rw [va_up_self])) (hR := hR77) (ha := by omega) (hb := by omega) (hxa := ((va_up_ne _ _ (by decide)).trans ((va_up_ne _ _ (by decide)).trans (va_up_self ..)))) (bra := (hzz.2 25 (by decide) (by decide)))) (fun  F11 hq => ?_)
        obtain ⟨bh78, bl79, hR80, eF11⟩ := hq
        refine J_eqF (F2 := va_up (va_up F 99 (.inl (g 0, 858, .inl (aI bh78)))) 100 (.inl (g 0, 33, .inl (aI bl79)))) (eF11.trans (Eq.trans (congrArg (fun q : Nat → va_E => va_up q 100 (.inl (g 0, 33, .inl (aI bl79)))) (up_in1 (by decide))) (up_in0))) ?_
        have hR83 := reg_w1 (hzz.1 _) hR80
        have hR84 := (congrArg (fun qq : Nat → Nat => reg _ _ _ (qq)) (up_in6 (by decide) (by decide) (by decide) (by decide) (by decide) (by decide))).mp hR83
        refine J_aload_n 0 d_M_inverted_71 rfl rfl ?_
        refine J_bipush d_M_inverted_72 (i8_ok (by decide)) ?_
        refine J_bipush d_M_inverted_74 (i8_ok (by decide)) ?_
        refine J_bipush d_M_inverted_76 (i8_ok (by decide)) ?_
        refine J_callVv cw_M_146 nh_M_times pn_M_times rfl rfl (by omega) (by rw [va_up_ne _ _ (by decide), va_up_ne _ _ (by decide)]; exact hO) (As := [.int (iI 24), .int (iI 19), .int (iI 22)]) (rest := []) rfl (Nat.le_of_ble_eq_true rfl) ⟨by decide, by decide⟩ rfl ⟨by decide, by decide⟩ d_M_inverted_78 (k_M_times hfl (a := 24) (b := 19) (t := 22) (hh := bh78) (ll := bl79) (V := va_up (va_up (va_up (va_up (va_up (va_up (va_up (va_up V 31 h) 28 (u % h)) 18 p) 19 q) 26 j67) 25 (u % h)) 24 (u / h)) 22 j4) (br := br) (hN := hN) (hO := (by rw [va_up_ne _ _ (by decide), va_up_ne _ _ (by decide)]; exact hO)) (hB := (by rw [va_up_ne _ _ (by decide), va_up_self])) (hL := (by rw [va_up_self])) (hR := hR84) (ha := by omega) (hb := by omega) (ht := by omega) (hxa := ((va_up_ne _ _ (by decide)).trans (va_up_self ..))) (bra := (hzz.2 24 (by decide) (by decide))) (hxb := ((va_up_ne _ _ (by decide)).trans ((va_up_ne _ _ (by decide)).trans ((va_up_ne _ _ (by decide)).trans ((va_up_ne _ _ (by decide)).trans (va_up_self ..)))))) (brb := (hzz.2 19 (by decide) (by decide))) (hat := by decide) (hbt := by decide) (hs := by have := lnw_div8 u h; omega)) (fun  F12 hq => ?_)
        obtain ⟨bh85, bl86, hR87, eF12⟩ := hq
        refine J_eqF (F2 := va_up (va_up F 99 (.inl (g 0, 858, .inl (aI bh85)))) 100 (.inl (g 0, 33, .inl (aI bl86)))) (eF12.trans (Eq.trans (congrArg (fun q : Nat → va_E => va_up q 100 (.inl (g 0, 33, .inl (aI bl86)))) (up_in1 (by decide))) (up_in0))) ?_
        have hR90 := (congrArg (fun qq : Nat → Nat => reg _ _ _ (qq)) (up_in0)).mp hR87
        refine J_aload_n 0 d_M_inverted_81 rfl rfl ?_
        refine J_bipush d_M_inverted_82 (i8_ok (by decide)) ?_
        refine J_iconst d_M_inverted_84 ?_
        refine J_callVv cw_M_214 nh_M_reduce pn_M_reduce rfl rfl (by omega) (by rw [va_up_ne _ _ (by decide), va_up_ne _ _ (by decide)]; exact hO) (As := [.int (iI 22), .int (iI 1)]) (rest := []) rfl (Nat.le_of_ble_eq_true rfl) ⟨by decide, by decide⟩ rfl ⟨by decide, by decide⟩ d_M_inverted_85 (c_M_reduce hfl (x := 22) (a := ((u / h) * q)) (m := m) (b := 1) (hh := bh85) (ll := bl86) (f := f) (v := v) (V := va_up (va_up (va_up (va_up (va_up (va_up (va_up (va_up V 31 h) 28 (u % h)) 18 p) 19 q) 26 j67) 25 (u % h)) 24 (u / h)) 22 ((u / h) * q)) (br := va_up br 22 0) hN (by rw [va_up_ne _ _ (by decide), va_up_ne _ _ (by decide)]; exact hO) (by rw [va_up_ne _ _ (by decide), va_up_self]) (by rw [va_up_self]) hR90 (hzz_up hzz) (by omega) (by omega) (va_up_self ..) ((va_up_self ..)) (((va_up_ne _ _ (by decide)).trans ((va_up_ne _ _ (by decide)).trans ((va_up_ne _ _ (by decide)).trans ((va_up_ne _ _ (by decide)).trans ((va_up_ne _ _ (by decide)).trans ((va_up_ne _ _ (by decide)).trans ((va_up_ne _ _ (by decide)).trans ((va_up_ne _ _ (by decide)).trans hz))))))))) (by decide) hm0 ⟨Nat.le_trans lnw_mul8 (by have := lnw_div8 u h; omega), by omega⟩) (fun  F13 hq => ?_)
        obtain ⟨bh91, bl92, j94, hR93, eF13⟩ := hq
        refine J_eqF (F2 := va_up (va_up F 99 (.inl (g 0, 858, .inl (aI bh91)))) 100 (.inl (g 0, 33, .inl (aI bl92)))) (eF13.trans (Eq.trans (congrArg (fun q : Nat → va_E => va_up q 100 (.inl (g 0, 33, .inl (aI bl92)))) (up_in1 (by decide))) (up_in0))) ?_
        have hR95 := (congrArg (fun qq : Nat → Nat => reg _ _ _ (va_up (va_up (va_up (qq) 25 (((u / h) * q) % m)) 24 (((u / h) * q) / m)) 22 (rdN 1 ((u / h) * q) m))) (up_in3 (by decide) (by decide) (by decide))).mp hR93
        have hR96 := (congrArg (fun qq : Nat → Nat => reg _ _ _ (va_up (va_up (qq) 24 (((u / h) * q) / m)) 22 (rdN 1 ((u / h) * q) m))) (up_in2 (by decide) (by decide))).mp hR95
        have hR97 := (congrArg (fun qq : Nat → Nat => reg _ _ _ (va_up (qq) 22 (rdN 1 ((u / h) * q) m))) (up_in1 (by decide))).mp hR96
        have hR98 := (congrArg (fun qq : Nat → Nat => reg _ _ _ (qq)) (up_in0)).mp hR97
        refine J_aload_n 0 d_M_inverted_88 rfl rfl ?_
        refine J_bipush d_M_inverted_89 (i8_ok (by decide)) ?_
        refine J_bipush d_M_inverted_91 (i8_ok (by decide)) ?_
        refine J_bipush d_M_inverted_93 (i8_ok (by decide)) ?_
        refine J_callVv cw_M_155 nh_M_add pn_M_add rfl rfl (by omega) (by rw [va_up_ne _ _ (by decide), va_up_ne _ _ (by decide)]; exact hO) (As := [.int (iI 22), .int (iI 18), .int (iI 22)]) (rest := []) rfl (Nat.le_of_ble_eq_true rfl) ⟨by decide, by decide⟩ rfl ⟨by decide, by decide⟩ d_M_inverted_95 (k_M_add hfl (a := 22) (b := 18) (t := 22) (hh := bh91) (ll := bl92) (V := va_up (va_up (va_up (va_up (va_up (va_up (va_up (va_up V 31 h) 28 (u % h)) 18 p) 19 q) 26 j94) 25 (((u / h) * q) % m)) 24 (((u / h) * q) / m)) 22 (rdN 1 ((u / h) * q) m)) (br := va_up br 22 0) (hN := hN) (hO := (by rw [va_up_ne _ _ (by decide), va_up_ne _ _ (by decide)]; exact hO)) (hB := (by rw [va_up_ne _ _ (by decide), va_up_self])) (hL := (by rw [va_up_self])) (hR := hR98) (ha := by omega) (hb := by omega) (ht := by omega) (hxa := (va_up_self ..)) (bra := (va_up_self ..)) (hxb := ((va_up_ne _ _ (by decide)).trans ((va_up_ne _ _ (by decide)).trans ((va_up_ne _ _ (by decide)).trans ((va_up_ne _ _ (by decide)).trans ((va_up_ne _ _ (by decide)).trans (va_up_self ..))))))) (brb := ((va_up_ne _ _ (by decide)).trans (hzz.2 18 (by decide) (by decide)))) (hla2 := Nat.le_trans (lnw_mono8 (Nat.le_of_lt (rdN_lt hm0))) (by omega)) (hlb2 := by omega)) (fun  F14 hq => ?_)
        obtain ⟨bh99, bl100, hR101, eF14⟩ := hq
        refine J_eqF (F2 := va_up (va_up F 99 (.inl (g 0, 858, .inl (aI bh99)))) 100 (.inl (g 0, 33, .inl (aI bl100)))) (eF14.trans (Eq.trans (congrArg (fun q : Nat → va_E => va_up q 100 (.inl (g 0, 33, .inl (aI bl100)))) (up_in1 (by decide))) (up_in0))) ?_
        have hR104 := (congrArg (fun q => reg q _ _ _) up_in0).mp hR101
        have hR105 := (congrArg (fun qq : Nat → Nat => reg _ _ _ (qq)) (up_in0)).mp hR104
        refine J_aload_n 0 d_M_inverted_98 rfl rfl ?_
        refine J_bipush d_M_inverted_99 (i8_ok (by decide)) ?_
        refine J_iconst d_M_inverted_101 ?_
        refine J_callVv cw_M_214 nh_M_reduce pn_M_reduce rfl rfl (by omega) (by rw [va_up_ne _ _ (by decide), va_up_ne _ _ (by decide)]; exact hO) (As := [.int (iI 22), .int (iI 0)]) (rest := []) rfl (Nat.le_of_ble_eq_true rfl) ⟨by decide, by decide⟩ rfl ⟨by decide, by decide⟩ d_M_inverted_102 (c_M_reduce hfl (x := 22) (a := ((rdN 1 ((u / h) * q) m) + p)) (m := m) (b := 0) (hh := bh99) (ll := bl100) (f := f) (v := v) (V := va_up (va_up (va_up (va_up (va_up (va_up (va_up (va_up V 31 h) 28 (u % h)) 18 p) 19 q) 26 j94) 25 (((u / h) * q) % m)) 24 (((u / h) * q) / m)) 22 ((rdN 1 ((u / h) * q) m) + p)) (br := va_up br 22 0) hN (by rw [va_up_ne _ _ (by decide), va_up_ne _ _ (by decide)]; exact hO) (by rw [va_up_ne _ _ (by decide), va_up_self]) (by rw [va_up_self]) hR105 (hzz_up hzz) (by omega) (by omega) (va_up_self ..) ((va_up_self ..)) (((va_up_ne _ _ (by decide)).trans ((va_up_ne _ _ (by decide)).trans ((va_up_ne _ _ (by decide)).trans ((va_up_ne _ _ (by decide)).trans ((va_up_ne _ _ (by decide)).trans ((va_up_ne _ _ (by decide)).trans ((va_up_ne _ _ (by decide)).trans ((va_up_ne _ _ (by decide)).trans hz))))))))) (by decide) hm0 ⟨(lnw_le (by decide)).mpr (Nat.lt_trans (Nat.add_lt_add (Nat.lt_trans (rdN_lt hm0) hmb) (Nat.lt_trans hpq.1 hmb)) (by decide)), by omega⟩) (fun  F15 hq => ?_)
        obtain ⟨bh106, bl107, j109, hR108, eF15⟩ := hq
        refine J_eqF (F2 := va_up (va_up F 99 (.inl (g 0, 858, .inl (aI bh106)))) 100 (.inl (g 0, 33, .inl (aI bl107)))) (eF15.trans (Eq.trans (congrArg (fun q : Nat → va_E => va_up q 100 (.inl (g 0, 33, .inl (aI bl107)))) (up_in1 (by decide))) (up_in0))) ?_
        have hR110 := (congrArg (fun qq : Nat → Nat => reg _ _ _ (va_up (va_up (va_up (qq) 25 (((rdN 1 ((u / h) * q) m) + p) % m)) 24 (((rdN 1 ((u / h) * q) m) + p) / m)) 22 (rdN 0 ((rdN 1 ((u / h) * q) m) + p) m))) (up_in3 (by decide) (by decide) (by decide))).mp hR108
        have hR111 := (congrArg (fun qq : Nat → Nat => reg _ _ _ (va_up (va_up (qq) 24 (((rdN 1 ((u / h) * q) m) + p) / m)) 22 (rdN 0 ((rdN 1 ((u / h) * q) m) + p) m))) (up_in2 (by decide) (by decide))).mp hR110
        have hR112 := (congrArg (fun qq : Nat → Nat => reg _ _ _ (va_up (qq) 22 (rdN 0 ((rdN 1 ((u / h) * q) m) + p) m))) (up_in1 (by decide))).mp hR111
        have hR113 := (congrArg (fun qq : Nat → Nat => reg _ _ _ (qq)) (up_in0)).mp hR112
        refine J_aload_n 0 d_M_inverted_105 rfl rfl ?_
        refine J_bipush d_M_inverted_106 (i8_ok (by decide)) ?_
        refine J_bipush d_M_inverted_108 (i8_ok (by decide)) ?_
        refine J_callVv cw_M_58 nh_M_copy pn_M_copy rfl rfl (by omega) (by rw [va_up_ne _ _ (by decide), va_up_ne _ _ (by decide)]; exact hO) (As := [.int (iI 19), .int (iI 18)]) (rest := []) rfl (Nat.le_of_ble_eq_true rfl) ⟨by decide, by decide⟩ rfl ⟨by decide, by decide⟩ d_M_inverted_110 (k_M_copy hfl (a := 19) (b := 18) (hh := bh106) (ll := bl107) (V := va_up (va_up (va_up (va_up (va_up (va_up (va_up (va_up V 31 h) 28 (u % h)) 18 p) 19 q) 26 j109) 25 (((rdN 1 ((u / h) * q) m) + p) % m)) 24 (((rdN 1 ((u / h) * q) m) + p) / m)) 22 (rdN 0 ((rdN 1 ((u / h) * q) m) + p) m)) (br := va_up br 22 0) (hN := hN) (hO := (by rw [va_up_ne _ _ (by decide), va_up_ne _ _ (by decide)]; exact hO)) (hB := (by rw [va_up_ne _ _ (by decide), va_up_self])) (hL := (by rw [va_up_self])) (hR := hR113) (ha := by omega) (hb := by omega) (hxa := ((va_up_ne _ _ (by decide)).trans ((va_up_ne _ _ (by decide)).trans ((va_up_ne _ _ (by decide)).trans ((va_up_ne _ _ (by decide)).trans (va_up_self ..)))))) (bra := ((va_up_ne _ _ (by decide)).trans (hzz.2 19 (by decide) (by decide))))) (fun  F16 hq => ?_)
        obtain ⟨bh114, bl115, hR116, eF16⟩ := hq
        refine J_eqF (F2 := va_up (va_up F 99 (.inl (g 0, 858, .inl (aI bh114)))) 100 (.inl (g 0, 33, .inl (aI bl115)))) (eF16.trans (Eq.trans (congrArg (fun q : Nat → va_E => va_up q 100 (.inl (g 0, 33, .inl (aI bl115)))) (up_in1 (by decide))) (up_in0))) ?_
        have hR119 := reg_w1 ((hzz_up hzz).1 _) hR116
        have hR120 := (congrArg (fun qq : Nat → Nat => reg _ _ _ (qq)) (up_in5 (by decide) (by decide) (by decide) (by decide) (by decide))).mp hR119
        refine J_aload_n 0 d_M_inverted_113 rfl rfl ?_
        refine J_bipush d_M_inverted_114 (i8_ok (by decide)) ?_
        refine J_bipush d_M_inverted_116 (i8_ok (by decide)) ?_
        refine J_callVv cw_M_58 nh_M_copy pn_M_copy rfl rfl (by omega) (by rw [va_up_ne _ _ (by decide), va_up_ne _ _ (by decide)]; exact hO) (As := [.int (iI 22), .int (iI 19)]) (rest := []) rfl (Nat.le_of_ble_eq_true rfl) ⟨by decide, by decide⟩ rfl ⟨by decide, by decide⟩ d_M_inverted_118 (k_M_copy hfl (a := 22) (b := 19) (hh := bh114) (ll := bl115) (V := va_up (va_up (va_up (va_up (va_up (va_up (va_up (va_up V 31 h) 28 (u % h)) 18 q) 19 q) 26 j109) 25 (((rdN 1 ((u / h) * q) m) + p) % m)) 24 (((rdN 1 ((u / h) * q) m) + p) / m)) 22 (rdN 0 ((rdN 1 ((u / h) * q) m) + p) m)) (br := va_up br 22 0) (hN := hN) (hO := (by rw [va_up_ne _ _ (by decide), va_up_ne _ _ (by decide)]; exact hO)) (hB := (by rw [va_up_ne _ _ (by decide), va_up_self])) (hL := (by rw [va_up_self])) (hR := hR120) (ha := by omega) (hb := by omega) (hxa := (va_up_self ..)) (bra := (va_up_self ..))) (fun  F17 hq => ?_)
        obtain ⟨bh121, bl122, hR123, eF17⟩ := hq
        refine J_eqF (F2 := va_up (va_up F 99 (.inl (g 0, 858, .inl (aI bh121)))) 100 (.inl (g 0, 33, .inl (aI bl122)))) (eF17.trans (Eq.trans (congrArg (fun q : Nat → va_E => va_up q 100 (.inl (g 0, 33, .inl (aI bl122)))) (up_in1 (by decide))) (up_in0))) ?_
        have hR126 := reg_w1 ((hzz_up hzz).1 _) hR123
        have hR127 := (congrArg (fun qq : Nat → Nat => reg _ _ _ (qq)) (up_in4 (by decide) (by decide) (by decide) (by decide))).mp hR126
        refine J_goto (tgt := 38) d_M_inverted_121 (by decide) ?_
        exact ih bh121 bl122 h (u % h) q (rdN 0 (rdN 1 (u / h * q) m + p) m) j109 (((rdN 1 ((u / h) * q) m) + p) % m) (((rdN 1 ((u / h) * q) m) + p) / m) (rdN 0 (rdN 1 (u / h * q) m + p) m) (by rw [← hg, Nat.gcd_comm h, ← Nat.gcd_rec, Nat.gcd_comm]) ⟨hpq.2, rdN_lt hm0⟩ hh2 (by rw [rdN_0]; exact eu_step hm0 hu hh2) (by have := Nat.mod_lt u (show 0 < h by omega); omega) (reg_w1 (hzz.1 _) hR127) (by have := Nat.mod_lt u (show 0 < h by omega); omega)
  have hx_ := (congrArg (reg _ _ _) (up_same1 (i := 22) (a := (V 22)) ((va_up_ne _ _ (by decide)).trans ((va_up_ne _ _ (by decide)).trans ((va_up_ne _ _ (by decide)).trans ((va_up_ne _ _ (by decide)).trans ((va_up_ne _ _ (by decide)).trans ((va_up_ne _ _ (by decide)).trans (va_up_ne _ _ (by decide)))))))))).mp hR47
  have hy_22 := hx_
  exact loop38 (x + 1) bh43 bl44 m x 0 (rdN 0 1 m) j46 (1 % m) (1 / m) (V 22) (Nat.gcd_comm _ _) ⟨hm0, rdN_lt hm0⟩ (by rw [Nat.mod_self, Nat.mul_zero, Nat.zero_mod]) (by rw [rdN_0, Nat.mul_mod_mod, Nat.mul_one]) ⟨Nat.le_refl _, hxm⟩ hy_22 (Nat.lt_succ_self _)
