/-! the Model's regions: powers and shifts -/
theorem orM {x l s : Nat} (hl : l < 268435456) (hs : s < 28) : x * 2 ^ s % 268435456 ||| l / 2 ^ (28 - s) = (x * 2 ^ s + l / 2 ^ (28 - s)) % 268435456 := by
  have hp := p308 hs
  have e : x * 2 ^ s % 268435456 = x % 2 ^ (28 - s) * 2 ^ s := by rw [← hp, Nat.mul_comm (2 ^ s), Nat.mul_mod_mul_right]
  have hr : l / 2 ^ (28 - s) < 2 ^ s := by rw [Nat.div_lt_iff_lt_mul (Nat.two_pow_pos _), hp]; exact hl
  rw [e, or_sh8 hl hs, ← e, Nat.add_mod, Nat.mod_eq_of_lt (a := l / _) (Nat.lt_of_le_of_lt (Nat.div_le_self _ _) hl)]
  have h1 := Nat.mod_lt x (Nat.two_pow_pos (28 - s))
  have h2 : (x % 2 ^ (28 - s) + 1) * 2 ^ s ≤ 2 ^ (28 - s) * 2 ^ s := Nat.mul_le_mul_right _ h1
  rw [Nat.mul_comm (2 ^ (28 - s)), hp, Nat.succ_mul, ← e] at h2
  exact (Nat.mod_eq_of_lt (by omega)).symm
theorem orD {x l s : Nat} (hl : l < 268435456) (hs : s < 28) : l / 2 ^ s ||| x * 2 ^ (28 - s) % 268435456 = (l / 2 ^ s + x * 2 ^ (28 - s)) % 268435456 := by
  by_cases h0 : s = 0
  · subst h0
    rw [Nat.pow_zero, Nat.div_one, show (2 : Nat) ^ (28 - 0) = 268435456 from rfl, Nat.mul_mod_left, Nat.or_zero, Nat.add_mul_mod_self_right, Nat.mod_eq_of_lt hl]
  · have := orM (x := x) (l := l) (s := 28 - s) hl (by omega)
    rw [show 28 - (28 - s) = s by omega] at this
    rw [Nat.or_comm, this, Nat.add_comm]
theorem mx8 {x s : Nat} (hx : x < 268435456) (hs : s ≤ 28) : x * 2 ^ s < 72057594037927936 := by
  have h1 : 2 ^ s ≤ 2 ^ 28 := Nat.pow_le_pow_right (by decide) hs
  have h2 : x * 2 ^ s ≤ x * 2 ^ 28 := Nat.mul_le_mul_left _ h1
  omega
theorem dx8 {x s : Nat} (hx : x < 268435456) : x / 2 ^ s < 268435456 := Nat.lt_of_le_of_lt (Nat.div_le_self _ _) hx
set_option maxRecDepth 100000 in
set_option maxHeartbeats 4000000 in
theorem c_M_tens {l : Launch} (hfl : l.flags = flags0) {D : va_G} {g : Nat → ClassId} {ad : Nat → Nat} {N : Nat} {F : Nat → va_E} {a : Nat} {n : Int} {hh ll : Nat → Int} {V : Nat → Nat} {br : Nat → Nat} {vs : List Value}
    (hN : 109 ≤ N) (hO : F 98 = .inr (8, .ref (ad 99) :: .ref (ad 100) :: vs)) (hB : F 99 = aB g hh) (hL : F 100 = aL g ll) (hR : reg br hh ll V) (ha : a < 33) (bra : br a = 0) (hn : inI n) (hT : lnw 28 (V a * 10 ^ n.toNat) ≤ 26) :
    JC l y_M_tens b_M_tens 4 (Option.none : Option Jvm.ClassFile.FieldType) rm_M_tens (0, 0) D jCl (jTys g) ad N F [.ref (ad 98), .int (iI (a : Int)), .int (iI n)] (jv ad N (fun F' => ∃ hh' ll' : Nat → Int, reg (va_up br a 0) hh' ll' (va_up V a (V a * 10 ^ n.toNat)) ∧ F' = va_up (va_up F 99 (aB g hh')) 100 (aL g ll'))) := by
  refine JC.go hfl (own := "NumberTowerModel") (lv := [(0, .ref (ad 98)), (1, .int (iI (a : Int))), (2, .int (iI n))]) rfl (by decide +kernel) (Nat.le_of_ble_eq_true rfl) rfl (fun A => ?_)
  refine J_iconst d_M_tens_0 ?_
  refine J_istore_n (lv' := [(3, .int (iI 0)), (0, .ref (ad 98)), (1, .int (iI (a : Int))), (2, .int (iI n))]) d_M_tens_1 rfl (by decide) rfl ?_
  refine J_pick (lv' := [(0, .ref (ad 98)), (1, .int (iI (a : Int))), (2, .int (iI n)), (3, .int (iI 0))]) [1, 2, 3, 0] rfl ?_
  have loop2 : ∀ (fuel : Nat) (i : Nat) (e : Nat → Int) (f : Nat → Int) (h1 : i ≤ n.toNat) (hR2 : reg (va_up br a 0) e f (va_up V a (V a * 10 ^ i))) (hfu : n.toNat - i < fuel), J l rm_M_tens (0, 0) "NumberTowerModel" b_M_tens 4 (Option.none : Option Jvm.ClassFile.FieldType) D jCl (jTys g) A (fun _ me => me.name = y_M_tens.name) (jv ad N (fun F' => ∃ hh' ll' : Nat → Int, reg (va_up br a 0) hh' ll' (va_up V a (V a * 10 ^ n.toNat)) ∧ F' = va_up (va_up F 99 (aB g hh')) 100 (aL g ll'))) ad N 0 0 2 [(0, .ref (ad 98)), (1, .int (iI (a : Int))), (2, .int (iI n)), (3, .int (iI (i : Int)))] [] (va_up (va_up F 99 (.inl (g 0, 858, .inl (aI e)))) 100 (.inl (g 0, 33, .inl (aI f)))) := by
    intro fuel
    induction fuel with
    | zero => intro i e f h1 hR2 hfu; exact absurd hfu (Nat.not_lt_zero _)
    | succ fuel ih =>
      intro i e f h1 hR2 hfu
      refine J_iload_n 3 d_M_tens_2 rfl rfl ?_
      refine J_iload_n 2 d_M_tens_3 rfl rfl ?_
      refine J_if_icmpge (tgt := 21) d_M_tens_4 (by decide) ⟨by omega, by omega⟩ ⟨by omega, by omega⟩ (fun c4 => ?_) (fun c4 => ?_)
      · refine J_vret rfl d_M_tens_21 ⟨by decide, by decide⟩ ?_
        exact ⟨rfl, rfl, rfl, _, _, (by rw [show n.toNat = i by omega]; exact hR2), rfl⟩
      · refine J_aload_n 0 d_M_tens_7 rfl rfl ?_
        refine J_iload_n 1 d_M_tens_8 rfl rfl ?_
        refine J_bipush d_M_tens_9 (i8_ok (by decide)) ?_
        refine J_iconst d_M_tens_11 ?_
        refine J_callVv cw_M_54 nh_M_grow pn_M_grow rfl rfl (by omega) (by rw [va_up_ne _ _ (by decide), va_up_ne _ _ (by decide)]; exact hO) (As := [.int (iI (a : Int)), .int (iI 10), .int (iI 0)]) (rest := []) rfl (Nat.le_of_ble_eq_true rfl) ⟨by decide, by decide⟩ rfl ⟨by decide, by decide⟩ d_M_tens_12 (c_M_grow hfl (a := a) (m := 10) (more := 0) (hh := e) (ll := f) (V := va_up V a (V a * 10 ^ i)) (br := va_up br a 0) hN (by rw [va_up_ne _ _ (by decide), va_up_ne _ _ (by decide)]; exact hO) (by rw [va_up_ne _ _ (by decide), va_up_self]) (by rw [va_up_self]) hR2 ha (va_up_self ..) ⟨by omega, by omega⟩ (by omega) (by rw [va_up_self, Nat.add_zero, Nat.mul_assoc, ← Nat.pow_succ]; exact Nat.le_trans (lnw_mono8 (Nat.mul_le_mul_left _ (Nat.pow_le_pow_right (by decide) (by omega)))) hT)) (fun  F1 hq => ?_)
        obtain ⟨h1', l1', hR3, eF1⟩ := hq
        refine J_eqF (F2 := va_up (va_up F 99 (.inl (g 0, 858, .inl (aI h1')))) 100 (.inl (g 0, 33, .inl (aI l1')))) (eF1.trans (Eq.trans (congrArg (fun q : Nat → va_E => va_up q 100 (.inl (g 0, 33, .inl (aI l1')))) (up_in1 (by decide))) (up_in0))) ?_
        refine J_iinc (j := 3) (b := (i : Int) + 1) (lv' := [(3, .int (iI ((i : Int) + 1))), (0, .ref (ad 98)), (1, .int (iI (a : Int))), (2, .int (iI n))]) d_M_tens_15 rfl (by omega) (by decide) rfl ?_
        refine J_goto (tgt := 2) d_M_tens_18 (by decide) ?_
        refine J_pick (lv' := [(0, .ref (ad 98)), (1, .int (iI (a : Int))), (2, .int (iI n)), (3, .int (iI ((i : Int) + 1)))]) [1, 2, 3, 0] rfl ?_
        exact ih (i + 1) h1' l1' (by omega) (by simp only [up_in0] at hR3; rw [va_up_self, Nat.add_zero, Nat.mul_assoc, ← Nat.pow_succ] at hR3; exact hR3) (by omega)
  refine J_eqF (F2 := va_up (va_up F 99 (.inl (g 0, 858, .inl (aI hh)))) 100 (.inl (g 0, 33, .inl (aI ll)))) (up_same2 hB hL) ?_
  exact loop2 ((n.toNat - 0) + 1) 0 hh ll (by omega) (by rw [Nat.pow_zero, Nat.mul_one, ← up_same1 (f := V) (i := a) rfl, ← up_same1 (f := br) (i := a) bra]; exact hR) (Nat.lt_succ_self _)
set_option maxRecDepth 100000 in
set_option maxHeartbeats 4000000 in
theorem c_M_up {l : Launch} (hfl : l.flags = flags0) {D : va_G} {g : Nat → ClassId} {ad : Nat → Nat} {N : Nat} {F : Nat → va_E} {a n : Nat} {hh ll : Nat → Int} {V : Nat → Nat} {br : Nat → Nat} {vs : List Value}
    (hN : 109 ≤ N) (hO : F 98 = .inr (8, .ref (ad 99) :: .ref (ad 100) :: vs)) (hB : F 99 = aB g hh) (hL : F 100 = aL g ll) (hR : reg br hh ll V) (ha : a < 33) (bra : br a = 0) (hn : n ≤ 100000) (hT : V a = 0 ∨ lnw 28 (V a) + n / 28 + 1 ≤ 26) :
    JC l y_M_up b_M_up 8 (Option.none : Option Jvm.ClassFile.FieldType) rm_M_up (0, 0) D jCl (jTys g) ad N F [.ref (ad 98), .int (iI (a : Int)), .int (iI (n : Int))] (jv ad N (fun F' => ∃ hh' ll' : Nat → Int, reg (va_up br a 0) hh' ll' (va_up V a (V a * 2 ^ n)) ∧ F' = va_up (va_up F 99 (aB g hh')) 100 (aL g ll'))) := by
  obtain ⟨hla, hma⟩ := reg_len hR ha bra
  have h0 := cn_eq08 (n := V a)
  have hTl := lnw_up8 (a := V a) (y := n)
  refine JC.go hfl (own := "NumberTowerModel") (lv := [(0, .ref (ad 98)), (1, .int (iI (a : Int))), (2, .int (iI (n : Int)))]) rfl (by decide +kernel) (Nat.le_of_ble_eq_true rfl) rfl (fun A => ?_)
  refine J_aload_n 0 d_M_up_0 rfl rfl ?_
  refine gf_M_13 (by omega) hO rfl d_M_up_1 ?_
  refine J_iload_n 1 d_M_up_4 rfl rfl ?_
  refine J_iaload 0 rfl (by omega) hL (by omega) d_M_up_5 ?_
  refine J_topi (r := ll a) (congrArg (fun q => iI (ll q)) (by omega)) ?_
  refine J_ifne (tgt := 10) d_M_up_6 (by decide) ⟨by omega, by omega⟩ (fun c6 => ?_) (fun c6 => ?_)
  · refine J_iload_n 2 d_M_up_10 rfl rfl ?_
    refine J_bipush d_M_up_11 (i8_ok (by decide)) ?_
    refine J_idivn d_M_up_13 (by omega) (by omega) ?_
    refine J_topi (r := ((n / 28 : Nat) : Int)) (congrArg iI (by omega)) ?_
    refine J_istore_n (lv' := [(3, .int (iI ((n / 28 : Nat) : Int))), (0, .ref (ad 98)), (1, .int (iI (a : Int))), (2, .int (iI (n : Int)))]) d_M_up_14 rfl (by decide) rfl ?_
    refine J_iload_n 3 d_M_up_15 rfl rfl ?_
    refine J_bipush d_M_up_16 (i8_ok (by decide)) ?_
    refine J_iremn d_M_up_18 (by omega) (by omega) ?_
    refine J_topi (r := ((n % 28 : Nat) : Int)) (congrArg iI (by omega)) ?_
    refine J_istore (lv' := [(4, .int (iI ((n % 28 : Nat) : Int))), (3, .int (iI ((n / 28 : Nat) : Int))), (0, .ref (ad 98)), (1, .int (iI (a : Int))), (2, .int (iI (n : Int)))]) d_M_up_19 (by decide) rfl ?_
    refine J_aload_n 2 d_M_up_21 rfl rfl ?_
    refine gf_M_13 (by omega) hO rfl d_M_up_22 ?_
    refine J_iload_n 3 d_M_up_25 rfl rfl ?_
    refine J_iaload 0 rfl (by omega) hL (by omega) d_M_up_26 ?_
    refine J_topi (r := ll a) (congrArg (fun q => iI (ll q)) (by omega)) ?_
    refine J_iload_n 1 d_M_up_27 rfl rfl ?_
    refine J_iadd d_M_up_28 ?_
    refine J_topi (r := (lnw 28 (V a) : Int) + ((n / 28 : Nat) : Int)) (congrArg iI (by omega)) ?_
    refine J_istore (lv' := [(5, .int (iI ((lnw 28 (V a) : Int) + ((n / 28 : Nat) : Int)))), (4, .int (iI ((n % 28 : Nat) : Int))), (3, .int (iI ((n / 28 : Nat) : Int))), (0, .ref (ad 98)), (1, .int (iI (a : Int))), (2, .int (iI (n : Int)))]) d_M_up_29 (by decide) rfl ?_
    refine J_pick (lv' := [(0, .ref (ad 98)), (1, .int (iI (a : Int))), (2, .int (iI (n : Int))), (3, .int (iI ((n / 28 : Nat) : Int))), (4, .int (iI ((n % 28 : Nat) : Int))), (5, .int (iI ((lnw 28 (V a) : Int) + ((n / 28 : Nat) : Int))))]) [3, 4, 5, 2, 1, 0] rfl ?_
    have loop31 : ∀ (fuel : Nat) (i : Int) (f : Nat → Int) (h1 : -1 ≤ i ∧ i ≤ lnw 28 (V a) + n / 28) (hf : f = sg a (i + 1).toNat (lnw 28 (V a) + n / 28 + 1) (dg8 (V a * 2 ^ n)) hh) (hfu : (i + 1).toNat < fuel), J l rm_M_up (0, 0) "NumberTowerModel" b_M_up 8 (Option.none : Option Jvm.ClassFile.FieldType) D jCl (jTys g) A (fun _ me => me.name = y_M_up.name) (jv ad N (fun F' => ∃ hh' ll' : Nat → Int, reg (va_up br a 0) hh' ll' (va_up V a (V a * 2 ^ n)) ∧ F' = va_up (va_up F 99 (aB g hh')) 100 (aL g ll'))) ad N 0 0 31 [(0, .ref (ad 98)), (1, .int (iI (a : Int))), (2, .int (iI (n : Int))), (3, .int (iI ((n / 28 : Nat) : Int))), (4, .int (iI ((n % 28 : Nat) : Int))), (5, .int (iI i))] [] (va_up F 99 (.inl (g 0, 858, .inl (aI f)))) := by
      intro fuel
      induction fuel with
      | zero => intro i f h1 hf hfu; exact absurd hfu (Nat.not_lt_zero _)
      | succ fuel ih =>
        intro i f h1 hf hfu
        refine J_iload 5 d_M_up_31 rfl ?_
        refine J_iflt (tgt := 118) d_M_up_33 (by decide) ⟨by omega, by omega⟩ (fun c33 => ?_) (fun c33 => ?_)
        · refine J_aload_n 0 d_M_up_118 rfl rfl ?_
          refine gf_M_13 (by omega) (by rw [va_up_ne _ _ (by decide)]; exact hO) rfl d_M_up_119 ?_
          refine J_iload_n 1 d_M_up_122 rfl rfl ?_
          refine J_aload_n 0 d_M_up_123 rfl rfl ?_
          refine gf_M_13 (by omega) (by rw [va_up_ne _ _ (by decide)]; exact hO) rfl d_M_up_124 ?_
          refine J_iload_n 1 d_M_up_127 rfl rfl ?_
          refine J_iaload 0 rfl (by omega) (by rw [va_up_ne _ _ (by decide)]; exact hL) (by omega) d_M_up_128 ?_
          refine J_topi (r := ll a) (congrArg (fun q => iI (ll q)) (by omega)) ?_
          refine J_iload_n 3 d_M_up_129 rfl rfl ?_
          refine J_iadd d_M_up_130 ?_
          refine J_iconst d_M_up_131 ?_
          refine J_iadd d_M_up_132 ?_
          refine J_topi (r := (ll a) + ((n / 28 : Nat) : Int) + 1) (congrArg iI (by omega)) ?_
          refine J_topi (r := (((lnw 28 (V a) + n / 28 + 1 : Nat)) : Int)) (congrArg iI (by omega)) ?_
          refine J_iastore 0 rfl (by omega) (by rw [va_up_ne _ _ (by decide)]; exact hL) (by omega) d_M_up_133 ?_
          refine J_eqF (F2 := va_up (va_up F 99 (.inl (g 0, 858, .inl (aI f)))) 100 (.inl (g 0, 33, .inl (aI (va_up ll a (((lnw 28 (V a) + n / 28 + 1 : Nat)) : Int)))))) (congrArg (fun q => va_up (va_up F 99 (.inl (g 0, 858, .inl (aI f)))) 100 (.inl (g 0, 33, .inl (aI (va_up ll q (((lnw 28 (V a) + n / 28 + 1 : Nat)) : Int)))))) (by omega : (a : Int).toNat = a)) ?_
          refine J_aload_n 0 d_M_up_134 rfl rfl ?_
          refine J_iload_n 1 d_M_up_135 rfl rfl ?_
          refine J_callVv cw_M_50 nh_M_trim pn_M_trim rfl rfl (by omega) (by rw [va_up_ne _ _ (by decide), va_up_ne _ _ (by decide)]; exact hO) (As := [.int (iI (a : Int))]) (rest := []) rfl (Nat.le_of_ble_eq_true rfl) ⟨by decide, by decide⟩ rfl ⟨by decide, by decide⟩ d_M_up_136 (c_M_trim hfl (a := a) (T := (V a * 2 ^ n)) (c := (lnw 28 (V a) + n / 28 + 1)) (hh := f) (ll := (va_up ll a (((lnw 28 (V a) + n / 28 + 1 : Nat)) : Int))) hN (by rw [va_up_ne _ _ (by decide), va_up_ne _ _ (by decide)]; exact hO) (by rw [va_up_ne _ _ (by decide), va_up_self]) (by rw [va_up_self]) (by omega) ⟨by rw [va_up_self], by omega, hTl⟩ (fun j hj => by rw [hf]; exact sg_in (by omega) (by omega))) (fun  F1 hq => ?_)
          have eF1 := hq
          refine J_eqF (F2 := va_up (va_up F 99 (.inl (g 0, 858, .inl (aI f)))) 100 (.inl (g 0, 33, .inl (aI (va_up (va_up ll a (((lnw 28 (V a) + n / 28 + 1 : Nat)) : Int)) a (lnw 28 (V a * 2 ^ n) : Int)))))) (eF1.trans (up_in0)) ?_
          refine J_vret rfl d_M_up_139 ⟨by decide, by decide⟩ ?_
          exact ⟨rfl, rfl, rfl, f, _, reg_any hR (by omega) (dg8 (V a * 2 ^ n)) (lnw 28 (V a) + n / 28 + 1) ⟨by omega, hTl⟩ (fun j hj => rfl) (by rw [hf, show (i + 1).toNat = 0 by omega]), by rw [up_in0]⟩
        · have lab55 : J l rm_M_up (0, 0) "NumberTowerModel" b_M_up 8 (Option.none : Option Jvm.ClassFile.FieldType) D jCl (jTys g) A (fun _ me => me.name = y_M_up.name) (jv ad N (fun F' => ∃ hh' ll' : Nat → Int, reg (va_up br a 0) hh' ll' (va_up V a (V a * 2 ^ n)) ∧ F' = va_up (va_up F 99 (aB g hh')) 100 (aL g ll'))) ad N 0 0 55 [(0, .ref (ad 98)), (1, .int (iI (a : Int))), (2, .int (iI (n : Int))), (3, .int (iI ((n / 28 : Nat) : Int))), (4, .int (iI ((n % 28 : Nat) : Int))), (5, .int (iI i))] [.int (iI (gl8 (V a) (i - ((n / 28 : Nat) : Int)) : Int))] (va_up F 99 (.inl (g 0, 858, .inl (aI f)))) := by
            refine J_istore (lv' := [(6, .int (iI (gl8 (V a) (i - ((n / 28 : Nat) : Int)) : Int))), (0, .ref (ad 98)), (1, .int (iI (a : Int))), (2, .int (iI (n : Int))), (3, .int (iI ((n / 28 : Nat) : Int))), (4, .int (iI ((n % 28 : Nat) : Int))), (5, .int (iI i))]) d_M_up_55 (by decide) rfl ?_
            have lab78 : J l rm_M_up (0, 0) "NumberTowerModel" b_M_up 8 (Option.none : Option Jvm.ClassFile.FieldType) D jCl (jTys g) A (fun _ me => me.name = y_M_up.name) (jv ad N (fun F' => ∃ hh' ll' : Nat → Int, reg (va_up br a 0) hh' ll' (va_up V a (V a * 2 ^ n)) ∧ F' = va_up (va_up F 99 (aB g hh')) 100 (aL g ll'))) ad N 0 0 78 [(0, .ref (ad 98)), (1, .int (iI (a : Int))), (2, .int (iI (n : Int))), (3, .int (iI ((n / 28 : Nat) : Int))), (4, .int (iI ((n % 28 : Nat) : Int))), (5, .int (iI i)), (6, .int (iI (gl8 (V a) (i - ((n / 28 : Nat) : Int)) : Int)))] [.int (iI (gl8 (V a) (i - ((n / 28 : Nat) : Int) - 1) : Int))] (va_up F 99 (.inl (g 0, 858, .inl (aI f)))) := by
              refine J_istore (lv' := [(7, .int (iI (gl8 (V a) (i - ((n / 28 : Nat) : Int) - 1) : Int))), (0, .ref (ad 98)), (1, .int (iI (a : Int))), (2, .int (iI (n : Int))), (3, .int (iI ((n / 28 : Nat) : Int))), (4, .int (iI ((n % 28 : Nat) : Int))), (5, .int (iI i)), (6, .int (iI (gl8 (V a) (i - ((n / 28 : Nat) : Int)) : Int)))]) d_M_up_78 (by decide) rfl ?_
              refine J_aload_n 1 d_M_up_80 rfl rfl ?_
              refine gf_M_7 (by omega) (by rw [va_up_ne _ _ (by decide)]; exact hO) rfl d_M_up_81 ?_
              refine J_bipush d_M_up_84 (i8_ok (by decide)) ?_
              refine J_iload_n 2 d_M_up_86 rfl rfl ?_
              refine J_imul d_M_up_87 ?_
              refine J_iload 6 d_M_up_88 rfl ?_
              refine J_iadd d_M_up_90 ?_
              have hA1 := mx8 (s := n % 28) (gl_b8 (V a) (i - ((n / 28 : Nat) : Int))) (by omega)
              have hB1 := dx8 (s := 28 - n % 28) (gl_b8 (V a) (i - ((n / 28 : Nat) : Int) - 1))
              have hg0 := gl_b8 (V a) (i - ((n / 28 : Nat) : Int))
              have hg1 := gl_b8 (V a) (i - ((n / 28 : Nat) : Int) - 1)
              refine J_iload 7 d_M_up_91 rfl ?_
              refine J_i2l d_M_up_93 ⟨by omega, by omega⟩ ?_
              refine J_iload 5 d_M_up_94 rfl ?_
              refine J_lshl (r := (((gl8 (V a) (i - ((n / 28 : Nat) : Int))) * 2 ^ (n % 28) : Nat) : Int)) d_M_up_96 (lI_shln (n % 28) (by omega)) ?_
              refine J_ldc2 (z := 268435455) d_M_up_97 wd_1093 (by decide) ?_
              refine J_land (r := ((((gl8 (V a) (i - ((n / 28 : Nat) : Int))) * 2 ^ (n % 28)) % 268435456 : Nat) : Int)) d_M_up_100 (lI_andn 28 (by decide)) ?_
              refine J_l2i d_M_up_101 ?_
              refine J_iload 0 d_M_up_102 rfl ?_
              refine J_bipush d_M_up_104 (i8_ok (by decide)) ?_
              refine J_iload 5 d_M_up_106 rfl ?_
              refine J_isub d_M_up_108 ?_
              refine J_topi (r := ((28 - n % 28 : Nat) : Int)) (congrArg iI (by omega)) ?_
              refine J_ishr (r := (((gl8 (V a) (i - ((n / 28 : Nat) : Int) - 1)) / 2 ^ (28 - n % 28) : Nat) : Int)) d_M_up_109 (iI_shrn (Nat.lt_trans (gl_b8 _ _) (by decide)) (28 - n % 28) (by omega)) ?_
              refine J_ior (r := (((((gl8 (V a) (i - ((n / 28 : Nat) : Int))) * 2 ^ (n % 28)) % 268435456) ||| ((gl8 (V a) (i - ((n / 28 : Nat) : Int) - 1)) / 2 ^ (28 - n % 28)) : Nat) : Int)) d_M_up_110 (iI_orn (by omega) (by omega)) ?_
              refine J_iastore 0 rfl (by omega) (by rw [va_up_self]) (by omega) d_M_up_111 ?_
              refine J_eqF (F2 := va_up F 99 (.inl (g 0, 858, .inl (aI (va_up f (((26 * (a : Int)) + i).toNat) (((((gl8 (V a) (i - ((n / 28 : Nat) : Int))) * 2 ^ (n % 28)) % 268435456) ||| ((gl8 (V a) (i - ((n / 28 : Nat) : Int) - 1)) / 2 ^ (28 - n % 28)) : Nat) : Int)))))) (up_in0) ?_
              refine J_iinc (j := 6) (b := i - 1) (lv' := [(5, .int (iI (i - 1))), (7, .int (iI (gl8 (V a) (i - ((n / 28 : Nat) : Int) - 1) : Int))), (0, .ref (ad 98)), (1, .int (iI (a : Int))), (2, .int (iI (n : Int))), (3, .int (iI ((n / 28 : Nat) : Int))), (4, .int (iI ((n % 28 : Nat) : Int))), (6, .int (iI (gl8 (V a) (i - ((n / 28 : Nat) : Int)) : Int)))]) d_M_up_112 rfl (by omega) (by decide) rfl ?_
              refine J_goto (tgt := 31) d_M_up_115 (by decide) ?_
              refine J_pick (lv' := [(0, .ref (ad 98)), (1, .int (iI (a : Int))), (2, .int (iI (n : Int))), (3, .int (iI ((n / 28 : Nat) : Int))), (4, .int (iI ((n % 28 : Nat) : Int))), (5, .int (iI (i - 1)))]) [2, 3, 4, 5, 6, 0] rfl ?_
              refine ih (i - 1) (va_up f (((26 * (a : Int)) + i).toNat) (((((gl8 (V a) (i - ((n / 28 : Nat) : Int))) * 2 ^ (n % 28)) % 268435456) ||| ((gl8 (V a) (i - ((n / 28 : Nat) : Int) - 1)) / 2 ^ (28 - n % 28)) : Nat) : Int)) (by omega) ?_ (by omega)
              · rw [hf, show ((26 * (a : Int)) + i).toNat = 26 * a + i.toNat by omega, show (i - 1 + 1).toNat = i.toNat by omega, show (i + 1).toNat = i.toNat + 1 by omega]
                refine sg_dn (by omega) ?_
                rw [dg_nat8, dgt_up8, orM (gl_b8 _ _) (by omega), show ((i.toNat : Nat) : Int) = i by omega]
            refine J_iload 6 d_M_up_57 rfl ?_
            refine J_iload_n 4 d_M_up_59 rfl rfl ?_
            refine J_if_icmple (tgt := 77) d_M_up_60 (by decide) ⟨by omega, by omega⟩ ⟨by omega, by omega⟩ (fun c60 => ?_) (fun c60 => ?_)
            · refine J_iconst d_M_up_77 ?_
              refine J_pick (lv' := [(0, .ref (ad 98)), (1, .int (iI (a : Int))), (2, .int (iI (n : Int))), (3, .int (iI ((n / 28 : Nat) : Int))), (4, .int (iI ((n % 28 : Nat) : Int))), (5, .int (iI i)), (6, .int (iI (gl8 (V a) (i - ((n / 28 : Nat) : Int)) : Int)))]) [1, 2, 3, 4, 5, 6, 0] rfl ?_
              refine J_topi (r := (gl8 (V a) (i - ((n / 28 : Nat) : Int) - 1) : Int)) (congrArg iI (by rw [gl_n8 (by omega)]; rfl)) ?_
              exact lab78  
            · refine J_aload_n 1 d_M_up_63 rfl rfl ?_
              refine J_iload_n 2 d_M_up_64 rfl rfl ?_
              refine J_iload 6 d_M_up_65 rfl ?_
              refine J_iload_n 4 d_M_up_67 rfl rfl ?_
              refine J_isub d_M_up_68 ?_
              refine J_iconst d_M_up_69 ?_
              refine J_isub d_M_up_70 ?_
              refine J_topi (r := (((i - ((n / 28 : Nat) : Int) - 1).toNat : Nat) : Int)) (congrArg iI (by omega)) ?_
              refine J_callVi cw_M_45 nh_M_limb pn_M_limb rfl rfl (by omega) (by rw [va_up_ne _ _ (by decide)]; exact hO) (As := [.int (iI (a : Int)), .int (iI (((i - ((n / 28 : Nat) : Int) - 1).toNat : Nat) : Int))]) (rest := []) rfl (Nat.le_of_ble_eq_true rfl) ⟨by decide, by decide⟩ rfl ⟨by decide, by decide⟩ d_M_up_71 (c_M_limb hfl (a := a) (k := (i - ((n / 28 : Nat) : Int) - 1).toNat) (hh := f) (ll := ll) hN (by rw [va_up_ne _ _ (by decide)]; exact hO) (by rw [va_up_self]) (by rw [va_up_ne _ _ (by decide)]; exact hL) (by omega) (by omega)) (fun y2 F2 hq => ?_)
              obtain ⟨hy2, eF2⟩ := hq
              refine J_eqF eF2 ?_
              refine J_goto (tgt := 78) d_M_up_74 (by decide) ?_
              refine J_pick (lv' := [(0, .ref (ad 98)), (1, .int (iI (a : Int))), (2, .int (iI (n : Int))), (3, .int (iI ((n / 28 : Nat) : Int))), (4, .int (iI ((n % 28 : Nat) : Int))), (5, .int (iI i)), (6, .int (iI (gl8 (V a) (i - ((n / 28 : Nat) : Int)) : Int)))]) [1, 2, 3, 4, 5, 6, 0] rfl ?_
              refine J_topi (r := (gl8 (V a) (i - ((n / 28 : Nat) : Int) - 1) : Int)) (congrArg iI (by rw [hy2, reg_limb hR ha bra (f := f) (fun hj => by rw [hf]; exact sg_out (by omega)), gl_p8 (by omega)]; rfl)) ?_
              exact lab78  
          refine J_iload 5 d_M_up_36 rfl ?_
          refine J_iload_n 3 d_M_up_38 rfl rfl ?_
          refine J_if_icmplt (tgt := 54) d_M_up_39 (by decide) ⟨by omega, by omega⟩ ⟨by omega, by omega⟩ (fun c39 => ?_) (fun c39 => ?_)
          · refine J_iconst d_M_up_54 ?_
            refine J_topi (r := (gl8 (V a) (i - ((n / 28 : Nat) : Int)) : Int)) (congrArg iI (by rw [gl_n8 (by omega)]; rfl)) ?_
            exact lab55  
          · refine J_aload_n 0 d_M_up_42 rfl rfl ?_
            refine J_iload_n 1 d_M_up_43 rfl rfl ?_
            refine J_iload 5 d_M_up_44 rfl ?_
            refine J_iload_n 3 d_M_up_46 rfl rfl ?_
            refine J_isub d_M_up_47 ?_
            refine J_topi (r := (((i - ((n / 28 : Nat) : Int)).toNat : Nat) : Int)) (congrArg iI (by omega)) ?_
            refine J_callVi cw_M_45 nh_M_limb pn_M_limb rfl rfl (by omega) (by rw [va_up_ne _ _ (by decide)]; exact hO) (As := [.int (iI (a : Int)), .int (iI (((i - ((n / 28 : Nat) : Int)).toNat : Nat) : Int))]) (rest := []) rfl (Nat.le_of_ble_eq_true rfl) ⟨by decide, by decide⟩ rfl ⟨by decide, by decide⟩ d_M_up_48 (c_M_limb hfl (a := a) (k := (i - ((n / 28 : Nat) : Int)).toNat) (hh := f) (ll := ll) hN (by rw [va_up_ne _ _ (by decide)]; exact hO) (by rw [va_up_self]) (by rw [va_up_ne _ _ (by decide)]; exact hL) (by omega) (by omega)) (fun y1 F3 hq => ?_)
            obtain ⟨hy1, eF3⟩ := hq
            refine J_eqF eF3 ?_
            refine J_goto (tgt := 55) d_M_up_51 (by decide) ?_
            refine J_topi (r := (gl8 (V a) (i - ((n / 28 : Nat) : Int)) : Int)) (congrArg iI (by rw [hy1, reg_limb hR ha bra (f := f) (fun hj => by rw [hf]; exact sg_out (by omega)), gl_p8 (by omega)]; rfl)) ?_
            exact lab55  
    refine J_eqF (F2 := va_up F 99 (.inl (g 0, 858, .inl (aI hh)))) (up_same1 hB) ?_
    exact loop31 (((((lnw 28 (V a) : Int) + ((n / 28 : Nat) : Int)) + 1).toNat) + 1) ((lnw 28 (V a) : Int) + ((n / 28 : Nat) : Int)) hh (by omega) (by rw [show ((lnw 28 (V a) : Int) + ((n / 28 : Nat) : Int) + 1).toNat = lnw 28 (V a) + n / 28 + 1 by omega]; exact sg_0 _ _ _ _) (Nat.lt_succ_self _)
  · refine J_vret rfl d_M_up_9 ⟨by decide, by decide⟩ ?_
    refine ⟨rfl, rfl, rfl, hh, ll, ?_, up_same2 hB hL⟩
    have hz : V a = 0 := by omega
    rw [hz, Nat.zero_mul, ← up_same1 (f := V) (i := a) hz, ← up_same1 (f := br) (i := a) bra]
    exact hR
set_option maxRecDepth 100000 in
set_option maxHeartbeats 4000000 in
theorem c_M_down {l : Launch} (hfl : l.flags = flags0) {D : va_G} {g : Nat → ClassId} {ad : Nat → Nat} {N : Nat} {F : Nat → va_E} {a n : Nat} {hh ll : Nat → Int} {V : Nat → Nat} {br : Nat → Nat} {vs : List Value}
    (hN : 109 ≤ N) (hO : F 98 = .inr (8, .ref (ad 99) :: .ref (ad 100) :: vs)) (hB : F 99 = aB g hh) (hL : F 100 = aL g ll) (hR : reg br hh ll V) (ha : a < 33) (bra : br a = 0) (hn : n ≤ 100000) :
    JC l y_M_down b_M_down 9 (Option.none : Option Jvm.ClassFile.FieldType) rm_M_down (0, 0) D jCl (jTys g) ad N F [.ref (ad 98), .int (iI (a : Int)), .int (iI (n : Int))] (jv ad N (fun F' => ∃ hh' ll' : Nat → Int, reg (va_up br a 0) hh' ll' (va_up V a (V a / 2 ^ n)) ∧ F' = va_up (va_up F 99 (aB g hh')) 100 (aL g ll'))) := by
  obtain ⟨hla, hma⟩ := reg_len hR ha bra
  have hTl := lnw_mono8 (Nat.div_le_self (V a) (2 ^ n))
  refine JC.go hfl (own := "NumberTowerModel") (lv := [(0, .ref (ad 98)), (1, .int (iI (a : Int))), (2, .int (iI (n : Int)))]) rfl (by decide +kernel) (Nat.le_of_ble_eq_true rfl) rfl (fun A => ?_)
  refine J_iload_n 2 d_M_down_0 rfl rfl ?_
  refine J_bipush d_M_down_1 (i8_ok (by decide)) ?_
  refine J_idivn d_M_down_3 (by omega) (by omega) ?_
  refine J_topi (r := ((n / 28 : Nat) : Int)) (congrArg iI (by omega)) ?_
  refine J_istore_n (lv' := [(3, .int (iI ((n / 28 : Nat) : Int))), (0, .ref (ad 98)), (1, .int (iI (a : Int))), (2, .int (iI (n : Int)))]) d_M_down_4 rfl (by decide) rfl ?_
  refine J_iload_n 3 d_M_down_5 rfl rfl ?_
  refine J_bipush d_M_down_6 (i8_ok (by decide)) ?_
  refine J_iremn d_M_down_8 (by omega) (by omega) ?_
  refine J_topi (r := ((n % 28 : Nat) : Int)) (congrArg iI (by omega)) ?_
  refine J_istore (lv' := [(4, .int (iI ((n % 28 : Nat) : Int))), (3, .int (iI ((n / 28 : Nat) : Int))), (0, .ref (ad 98)), (1, .int (iI (a : Int))), (2, .int (iI (n : Int)))]) d_M_down_9 (by decide) rfl ?_
  refine J_aload_n 2 d_M_down_11 rfl rfl ?_
  refine gf_M_13 (by omega) hO rfl d_M_down_12 ?_
  refine J_iload_n 3 d_M_down_15 rfl rfl ?_
  refine J_iaload 0 rfl (by omega) hL (by omega) d_M_down_16 ?_
  refine J_topi (r := ll a) (congrArg (fun q => iI (ll q)) (by omega)) ?_
  refine J_istore (lv' := [(5, .int (iI (ll a))), (4, .int (iI ((n % 28 : Nat) : Int))), (3, .int (iI ((n / 28 : Nat) : Int))), (0, .ref (ad 98)), (1, .int (iI (a : Int))), (2, .int (iI (n : Int)))]) d_M_down_17 (by decide) rfl ?_
  refine J_iconst d_M_down_19 ?_
  refine J_istore (lv' := [(6, .int (iI 0)), (5, .int (iI (ll a))), (4, .int (iI ((n % 28 : Nat) : Int))), (3, .int (iI ((n / 28 : Nat) : Int))), (0, .ref (ad 98)), (1, .int (iI (a : Int))), (2, .int (iI (n : Int)))]) d_M_down_20 (by decide) rfl ?_
  refine J_pick (lv' := [(0, .ref (ad 98)), (1, .int (iI (a : Int))), (2, .int (iI (n : Int))), (3, .int (iI ((n / 28 : Nat) : Int))), (4, .int (iI ((n % 28 : Nat) : Int))), (5, .int (iI (ll a))), (6, .int (iI 0))]) [4, 5, 6, 3, 2, 1, 0] rfl ?_
  have loop22 : ∀ (fuel : Nat) (i : Nat) (f : Nat → Int) (h1 : i ≤ lnw 28 (V a)) (hf : f = sg a 0 i (dg8 (V a / 2 ^ n)) hh) (hfu : lnw 28 (V a) - i < fuel), J l rm_M_down (0, 0) "NumberTowerModel" b_M_down 9 (Option.none : Option Jvm.ClassFile.FieldType) D jCl (jTys g) A (fun _ me => me.name = y_M_down.name) (jv ad N (fun F' => ∃ hh' ll' : Nat → Int, reg (va_up br a 0) hh' ll' (va_up V a (V a / 2 ^ n)) ∧ F' = va_up (va_up F 99 (aB g hh')) 100 (aL g ll'))) ad N 0 0 22 [(0, .ref (ad 98)), (1, .int (iI (a : Int))), (2, .int (iI (n : Int))), (3, .int (iI ((n / 28 : Nat) : Int))), (4, .int (iI ((n % 28 : Nat) : Int))), (5, .int (iI (ll a))), (6, .int (iI (i : Int)))] [] (va_up F 99 (.inl (g 0, 858, .inl (aI f)))) := by
    intro fuel
    induction fuel with
    | zero => intro i f h1 hf hfu; exact absurd hfu (Nat.not_lt_zero _)
    | succ fuel ih =>
      intro i f h1 hf hfu
      have hhi : ∀ j : Nat, i ≤ j → j < lnw 28 (V a) → f (26 * a + j) = dg8 (V a) j := fun j h2 h3 => by rw [hf, sg_out (by omega)]; exact reg_dig hR ha bra h3
      refine J_iload 6 d_M_down_22 rfl ?_
      refine J_iload 5 d_M_down_24 rfl ?_
      refine J_if_icmpge (tgt := 129) d_M_down_26 (by decide) ⟨by omega, by omega⟩ ⟨by omega, by omega⟩ (fun c26 => ?_) (fun c26 => ?_)
      · refine J_aload_n 0 d_M_down_129 rfl rfl ?_
        refine J_iload_n 1 d_M_down_130 rfl rfl ?_
        refine J_callVv cw_M_50 nh_M_trim pn_M_trim rfl rfl (by omega) (by rw [va_up_ne _ _ (by decide)]; exact hO) (As := [.int (iI (a : Int))]) (rest := []) rfl (Nat.le_of_ble_eq_true rfl) ⟨by decide, by decide⟩ rfl ⟨by decide, by decide⟩ d_M_down_131 (c_M_trim hfl (a := a) (T := (V a / 2 ^ n)) (c := (lnw 28 (V a))) (hh := f) (ll := ll) hN (by rw [va_up_ne _ _ (by decide)]; exact hO) (by rw [va_up_self]) (by rw [va_up_ne _ _ (by decide)]; exact hL) (by omega) ⟨hla, hma, hTl⟩ (fun j hj => by rw [hf]; exact sg_in (by omega) (by omega))) (fun  F1 hq => ?_)
        have eF1 := hq
        refine J_eqF (F2 := va_up (va_up F 99 (.inl (g 0, 858, .inl (aI f)))) 100 (.inl (g 0, 33, .inl (aI (va_up ll a (lnw 28 (V a / 2 ^ n) : Int)))))) eF1 ?_
        refine J_vret rfl d_M_down_134 ⟨by decide, by decide⟩ ?_
        exact ⟨rfl, rfl, rfl, _, _, reg_any hR (by omega) (dg8 (V a / 2 ^ n)) i ⟨by omega, by omega⟩ (fun j hj => rfl) hf, rfl⟩
      · have lab56 : J l rm_M_down (0, 0) "NumberTowerModel" b_M_down 9 (Option.none : Option Jvm.ClassFile.FieldType) D jCl (jTys g) A (fun _ me => me.name = y_M_down.name) (jv ad N (fun F' => ∃ hh' ll' : Nat → Int, reg (va_up br a 0) hh' ll' (va_up V a (V a / 2 ^ n)) ∧ F' = va_up (va_up F 99 (aB g hh')) 100 (aL g ll'))) ad N 0 0 56 [(0, .ref (ad 98)), (1, .int (iI (a : Int))), (2, .int (iI (n : Int))), (3, .int (iI ((n / 28 : Nat) : Int))), (4, .int (iI ((n % 28 : Nat) : Int))), (5, .int (iI (ll a))), (6, .int (iI (i : Int)))] [.int (iI (dgt 28 (V a) (i + n / 28) : Int))] (va_up F 99 (.inl (g 0, 858, .inl (aI f)))) := by
          refine J_istore (lv' := [(7, .int (iI (dgt 28 (V a) (i + n / 28) : Int))), (0, .ref (ad 98)), (1, .int (iI (a : Int))), (2, .int (iI (n : Int))), (3, .int (iI ((n / 28 : Nat) : Int))), (4, .int (iI ((n % 28 : Nat) : Int))), (5, .int (iI (ll a))), (6, .int (iI (i : Int)))]) d_M_down_56 (by decide) rfl ?_
          have lab89 : J l rm_M_down (0, 0) "NumberTowerModel" b_M_down 9 (Option.none : Option Jvm.ClassFile.FieldType) D jCl (jTys g) A (fun _ me => me.name = y_M_down.name) (jv ad N (fun F' => ∃ hh' ll' : Nat → Int, reg (va_up br a 0) hh' ll' (va_up V a (V a / 2 ^ n)) ∧ F' = va_up (va_up F 99 (aB g hh')) 100 (aL g ll'))) ad N 0 0 89 [(0, .ref (ad 98)), (1, .int (iI (a : Int))), (2, .int (iI (n : Int))), (3, .int (iI ((n / 28 : Nat) : Int))), (4, .int (iI ((n % 28 : Nat) : Int))), (5, .int (iI (ll a))), (6, .int (iI (i : Int))), (7, .int (iI (dgt 28 (V a) (i + n / 28) : Int)))] [.int (iI (dgt 28 (V a) (i + n / 28 + 1) : Int))] (va_up F 99 (.inl (g 0, 858, .inl (aI f)))) := by
            refine J_istore (lv' := [(8, .int (iI (dgt 28 (V a) (i + n / 28 + 1) : Int))), (0, .ref (ad 98)), (1, .int (iI (a : Int))), (2, .int (iI (n : Int))), (3, .int (iI ((n / 28 : Nat) : Int))), (4, .int (iI ((n % 28 : Nat) : Int))), (5, .int (iI (ll a))), (6, .int (iI (i : Int))), (7, .int (iI (dgt 28 (V a) (i + n / 28) : Int)))]) d_M_down_89 (by decide) rfl ?_
            have hA1 := mx8 (s := 28 - n % 28) (dgt_b8 (V a) (i + n / 28 + 1)) (by omega)
            have hB1 := dx8 (s := n % 28) (dgt_b8 (V a) (i + n / 28))
            have hg0 := dgt_b8 (V a) (i + n / 28)
            have hg1 := dgt_b8 (V a) (i + n / 28 + 1)
            refine J_aload_n 1 d_M_down_91 rfl rfl ?_
            refine gf_M_7 (by omega) (by rw [va_up_ne _ _ (by decide)]; exact hO) rfl d_M_down_92 ?_
            refine J_bipush d_M_down_95 (i8_ok (by decide)) ?_
            refine J_iload_n 2 d_M_down_97 rfl rfl ?_
            refine J_imul d_M_down_98 ?_
            refine J_iload 7 d_M_down_99 rfl ?_
            refine J_iadd d_M_down_101 ?_
            refine J_iload 8 d_M_down_102 rfl ?_
            refine J_iload 5 d_M_down_104 rfl ?_
            refine J_ishr (r := (((dgt 28 (V a) (i + n / 28)) / 2 ^ (n % 28) : Nat) : Int)) d_M_down_106 (iI_shrn (Nat.lt_trans (dgt_b8 _ _) (by decide)) (n % 28) (by omega)) ?_
            refine J_iload 0 d_M_down_107 rfl ?_
            refine J_i2l d_M_down_109 ⟨by omega, by omega⟩ ?_
            refine J_bipush d_M_down_110 (i8_ok (by decide)) ?_
            refine J_iload 5 d_M_down_112 rfl ?_
            refine J_isub d_M_down_114 ?_
            refine J_topi (r := ((28 - n % 28 : Nat) : Int)) (congrArg iI (by omega)) ?_
            refine J_lshl (r := (((dgt 28 (V a) (i + n / 28 + 1)) * 2 ^ (28 - n % 28) : Nat) : Int)) d_M_down_115 (lI_shln (28 - n % 28) (by omega)) ?_
            refine J_ldc2 (z := 268435455) d_M_down_116 wd_1093 (by decide) ?_
            refine J_land (r := ((((dgt 28 (V a) (i + n / 28 + 1)) * 2 ^ (28 - n % 28)) % 268435456 : Nat) : Int)) d_M_down_119 (lI_andn 28 (by decide)) ?_
            refine J_l2i d_M_down_120 ?_
            refine J_ior (r := ((((dgt 28 (V a) (i + n / 28)) / 2 ^ (n % 28)) ||| (((dgt 28 (V a) (i + n / 28 + 1)) * 2 ^ (28 - n % 28)) % 268435456) : Nat) : Int)) d_M_down_121 (iI_orn (by omega) (by omega)) ?_
            refine J_iastore 0 rfl (by omega) (by rw [va_up_self]) (by omega) d_M_down_122 ?_
            refine J_eqF (F2 := va_up (va_up F 99 (.inl (g 0, 858, .inl (aI f)))) 99 (.inl (g 0, 858, .inl (aI (va_up f ((26 * a) + i) ((((dgt 28 (V a) (i + n / 28)) / 2 ^ (n % 28)) ||| (((dgt 28 (V a) (i + n / 28 + 1)) * 2 ^ (28 - n % 28)) % 268435456) : Nat) : Int)))))) (congrArg (fun q => va_up (va_up F 99 (.inl (g 0, 858, .inl (aI f)))) 99 (.inl (g 0, 858, .inl (aI (va_up f q ((((dgt 28 (V a) (i + n / 28)) / 2 ^ (n % 28)) ||| (((dgt 28 (V a) (i + n / 28 + 1)) * 2 ^ (28 - n % 28)) % 268435456) : Nat) : Int)))))) (by omega : ((26 * (a : Int)) + (i : Int)).toNat = (26 * a) + i)) ?_
            refine J_eqF (F2 := va_up F 99 (.inl (g 0, 858, .inl (aI (va_up f ((26 * a) + i) ((((dgt 28 (V a) (i + n / 28)) / 2 ^ (n % 28)) ||| (((dgt 28 (V a) (i + n / 28 + 1)) * 2 ^ (28 - n % 28)) % 268435456) : Nat) : Int)))))) (up_in0) ?_
            refine J_iinc (j := 7) (b := (i : Int) + 1) (lv' := [(6, .int (iI ((i : Int) + 1))), (8, .int (iI (dgt 28 (V a) (i + n / 28 + 1) : Int))), (0, .ref (ad 98)), (1, .int (iI (a : Int))), (2, .int (iI (n : Int))), (3, .int (iI ((n / 28 : Nat) : Int))), (4, .int (iI ((n % 28 : Nat) : Int))), (5, .int (iI (ll a))), (7, .int (iI (dgt 28 (V a) (i + n / 28) : Int)))]) d_M_down_123 rfl (by omega) (by decide) rfl ?_
            refine J_goto (tgt := 22) d_M_down_126 (by decide) ?_
            refine J_pick (lv' := [(0, .ref (ad 98)), (1, .int (iI (a : Int))), (2, .int (iI (n : Int))), (3, .int (iI ((n / 28 : Nat) : Int))), (4, .int (iI ((n % 28 : Nat) : Int))), (5, .int (iI (ll a))), (6, .int (iI ((i : Int) + 1)))]) [2, 3, 4, 5, 6, 7, 0] rfl ?_
            refine ih (i + 1) (va_up f ((26 * a) + i) ((((dgt 28 (V a) (i + n / 28)) / 2 ^ (n % 28)) ||| (((dgt 28 (V a) (i + n / 28 + 1)) * 2 ^ (28 - n % 28)) % 268435456) : Nat) : Int)) (by omega) ?_ (by omega)
            · rw [hf]
              refine sg_up (by omega) ?_
              rw [dg_nat8, dgt_dn8, orD (dgt_b8 _ _) (by omega)]
          refine J_iload 7 d_M_down_58 rfl ?_
          refine J_iload_n 4 d_M_down_60 rfl rfl ?_
          refine J_iadd d_M_down_61 ?_
          refine J_iconst d_M_down_62 ?_
          refine J_iadd d_M_down_63 ?_
          refine J_topi (r := (i : Int) + ((n / 28 : Nat) : Int) + 1) (congrArg iI (by omega)) ?_
          refine J_iload 6 d_M_down_64 rfl ?_
          refine J_if_icmpge (tgt := 88) d_M_down_66 (by decide) ⟨by omega, by omega⟩ ⟨by omega, by omega⟩ (fun c66 => ?_) (fun c66 => ?_)
          · refine J_iconst d_M_down_88 ?_
            refine J_pick (lv' := [(0, .ref (ad 98)), (1, .int (iI (a : Int))), (2, .int (iI (n : Int))), (3, .int (iI ((n / 28 : Nat) : Int))), (4, .int (iI ((n % 28 : Nat) : Int))), (5, .int (iI (ll a))), (6, .int (iI (i : Int))), (7, .int (iI (dgt 28 (V a) (i + n / 28) : Int)))]) [1, 2, 3, 4, 5, 6, 7, 0] rfl ?_
            refine J_topi (r := (dgt 28 (V a) (i + n / 28 + 1) : Int)) (congrArg iI (by rw [dgt_zeroL (by decide) (by omega)]; rfl)) ?_
            exact lab89  
          · refine J_aload_n 1 d_M_down_69 rfl rfl ?_
            refine gf_M_7 (by omega) (by rw [va_up_ne _ _ (by decide)]; exact hO) rfl d_M_down_70 ?_
            refine J_bipush d_M_down_73 (i8_ok (by decide)) ?_
            refine J_iload_n 2 d_M_down_75 rfl rfl ?_
            refine J_imul d_M_down_76 ?_
            refine J_iload 7 d_M_down_77 rfl ?_
            refine J_iadd d_M_down_79 ?_
            refine J_iload_n 4 d_M_down_80 rfl rfl ?_
            refine J_iadd d_M_down_81 ?_
            refine J_iconst d_M_down_82 ?_
            refine J_iadd d_M_down_83 ?_
            refine J_topi (r := ((26 * (a : Int)) + (i : Int)) + ((n / 28 : Nat) : Int) + 1) (congrArg iI (by omega)) ?_
            refine J_topi (r := (((26 * a + (i + n / 28 + 1) : Nat)) : Int)) (congrArg iI (by omega)) ?_
            refine J_iaload 0 rfl (by omega) (by rw [va_up_self]) (by omega) d_M_down_84 ?_
            refine J_topi (r := f (26 * a + (i + n / 28 + 1))) (congrArg (fun q => iI (f q)) (by omega)) ?_
            refine J_goto (tgt := 89) d_M_down_85 (by decide) ?_
            refine J_pick (lv' := [(0, .ref (ad 98)), (1, .int (iI (a : Int))), (2, .int (iI (n : Int))), (3, .int (iI ((n / 28 : Nat) : Int))), (4, .int (iI ((n % 28 : Nat) : Int))), (5, .int (iI (ll a))), (6, .int (iI (i : Int))), (7, .int (iI (dgt 28 (V a) (i + n / 28) : Int)))]) [1, 2, 3, 4, 5, 6, 7, 0] rfl ?_
            refine J_topi (r := (dgt 28 (V a) (i + n / 28 + 1) : Int)) (congrArg iI (by rw [hhi _ (by omega) (by omega)]; rfl)) ?_
            exact lab89  
        refine J_iload 6 d_M_down_29 rfl ?_
        refine J_iload_n 3 d_M_down_31 rfl rfl ?_
        refine J_iadd d_M_down_32 ?_
        refine J_iload 5 d_M_down_33 rfl ?_
        refine J_if_icmpge (tgt := 55) d_M_down_35 (by decide) ⟨by omega, by omega⟩ ⟨by omega, by omega⟩ (fun c35 => ?_) (fun c35 => ?_)
        · refine J_iconst d_M_down_55 ?_
          refine J_topi (r := (dgt 28 (V a) (i + n / 28) : Int)) (congrArg iI (by rw [dgt_zeroL (by decide) (by omega)]; rfl)) ?_
          exact lab56  
        · refine J_aload_n 0 d_M_down_38 rfl rfl ?_
          refine gf_M_7 (by omega) (by rw [va_up_ne _ _ (by decide)]; exact hO) rfl d_M_down_39 ?_
          refine J_bipush d_M_down_42 (i8_ok (by decide)) ?_
          refine J_iload_n 1 d_M_down_44 rfl rfl ?_
          refine J_imul d_M_down_45 ?_
          refine J_iload 6 d_M_down_46 rfl ?_
          refine J_iadd d_M_down_48 ?_
          refine J_iload_n 3 d_M_down_49 rfl rfl ?_
          refine J_iadd d_M_down_50 ?_
          refine J_topi (r := (((26 * a + (i + n / 28) : Nat)) : Int)) (congrArg iI (by omega)) ?_
          refine J_iaload 0 rfl (by omega) (by rw [va_up_self]) (by omega) d_M_down_51 ?_
          refine J_topi (r := f (26 * a + (i + n / 28))) (congrArg (fun q => iI (f q)) (by omega)) ?_
          refine J_goto (tgt := 56) d_M_down_52 (by decide) ?_
          refine J_topi (r := (dgt 28 (V a) (i + n / 28) : Int)) (congrArg iI (by rw [hhi _ (by omega) (by omega)]; rfl)) ?_
          exact lab56  
  refine J_eqF (F2 := va_up F 99 (.inl (g 0, 858, .inl (aI hh)))) (up_same1 hB) ?_
  exact loop22 ((lnw 28 (V a) - 0) + 1) 0 hh (by omega) (sg_0 _ _ _ _) (Nat.lt_succ_self _)
