/-! the Model: bits -/
theorem flip28 {x : Nat} (h : x < 268435456) : 268435455 - x = x ^^^ msk 28 true := by
  have e : 268435455 - x = 2 ^ 28 - (x + 1) := by omega
  rw [e]
  apply Nat.eq_of_testBit_eq
  intro j
  rw [Nat.testBit_two_pow_sub_succ h, Nat.testBit_xor, msk_bit]
  by_cases q : j < 28
  · simp [q]
  · have : x.testBit j = false := Nat.testBit_lt_two_pow (Nat.lt_of_lt_of_le h (Nat.pow_le_pow_right (n := 2) (by decide) (by omega : 28 ≤ j)))
    simp [q, this]
theorem msk_no {x : Nat} (w : Nat) : x ^^^ msk w false = x := by
  show x ^^^ 0 = x
  exact Nat.xor_zero x
theorem flip_dgt {m k : Nat} {b : Bool} (hk : k < 5) : dgt 28 (m ^^^ msk 140 b) k = dgt 28 m k ^^^ msk 28 b := by
  apply Nat.eq_of_testBit_eq
  intro j
  rw [Nat.testBit_xor, dgt_bit, dgt_bit, Nat.testBit_xor, msk_bit, msk_bit]
  by_cases q : j < 28
  · have : 28 * k + j < 140 := by omega
    simp [q, this]
  · simp [q]
theorem mix28 {op : Int} {nx ny : Bool} {X Y k : Nat} (hk : k < 5) : dgt 28 (mixZ op nx ny X Y) k = bopN op (dgt 28 (X ^^^ msk 140 nx) k) (dgt 28 (Y ^^^ msk 140 ny) k) ^^^ msk 28 (bopB op nx ny) := by
  rw [mix_dgt, flip_dgt hk, flip_dgt hk]
theorem bopB_if {op x y : Int} (hx : x = 0 ∨ x = 1) (hy : y = 0 ∨ y = 1) : bopB op (decide (x = 1)) (decide (y = 1)) = true ↔ (op = 7 ∧ x = 1 ∧ y = 1) ∨ (op = 8 ∧ (x = 1 ∨ y = 1)) ∨ (op ≠ 7 ∧ op ≠ 8 ∧ x ≠ y) := by
  unfold bopB
  rcases hx with rfl | rfl <;> rcases hy with rfl | rfl
  all_goals
    by_cases h7 : op = 7
    · subst h7; simp
    · by_cases h8 : op = 8
      · subst h8; simp
      · simp [h7, h8]
set_option maxRecDepth 100000 in
set_option maxHeartbeats 4000000 in
theorem c_M_bitsOf {l : Launch} (hfl : l.flags = flags0) {D : va_G} {g : Nat → ClassId} {ad : Nat → Nat} {N : Nat} {F : Nat → va_E} {u to x : Nat} {b : Int} {hh ll : Nat → Int} {V : Nat → Nat} {br : Nat → Nat} {vs : List Value}
    (hN : 109 ≤ N) (hO : F 98 = .inr (8, .ref (ad 99) :: .ref (ad 100) :: vs)) (hB : F 99 = aB g hh) (hL : F 100 = aL g ll) (hR : reg br hh ll V) (hu : u < 32) (hto : to < 32) (hut : u ≠ to) (hbu : br u = 0) (hb32 : br 32 = 0) (hx : V u = x) (hb : b = 0 ∨ b = 1) (hx0 : b = 1 → x ≠ 0) :
    JC l y_M_bitsOf b_M_bitsOf 6 (Option.none : Option Jvm.ClassFile.FieldType) rm_M_bitsOf (0, 0) D jCl (jTys g) ad N F [.ref (ad 98), .int (iI (u : Int)), .int (iI b), .int (iI (to : Int))] (jv ad N (fun F' => ∃ hh' ll' : Nat → Int, reg (va_up br to 7) hh' ll' (va_up (va_up V 32 1) to ((if b = 1 then x - 1 else x) ^^^ msk 140 (decide (b = 1)))) ∧ F' = va_up (va_up F 99 (aB g hh')) 100 (aL g ll'))) := by
  have hto33 : to < 33 := by omega
  refine JC.go hfl (own := "NumberTowerModel") (lv := [(0, .ref (ad 98)), (1, .int (iI (u : Int))), (2, .int (iI b)), (3, .int (iI (to : Int)))]) rfl (by decide +kernel) (Nat.le_of_ble_eq_true rfl) rfl (fun A => ?_)
  refine J_aload_n 0 d_M_bitsOf_0 rfl rfl ?_
  refine J_bipush d_M_bitsOf_1 (i8_ok (by decide)) ?_
  refine J_lconst (v := 1) d_M_bitsOf_3 rfl ?_
  refine J_callVv cw_M_82 nh_M_put pn_M_put rfl rfl (by omega) hO (As := [.int (iI 32), .long (lI 1)]) (rest := []) rfl (Nat.le_of_ble_eq_true rfl) ⟨by decide, by decide⟩ rfl ⟨by decide, by decide⟩ d_M_bitsOf_4 (k_M_put hfl (a := 32) (n := 1) (hh := hh) (ll := ll) (V := V) (br := br) (hN := hN) (hO := hO) (hB := hB) (hL := hL) (hR := hR) (ha := by omega) (hn := by decide)) (fun  F1 hq => ?_)
  obtain ⟨bh1, bl2, hR3, eF1⟩ := hq
  refine J_eqF (F2 := va_up (va_up F 99 (.inl (g 0, 858, .inl (aI bh1)))) 100 (.inl (g 0, 33, .inl (aI bl2)))) eF1 ?_
  have hR6 := (congrArg (fun q => reg q _ _ _) (up_same1 hb32).symm).mp hR3
  refine J_aload_n 0 d_M_bitsOf_7 rfl rfl ?_
  refine J_iload_n 1 d_M_bitsOf_8 rfl rfl ?_
  refine J_iload_n 3 d_M_bitsOf_9 rfl rfl ?_
  refine J_callVv cw_M_58 nh_M_copy pn_M_copy rfl rfl (by omega) (by rw [va_up_ne _ _ (by decide), va_up_ne _ _ (by decide)]; exact hO) (As := [.int (iI (u : Int)), .int (iI (to : Int))]) (rest := []) rfl (Nat.le_of_ble_eq_true rfl) ⟨by decide, by decide⟩ rfl ⟨by decide, by decide⟩ d_M_bitsOf_10 (k_M_copy hfl (a := u) (b := to) (hh := bh1) (ll := bl2) (V := va_up V 32 1) (br := br) (hN := hN) (hO := (by rw [va_up_ne _ _ (by decide), va_up_ne _ _ (by decide)]; exact hO)) (hB := (by rw [va_up_ne _ _ (by decide), va_up_self])) (hL := (by rw [va_up_self])) (hR := hR6) (ha := by omega) (hb := by omega) (hxa := ((va_up_ne _ _ (by omega)).trans hx)) (bra := hbu)) (fun  F2 hq => ?_)
  obtain ⟨bh7, bl8, hR9, eF2⟩ := hq
  refine J_eqF (F2 := va_up (va_up F 99 (.inl (g 0, 858, .inl (aI bh7)))) 100 (.inl (g 0, 33, .inl (aI bl8)))) (eF2.trans (Eq.trans (congrArg (fun q : Nat → va_E => va_up q 100 (.inl (g 0, 33, .inl (aI bl8)))) (up_in1 (by decide))) (up_in0))) ?_
  refine J_iload_n 2 d_M_bitsOf_13 rfl rfl ?_
  have lab25 : ∀ (e1 : Nat → Int) (e2 : Nat → Int) (hR2 : reg (va_up br to 0) e1 e2 (va_up (va_up V 32 1) to (if b = 1 then x - 1 else x))) , J l rm_M_bitsOf (0, 0) "NumberTowerModel" b_M_bitsOf 6 (Option.none : Option Jvm.ClassFile.FieldType) D jCl (jTys g) A (fun _ me => me.name = y_M_bitsOf.name) (jv ad N (fun F' => ∃ hh' ll' : Nat → Int, reg (va_up br to 7) hh' ll' (va_up (va_up V 32 1) to ((if b = 1 then x - 1 else x) ^^^ msk 140 (decide (b = 1)))) ∧ F' = va_up (va_up F 99 (aB g hh')) 100 (aL g ll'))) ad N 0 0 25 [(0, .ref (ad 98)), (1, .int (iI (u : Int))), (2, .int (iI b)), (3, .int (iI (to : Int)))] [] (va_up (va_up F 99 (.inl (g 0, 858, .inl (aI e1)))) 100 (.inl (g 0, 33, .inl (aI e2)))) := by
    intro e1 e2 hR2
    refine J_iconst d_M_bitsOf_25 ?_
    refine J_istore (lv' := [(4, .int (iI 0)), (0, .ref (ad 98)), (1, .int (iI (u : Int))), (2, .int (iI b)), (3, .int (iI (to : Int)))]) d_M_bitsOf_26 (by decide) rfl ?_
    refine J_pick (lv' := [(0, .ref (ad 98)), (1, .int (iI (u : Int))), (2, .int (iI b)), (3, .int (iI (to : Int))), (4, .int (iI 0))]) [1, 2, 3, 4, 0] rfl ?_
    have loop28 : ∀ (fuel : Nat) (i : Nat) (f : Nat → Int) (h1 : i ≤ 5) (hf : f = sg to 0 i (dg8 ((if b = 1 then x - 1 else x) ^^^ msk 140 (decide (b = 1)))) e1) (hfu : 5 - i < fuel), J l rm_M_bitsOf (0, 0) "NumberTowerModel" b_M_bitsOf 6 (Option.none : Option Jvm.ClassFile.FieldType) D jCl (jTys g) A (fun _ me => me.name = y_M_bitsOf.name) (jv ad N (fun F' => ∃ hh' ll' : Nat → Int, reg (va_up br to 7) hh' ll' (va_up (va_up V 32 1) to ((if b = 1 then x - 1 else x) ^^^ msk 140 (decide (b = 1)))) ∧ F' = va_up (va_up F 99 (aB g hh')) 100 (aL g ll'))) ad N 0 0 28 [(0, .ref (ad 98)), (1, .int (iI (u : Int))), (2, .int (iI b)), (3, .int (iI (to : Int))), (4, .int (iI (i : Int)))] [] (va_up (va_up F 99 (.inl (g 0, 858, .inl (aI f)))) 100 (.inl (g 0, 33, .inl (aI e2)))) := by
      intro fuel
      induction fuel with
      | zero => intro i f h1 hf hfu; exact absurd hfu (Nat.not_lt_zero _)
      | succ fuel ih =>
        intro i f h1 hf hfu
        have hllt := (reg_len hR2 hto33 (va_up_self ..))
        have hl5 : 0 ≤ e2 to ∧ e2 to ≤ 26 := by omega
        refine J_iload 4 d_M_bitsOf_28 rfl ?_
        refine J_iconst d_M_bitsOf_30 ?_
        refine J_if_icmpge (tgt := 75) d_M_bitsOf_31 (by decide) ⟨by omega, by omega⟩ ⟨by omega, by omega⟩ (fun c31 => ?_) (fun c31 => ?_)
        · refine J_aload_n 0 d_M_bitsOf_75 rfl rfl ?_
          refine gf_M_13 (by omega) (by rw [va_up_ne _ _ (by decide), va_up_ne _ _ (by decide)]; exact hO) rfl d_M_bitsOf_76 ?_
          refine J_iload_n 3 d_M_bitsOf_79 rfl rfl ?_
          refine J_iconst d_M_bitsOf_80 ?_
          refine J_iastore 0 rfl (by omega) (by rw [va_up_self]) (by omega) d_M_bitsOf_81 ?_
          refine J_eqF (F2 := va_up (va_up (va_up F 99 (.inl (g 0, 858, .inl (aI f)))) 100 (.inl (g 0, 33, .inl (aI e2)))) 100 (.inl (g 0, 33, .inl (aI (va_up e2 to 5))))) (congrArg (fun q => va_up (va_up (va_up F 99 (.inl (g 0, 858, .inl (aI f)))) 100 (.inl (g 0, 33, .inl (aI e2)))) 100 (.inl (g 0, 33, .inl (aI (va_up e2 q 5))))) (by omega : (to : Int).toNat = to)) ?_
          refine J_eqF (F2 := va_up (va_up F 99 (.inl (g 0, 858, .inl (aI f)))) 100 (.inl (g 0, 33, .inl (aI (va_up e2 to 5))))) (up_in0) ?_
          refine J_vret rfl d_M_bitsOf_82 ⟨by decide, by decide⟩ ?_
          have hfin := reg_five (a := to) (T := (if b = 1 then x - 1 else x) ^^^ msk 140 (decide (b = 1))) 5 hR2 (by decide) (hh' := f) (fun j hj => by rw [hf]; exact sg_in (by omega) (by omega)) (fun y hy => by rw [hf]; exact sg_out (by omega))
          rw [up_in0 (c := 5 + 2), up_in0] at hfin
          exact ⟨rfl, rfl, rfl, _, _, hfin, rfl⟩
        · refine J_aload_n 0 d_M_bitsOf_34 rfl rfl ?_
          refine J_iload_n 3 d_M_bitsOf_35 rfl rfl ?_
          refine J_iload 4 d_M_bitsOf_36 rfl ?_
          refine J_callVi cw_M_45 nh_M_limb pn_M_limb rfl rfl (by omega) (by rw [va_up_ne _ _ (by decide), va_up_ne _ _ (by decide)]; exact hO) (As := [.int (iI (to : Int)), .int (iI (i : Int))]) (rest := []) rfl (Nat.le_of_ble_eq_true rfl) ⟨by decide, by decide⟩ rfl ⟨by decide, by decide⟩ d_M_bitsOf_38 (c_M_limb hfl (a := to) (k := i) (hh := f) (ll := e2) hN (by rw [va_up_ne _ _ (by decide), va_up_ne _ _ (by decide)]; exact hO) (by rw [va_up_ne _ _ (by decide), va_up_self]) (by rw [va_up_self]) (by omega) (by omega)) (fun y1 F3 hq => ?_)
          obtain ⟨hy1, eF3⟩ := hq
          refine J_eqF eF3 ?_
          have hy1d : y1 = dg8 (if b = 1 then x - 1 else x) i := by
            rw [hy1, reg_limb hR2 hto33 (va_up_self ..) (f := f) (fun hj => by rw [hf]; exact sg_out (by omega)), va_up_self]
          have hyb := dgh8 (if b = 1 then x - 1 else x) i
          have hyn := dg_nat8 (if b = 1 then x - 1 else x) i
          refine J_istore (lv' := [(5, .int (iI y1)), (0, .ref (ad 98)), (1, .int (iI (u : Int))), (2, .int (iI b)), (3, .int (iI (to : Int))), (4, .int (iI (i : Int)))]) d_M_bitsOf_41 (by decide) rfl ?_
          refine J_aload_n 1 d_M_bitsOf_43 rfl rfl ?_
          refine gf_M_7 (by omega) (by rw [va_up_ne _ _ (by decide), va_up_ne _ _ (by decide)]; exact hO) rfl d_M_bitsOf_44 ?_
          refine J_bipush d_M_bitsOf_47 (i8_ok (by decide)) ?_
          refine J_iload_n 4 d_M_bitsOf_49 rfl rfl ?_
          refine J_imul d_M_bitsOf_50 ?_
          refine J_iload 5 d_M_bitsOf_51 rfl ?_
          refine J_iadd d_M_bitsOf_53 ?_
          have lab68 : J l rm_M_bitsOf (0, 0) "NumberTowerModel" b_M_bitsOf 6 (Option.none : Option Jvm.ClassFile.FieldType) D jCl (jTys g) A (fun _ me => me.name = y_M_bitsOf.name) (jv ad N (fun F' => ∃ hh' ll' : Nat → Int, reg (va_up br to 7) hh' ll' (va_up (va_up V 32 1) to ((if b = 1 then x - 1 else x) ^^^ msk 140 (decide (b = 1)))) ∧ F' = va_up (va_up F 99 (aB g hh')) 100 (aL g ll'))) ad N 0 0 68 [(0, .ref (ad 98)), (1, .int (iI (u : Int))), (2, .int (iI b)), (3, .int (iI (to : Int))), (4, .int (iI (i : Int))), (5, .int (iI y1))] [.int (iI (dg8 ((if b = 1 then x - 1 else x) ^^^ msk 140 (decide (b = 1))) i)), .int (iI (((26 * to + i : Nat)) : Int)), .ref (ad 99)] (va_up (va_up F 99 (.inl (g 0, 858, .inl (aI f)))) 100 (.inl (g 0, 33, .inl (aI e2)))) := by
            refine J_iastore 0 rfl (by omega) (by rw [va_up_ne _ _ (by decide), va_up_self]) (by omega) d_M_bitsOf_68 ?_
            refine J_eqF (F2 := va_up (va_up (va_up F 99 (.inl (g 0, 858, .inl (aI f)))) 100 (.inl (g 0, 33, .inl (aI e2)))) 99 (.inl (g 0, 858, .inl (aI (va_up f (26 * to + i) (dg8 ((if b = 1 then x - 1 else x) ^^^ msk 140 (decide (b = 1))) i)))))) (congrArg (fun q => va_up (va_up (va_up F 99 (.inl (g 0, 858, .inl (aI f)))) 100 (.inl (g 0, 33, .inl (aI e2)))) 99 (.inl (g 0, 858, .inl (aI (va_up f q (dg8 ((if b = 1 then x - 1 else x) ^^^ msk 140 (decide (b = 1))) i)))))) (by omega : (((26 * to + i : Nat)) : Int).toNat = 26 * to + i)) ?_
            refine J_eqF (F2 := va_up (va_up F 99 (.inl (g 0, 858, .inl (aI (va_up f (26 * to + i) (dg8 ((if b = 1 then x - 1 else x) ^^^ msk 140 (decide (b = 1))) i)))))) 100 (.inl (g 0, 33, .inl (aI e2)))) (up_in1 (by decide)) ?_
            refine J_iinc (j := 4) (b := (i : Int) + 1) (lv' := [(4, .int (iI ((i : Int) + 1))), (0, .ref (ad 98)), (1, .int (iI (u : Int))), (2, .int (iI b)), (3, .int (iI (to : Int))), (5, .int (iI y1))]) d_M_bitsOf_69 rfl (by omega) (by decide) rfl ?_
            refine J_goto (tgt := 28) d_M_bitsOf_72 (by decide) ?_
            refine J_pick (lv' := [(0, .ref (ad 98)), (1, .int (iI (u : Int))), (2, .int (iI b)), (3, .int (iI (to : Int))), (4, .int (iI ((i : Int) + 1)))]) [1, 2, 3, 4, 0] rfl ?_
            refine ih (i + 1) (va_up f (26 * to + i) (dg8 ((if b = 1 then x - 1 else x) ^^^ msk 140 (decide (b = 1))) i)) (by omega) ?_ (by omega)
            · rw [hf]
              refine sg_up (by omega) rfl
          refine J_iload_n 3 d_M_bitsOf_54 rfl rfl ?_
          refine J_ifeq (tgt := 66) d_M_bitsOf_55 (by decide) ⟨by omega, by omega⟩ (fun c55 => ?_) (fun c55 => ?_)
          · refine J_iload 0 d_M_bitsOf_66 rfl ?_
            refine J_pick (lv' := [(0, .ref (ad 98)), (1, .int (iI (u : Int))), (2, .int (iI b)), (3, .int (iI (to : Int))), (4, .int (iI (i : Int))), (5, .int (iI y1))]) [1, 2, 3, 4, 5, 0] rfl ?_
            refine J_topi (r := dg8 ((if b = 1 then x - 1 else x) ^^^ msk 140 (decide (b = 1))) i) (congrArg iI (by rw [hy1d, dg_nat8, dg_nat8, flip_dgt (by omega), show decide (b = 1) = false from decide_eq_false (by omega), msk_no])) ?_
            exact lab68  
          · refine J_ldc (z := 268435455) d_M_bitsOf_58 wd_1142 (by decide) ?_
            refine J_iload 0 d_M_bitsOf_60 rfl ?_
            refine J_isub d_M_bitsOf_62 ?_
            refine J_goto (tgt := 68) d_M_bitsOf_63 (by decide) ?_
            refine J_pick (lv' := [(0, .ref (ad 98)), (1, .int (iI (u : Int))), (2, .int (iI b)), (3, .int (iI (to : Int))), (4, .int (iI (i : Int))), (5, .int (iI y1))]) [1, 2, 3, 4, 5, 0] rfl ?_
            refine J_topi (r := dg8 ((if b = 1 then x - 1 else x) ^^^ msk 140 (decide (b = 1))) i) (congrArg iI (by rw [hy1d, dg_nat8, dg_nat8, flip_dgt (by omega), show decide (b = 1) = true from decide_eq_true (by omega), ← flip28 (dgt_b8 _ _)]; have := dgt_b8 (if b = 1 then x - 1 else x) i; omega)) ?_
            exact lab68  
    exact loop28 ((5 - 0) + 1) 0 e1 (by omega) (sg_0 _ _ _ _) (Nat.lt_succ_self _)
  refine J_ifeq (tgt := 25) d_M_bitsOf_14 (by decide) ⟨by omega, by omega⟩ (fun c14 => ?_) (fun c14 => ?_)
  · have hR13 := (congrArg (fun qq : Nat => reg _ _ _ (va_up (va_up V 32 1) to qq)) (show (x) = (if b = 1 then x - 1 else x) from (by first | rw [if_pos (by omega)] | rw [if_neg (by omega)]))).mp hR9
    exact lab25 bh7 bl8 hR13
  · refine J_aload_n 0 d_M_bitsOf_17 rfl rfl ?_
    refine J_iload_n 1 d_M_bitsOf_18 rfl rfl ?_
    refine J_bipush d_M_bitsOf_19 (i8_ok (by decide)) ?_
    refine J_iload_n 3 d_M_bitsOf_21 rfl rfl ?_
    refine J_callVv cw_M_158 nh_M_less pn_M_less rfl rfl (by omega) (by rw [va_up_ne _ _ (by decide), va_up_ne _ _ (by decide)]; exact hO) (As := [.int (iI (u : Int)), .int (iI 32), .int (iI (to : Int))]) (rest := []) rfl (Nat.le_of_ble_eq_true rfl) ⟨by decide, by decide⟩ rfl ⟨by decide, by decide⟩ d_M_bitsOf_22 (k_M_less hfl (a := u) (b := 32) (t := to) (r := (x - 1)) (hh := bh7) (ll := bl8) (V := va_up (va_up V 32 1) to x) (br := va_up br to 0) (hN := hN) (hO := (by rw [va_up_ne _ _ (by decide), va_up_ne _ _ (by decide)]; exact hO)) (hB := (by rw [va_up_ne _ _ (by decide), va_up_self])) (hL := (by rw [va_up_self])) (hR := hR9) (ha := by omega) (hb := by omega) (ht := by omega) (hxa := ((va_up_ne _ _ (by omega)).trans ((va_up_ne _ _ (by omega)).trans hx))) (bra := ((va_up_ne _ _ (by omega)).trans hbu)) (hxb := ((va_up_ne _ _ (by omega)).trans (va_up_self ..))) (brb := ((va_up_ne _ _ (by omega)).trans hb32)) (hr := by have := hx0 (by omega); omega)) (fun  F4 hq => ?_)
    obtain ⟨bh14, bl15, hR16, eF4⟩ := hq
    refine J_eqF (F2 := va_up (va_up F 99 (.inl (g 0, 858, .inl (aI bh14)))) 100 (.inl (g 0, 33, .inl (aI bl15)))) (eF4.trans (Eq.trans (congrArg (fun q : Nat → va_E => va_up q 100 (.inl (g 0, 33, .inl (aI bl15)))) (up_in1 (by decide))) (up_in0))) ?_
    have hR19 := (congrArg (fun q => reg q _ _ _) up_in0).mp hR16
    have hR20 := (congrArg (fun qq : Nat → Nat => reg _ _ _ (qq)) (up_in0)).mp hR19
    have hR21 := (congrArg (fun qq : Nat => reg _ _ _ (va_up (va_up V 32 1) to qq)) (show ((x - 1)) = (if b = 1 then x - 1 else x) from (by first | rw [if_pos (by omega)] | rw [if_neg (by omega)]))).mp hR20
    exact lab25 bh14 bl15 hR21
set_option maxRecDepth 100000 in
set_option maxHeartbeats 4000000 in
theorem c_M_mixed {l : Launch} (hfl : l.flags = flags0) {D : va_G} {g : Nat → ClassId} {ad : Nat → Nat} {N : Nat} {F : Nat → va_E} {hh ll f : Nat → Int} {v : UInt64} {V : Nat → Nat} {br : Nat → Nat} {a c : Nat} {xs ys op : Int}
    (hN : 109 ≤ N) (hO : F 98 = oM ad f v) (hB : F 99 = aB g hh) (hL : F 100 = aL g ll) (hR : reg br hh ll V) (hzz : okB br) (h16 : V 16 = a) (h18 : V 18 = c) (h5 : f 5 = xs) (h6 : f 6 = ys) (hxs : xs = 0 ∨ xs = 1) (hys : ys = 0 ∨ ys = 1) (hop : 7 ≤ op ∧ op ≤ 9) (ha0 : xs = 1 → a ≠ 0) (hc0 : ys = 1 → c ≠ 0) (hab : a < 2 ^ 120 ∧ c < 2 ^ 120) (hb22 : br 22 = 1) (hb23 : br 23 = 1) :
    JC l y_M_mixed b_M_mixed 6 (Option.none : Option Jvm.ClassFile.FieldType) rm_M_mixed (0, 0) D jCl (jTys g) ad N F [.ref (ad 98), .int (iI op)] (jv ad N (fun F' => ∃ (hh' ll' : Nat → Int) (W : Nat → Nat), reg br hh' ll' W ∧ (∀ k, k < 16 → W k = V k) ∧ W 20 = (if bopB op (decide (xs = 1)) (decide (ys = 1)) = true then mixZ op (decide (xs = 1)) (decide (ys = 1)) (if xs = 1 then a - 1 else a) (if ys = 1 then c - 1 else c) + 1 else mixZ op (decide (xs = 1)) (decide (ys = 1)) (if xs = 1 then a - 1 else a) (if ys = 1 then c - 1 else c)) ∧ W 21 = 1 ∧ F' = va_up (va_up (va_up F 98 (oM ad (va_up f 7 (if bopB op (decide (xs = 1)) (decide (ys = 1)) = true then 1 else 0)) v)) 99 (aB g hh')) 100 (aL g ll'))) := by
  have hbo := bopB_if (op := op) hxs hys
  have hMX : (if xs = 1 then a - 1 else a) < 2 ^ 120 := by split <;> omega
  have hMY : (if ys = 1 then c - 1 else c) < 2 ^ 120 := by split <;> omega
  have hZ := mixZ_lt (op := op) (nx := decide (xs = 1)) (ny := decide (ys = 1)) hMX hMY
  have hZl : lnw 28 (mixZ op (decide (xs = 1)) (decide (ys = 1)) (if xs = 1 then a - 1 else a) (if ys = 1 then c - 1 else c)) ≤ 5 := (lnw_le (by decide)).mpr (Nat.lt_trans hZ (by decide))
  have hbT1 : ∀ k, dgt 28 ((if xs = 1 then a - 1 else a) ^^^ msk 140 (decide (xs = 1))) k < 268435456 := fun k => dgt_b8 _ _
  have hbT2 : ∀ k, dgt 28 ((if ys = 1 then c - 1 else c) ^^^ msk 140 (decide (ys = 1))) k < 268435456 := fun k => dgt_b8 _ _
  refine JC.go hfl (own := "NumberTowerModel") (lv := [(0, .ref (ad 98)), (1, .int (iI op))]) rfl (by decide +kernel) (Nat.le_of_ble_eq_true rfl) rfl (fun A => ?_)
  refine J_aload_n 0 d_M_mixed_0 rfl rfl ?_
  refine J_bipush d_M_mixed_1 (i8_ok (by decide)) ?_
  refine J_aload_n 0 d_M_mixed_3 rfl rfl ?_
  refine gf_M_149 (by omega) hO rfl d_M_mixed_4 ?_
  refine J_topi (r := xs) (congrArg iI h5) ?_
  refine J_bipush d_M_mixed_7 (i8_ok (by decide)) ?_
  refine J_callVv cw_M_204 nh_M_bitsOf pn_M_bitsOf rfl rfl (by omega) hO (As := [.int (iI 16), .int (iI xs), .int (iI 22)]) (rest := []) rfl (Nat.le_of_ble_eq_true rfl) ⟨by decide, by decide⟩ rfl ⟨by decide, by decide⟩ d_M_mixed_9 (c_M_bitsOf hfl (u := 16) (to := 22) (x := a) (b := xs) (hh := hh) (ll := ll) (V := V) (br := br) hN hO hB hL hR (by omega) (by omega) (by omega) (hzz.2 _ (by decide) (by decide)) (hzz.2 _ (by decide) (by decide)) h16 hxs ha0) (fun  F1 hq => ?_)
  obtain ⟨bh22, bl23, hR24, eF1⟩ := hq
  refine J_eqF (F2 := va_up (va_up F 99 (.inl (g 0, 858, .inl (aI bh22)))) 100 (.inl (g 0, 33, .inl (aI bl23)))) eF1 ?_
  refine J_aload_n 0 d_M_mixed_12 rfl rfl ?_
  refine J_bipush d_M_mixed_13 (i8_ok (by decide)) ?_
  refine J_aload_n 0 d_M_mixed_15 rfl rfl ?_
  refine gf_M_152 (by omega) (by rw [va_up_ne _ _ (by decide), va_up_ne _ _ (by decide)]; exact hO) rfl d_M_mixed_16 ?_
  refine J_topi (r := ys) (congrArg iI h6) ?_
  refine J_bipush d_M_mixed_19 (i8_ok (by decide)) ?_
  refine J_callVv cw_M_204 nh_M_bitsOf pn_M_bitsOf rfl rfl (by omega) (by rw [va_up_ne _ _ (by decide), va_up_ne _ _ (by decide)]; exact hO) (As := [.int (iI 18), .int (iI ys), .int (iI 23)]) (rest := []) rfl (Nat.le_of_ble_eq_true rfl) ⟨by decide, by decide⟩ rfl ⟨by decide, by decide⟩ d_M_mixed_21 (c_M_bitsOf hfl (u := 18) (to := 23) (x := c) (b := ys) (hh := bh22) (ll := bl23) (V := va_up (va_up V 32 1) 22 ((if xs = 1 then a - 1 else a) ^^^ msk 140 (decide (xs = 1)))) (br := va_up br 22 7) hN (by rw [va_up_ne _ _ (by decide), va_up_ne _ _ (by decide)]; exact hO) (by rw [va_up_ne _ _ (by decide), va_up_self]) (by rw [va_up_self]) hR24 (by omega) (by omega) (by omega) ((va_up_ne _ _ (by decide)).trans (hzz.2 _ (by decide) (by decide))) ((va_up_ne _ _ (by decide)).trans (hzz.2 _ (by decide) (by decide))) ((va_up_ne _ _ (by decide)).trans ((va_up_ne _ _ (by decide)).trans h18)) hys hc0) (fun  F2 hq => ?_)
  obtain ⟨bh25, bl26, hR27, eF2⟩ := hq
  refine J_eqF (F2 := va_up (va_up F 99 (.inl (g 0, 858, .inl (aI bh25)))) 100 (.inl (g 0, 33, .inl (aI bl26)))) (eF2.trans (Eq.trans (congrArg (fun q : Nat → va_E => va_up q 100 (.inl (g 0, 33, .inl (aI bl26)))) (up_in1 (by decide))) (up_in0))) ?_
  have hR28 := (congrArg (fun qq : Nat → Nat => reg _ _ _ (va_up (qq) 23 ((if ys = 1 then c - 1 else c) ^^^ msk 140 (decide (ys = 1))))) (up_in1 (by decide))).mp hR27
  have lab97 : ∀ (r7 : Int) (hr7 : r7 = if bopB op (decide (xs = 1)) (decide (ys = 1)) = true then 1 else 0) , J l rm_M_mixed (0, 0) "NumberTowerModel" b_M_mixed 6 (Option.none : Option Jvm.ClassFile.FieldType) D jCl (jTys g) A (fun _ me => me.name = y_M_mixed.name) (jv ad N (fun F' => ∃ (hh' ll' : Nat → Int) (W : Nat → Nat), reg br hh' ll' W ∧ (∀ k, k < 16 → W k = V k) ∧ W 20 = (if bopB op (decide (xs = 1)) (decide (ys = 1)) = true then mixZ op (decide (xs = 1)) (decide (ys = 1)) (if xs = 1 then a - 1 else a) (if ys = 1 then c - 1 else c) + 1 else mixZ op (decide (xs = 1)) (decide (ys = 1)) (if xs = 1 then a - 1 else a) (if ys = 1 then c - 1 else c)) ∧ W 21 = 1 ∧ F' = va_up (va_up (va_up F 98 (oM ad (va_up f 7 (if bopB op (decide (xs = 1)) (decide (ys = 1)) = true then 1 else 0)) v)) 99 (aB g hh')) 100 (aL g ll'))) ad N 0 0 97 [(0, .ref (ad 98)), (1, .int (iI op))] [.int (iI r7), .ref (ad 98)] (va_up (va_up F 99 (.inl (g 0, 858, .inl (aI bh25)))) 100 (.inl (g 0, 33, .inl (aI bl26)))) := by
    intro r7 hr7
    refine pf_M_129 (by omega) (by rw [va_up_ne _ _ (by decide), va_up_ne _ _ (by decide)]; exact hO) (Nat.le_of_ble_eq_true rfl) (nb01 (by rw [hr7]; split <;> omega)) d_M_mixed_97 ?_
    refine J_eqF (F2 := va_up (va_up (va_up F 99 (.inl (g 0, 858, .inl (aI bh25)))) 100 (.inl (g 0, 33, .inl (aI bl26)))) 98 (oM ad (va_up f 7 r7) v)) rfl ?_
    obtain ⟨q1, q2, q3⟩ := (hR28 22 (by decide)).2 5 rfl
    obtain ⟨q4, q5, q6⟩ := (hR28 23 (by decide)).2 5 rfl
    have r3 : ∀ j, j < 5 → bh25 (572 + j) = dg8 ((if xs = 1 then a - 1 else a) ^^^ msk 140 (decide (xs = 1))) j := fun j hj => (q3 j hj).trans (by rw [show (va_up (va_up (va_up V 32 1) 22 ((if xs = 1 then a - 1 else a) ^^^ msk 140 (decide (xs = 1)))) 23 ((if ys = 1 then c - 1 else c) ^^^ msk 140 (decide (ys = 1)))) 22 = (if xs = 1 then a - 1 else a) ^^^ msk 140 (decide (xs = 1)) from ((va_up_ne _ _ (by decide)).trans (va_up_self ..))])
    have r6 : ∀ j, j < 5 → bh25 (598 + j) = dg8 ((if ys = 1 then c - 1 else c) ^^^ msk 140 (decide (ys = 1))) j := fun j hj => (q6 j hj).trans (by rw [show (va_up (va_up (va_up V 32 1) 22 ((if xs = 1 then a - 1 else a) ^^^ msk 140 (decide (xs = 1)))) 23 ((if ys = 1 then c - 1 else c) ^^^ msk 140 (decide (ys = 1)))) 23 = (if ys = 1 then c - 1 else c) ^^^ msk 140 (decide (ys = 1)) from (va_up_self ..)])
    obtain ⟨H4, hH4⟩ : ∃ h : Nat → Int, h = bh25 := ⟨_, rfl⟩
    rw [← hH4] at r3 r6
    refine J_eqF (F2 := va_up (va_up (va_up F 99 (.inl (g 0, 858, .inl (aI H4)))) 100 (.inl (g 0, 33, .inl (aI bl26)))) 98 (oM ad (va_up f 7 r7) v)) (congrArg (fun qq => va_up (va_up (va_up F 99 (.inl (g 0, 858, .inl (aI qq)))) 100 (.inl (g 0, 33, .inl (aI bl26)))) 98 (oM ad (va_up f 7 r7) v)) hH4.symm) ?_
    refine J_iconst d_M_mixed_100 ?_
    refine J_istore_n (lv' := [(2, .int (iI 0)), (0, .ref (ad 98)), (1, .int (iI op))]) d_M_mixed_101 rfl (by decide) rfl ?_
    refine J_pick (lv' := [(0, .ref (ad 98)), (1, .int (iI op)), (2, .int (iI 0))]) [1, 2, 0] rfl ?_
    have loop102 : ∀ (fuel : Nat) (k : Nat) (f1 : Nat → Int) (h1 : k ≤ 5) (hf : f1 = sg 20 0 k (dg8 (mixZ op (decide (xs = 1)) (decide (ys = 1)) (if xs = 1 then a - 1 else a) (if ys = 1 then c - 1 else c))) H4) (hfu : 5 - k < fuel), J l rm_M_mixed (0, 0) "NumberTowerModel" b_M_mixed 6 (Option.none : Option Jvm.ClassFile.FieldType) D jCl (jTys g) A (fun _ me => me.name = y_M_mixed.name) (jv ad N (fun F' => ∃ (hh' ll' : Nat → Int) (W : Nat → Nat), reg br hh' ll' W ∧ (∀ k, k < 16 → W k = V k) ∧ W 20 = (if bopB op (decide (xs = 1)) (decide (ys = 1)) = true then mixZ op (decide (xs = 1)) (decide (ys = 1)) (if xs = 1 then a - 1 else a) (if ys = 1 then c - 1 else c) + 1 else mixZ op (decide (xs = 1)) (decide (ys = 1)) (if xs = 1 then a - 1 else a) (if ys = 1 then c - 1 else c)) ∧ W 21 = 1 ∧ F' = va_up (va_up (va_up F 98 (oM ad (va_up f 7 (if bopB op (decide (xs = 1)) (decide (ys = 1)) = true then 1 else 0)) v)) 99 (aB g hh')) 100 (aL g ll'))) ad N 0 0 102 [(0, .ref (ad 98)), (1, .int (iI op)), (2, .int (iI (k : Int)))] [] (va_up (va_up (va_up F 99 (.inl (g 0, 858, .inl (aI f1)))) 100 (.inl (g 0, 33, .inl (aI bl26)))) 98 (oM ad (va_up f 7 r7) v)) := by
      intro fuel
      induction fuel with
      | zero => intro k f1 h1 hf hfu; exact absurd hfu (Nat.not_lt_zero _)
      | succ fuel ih =>
        intro k f1 h1 hf hfu
        have hd1 := hbT1 k
        have hd2 := hbT2 k
        have hbv := bopN_lt (w := 28) (op := op) hd1 hd2
        have hr01 : (r7 = 1 ∧ bopB op (decide (xs = 1)) (decide (ys = 1)) = true) ∨ (r7 = 0 ∧ ¬ bopB op (decide (xs = 1)) (decide (ys = 1)) = true) := by
          by_cases w : bopB op (decide (xs = 1)) (decide (ys = 1)) = true
          · exact Or.inl ⟨by rw [hr7, if_pos w], w⟩
          · exact Or.inr ⟨by rw [hr7, if_neg w], w⟩
        have hbo2 : r7 = 0 → bopB op (decide (xs = 1)) (decide (ys = 1)) = false := fun e => by
          rcases hr01 with ⟨w1, w2⟩ | ⟨w1, w2⟩
          · exact absurd e (by omega)
          · exact Bool.eq_false_iff.mpr w2
        refine J_iload_n 2 d_M_mixed_102 rfl rfl ?_
        refine J_iconst d_M_mixed_103 ?_
        refine J_if_icmpge (tgt := 195) d_M_mixed_104 (by decide) ⟨by omega, by omega⟩ ⟨by omega, by omega⟩ (fun c104 => ?_) (fun c104 => ?_)
        · refine J_aload_n 0 d_M_mixed_195 rfl rfl ?_
          refine gf_M_13 (by omega) (by rw [va_up_self]) rfl d_M_mixed_196 ?_
          refine J_bipush d_M_mixed_199 (i8_ok (by decide)) ?_
          refine J_iconst d_M_mixed_201 ?_
          refine J_iastore 0 rfl (by omega) (by rw [va_up_ne _ _ (by decide), va_up_self]) (by omega) d_M_mixed_202 ?_
          refine J_eqF (F2 := va_up (va_up (va_up (va_up F 99 (.inl (g 0, 858, .inl (aI f1)))) 100 (.inl (g 0, 33, .inl (aI bl26)))) 98 (oM ad (va_up f 7 r7) v)) 100 (.inl (g 0, 33, .inl (aI (va_up bl26 20 5))))) (congrArg (fun q => va_up (va_up (va_up (va_up F 99 (.inl (g 0, 858, .inl (aI f1)))) 100 (.inl (g 0, 33, .inl (aI bl26)))) 98 (oM ad (va_up f 7 r7) v)) 100 (.inl (g 0, 33, .inl (aI (va_up bl26 q 5))))) (by omega : (20 : Int).toNat = 20)) ?_
          refine J_eqF (F2 := va_up (va_up (va_up F 99 (.inl (g 0, 858, .inl (aI f1)))) 100 (.inl (g 0, 33, .inl (aI (va_up bl26 20 5))))) 98 (oM ad (va_up f 7 r7) v)) (up_in1 (by decide)) ?_
          refine J_aload_n 0 d_M_mixed_203 rfl rfl ?_
          refine J_bipush d_M_mixed_204 (i8_ok (by decide)) ?_
          obtain rfl : k = 5 := by omega
          refine J_callVv cw_M_50 nh_M_trim pn_M_trim rfl rfl (by omega) (by rw [va_up_self]) (As := [.int (iI 20)]) (rest := []) rfl (Nat.le_of_ble_eq_true rfl) ⟨by decide, by decide⟩ rfl ⟨by decide, by decide⟩ d_M_mixed_206 (c_M_trim hfl (a := 20) (T := (mixZ op (decide (xs = 1)) (decide (ys = 1)) (if xs = 1 then a - 1 else a) (if ys = 1 then c - 1 else c))) (c := 5) (hh := f1) (ll := (va_up bl26 20 5)) hN (by rw [va_up_self]) (by rw [va_up_ne _ _ (by decide), va_up_ne _ _ (by decide), va_up_self]) (by rw [va_up_ne _ _ (by decide), va_up_self]) (by omega) ⟨va_up_self .., by omega, hZl⟩ (fun j hj => by rw [hf]; exact sg_in (by omega) (by omega))) (fun  F3 hq => ?_)
          have eF3 := hq
          refine J_eqF (F2 := va_up (va_up (va_up F 99 (.inl (g 0, 858, .inl (aI f1)))) 100 (.inl (g 0, 33, .inl (aI (va_up (va_up bl26 20 5) 20 (lnw 28 (mixZ op (decide (xs = 1)) (decide (ys = 1)) (if xs = 1 then a - 1 else a) (if ys = 1 then c - 1 else c)) : Int)))))) 98 (oM ad (va_up f 7 r7) v)) (eF3.trans (up_in1 (by decide))) ?_
          refine J_eqF (F2 := va_up (va_up (va_up F 99 (.inl (g 0, 858, .inl (aI f1)))) 100 (.inl (g 0, 33, .inl (aI (va_up bl26 20 (lnw 28 (mixZ op (decide (xs = 1)) (decide (ys = 1)) (if xs = 1 then a - 1 else a) (if ys = 1 then c - 1 else c)) : Int)))))) 98 (oM ad (va_up f 7 r7) v)) (congrArg (fun qq => va_up (va_up (va_up F 99 (.inl (g 0, 858, .inl (aI f1)))) 100 (.inl (g 0, 33, .inl (aI qq)))) 98 (oM ad (va_up f 7 r7) v)) up_in0) ?_
          have hR29 := reg_w7 hb22 (reg_w7 (i := 23) ((va_up_ne _ _ (by decide)).trans hb23) ((congrArg (fun q => reg q _ _ _) (up_same1 (i := 20) (a := 0) ((va_up_ne _ _ (by decide)).trans ((va_up_ne _ _ (by decide)).trans (hzz.2 _ (by decide) (by decide))))).symm).mp (reg_any (a := 20) (T := mixZ op (decide (xs = 1)) (decide (ys = 1)) (if xs = 1 then a - 1 else a) (if ys = 1 then c - 1 else c)) hR28 (by omega) (dg8 (mixZ op (decide (xs = 1)) (decide (ys = 1)) (if xs = 1 then a - 1 else a) (if ys = 1 then c - 1 else c))) 5 ⟨by decide, hZl⟩ (fun j hj => rfl) (hf.trans (congrArg (sg 20 0 5 (dg8 (mixZ op (decide (xs = 1)) (decide (ys = 1)) (if xs = 1 then a - 1 else a) (if ys = 1 then c - 1 else c)))) hH4)))))
          refine J_aload_n 0 d_M_mixed_209 rfl rfl ?_
          refine gf_M_129 (by omega) (by rw [va_up_self]) rfl d_M_mixed_210 ?_
          refine J_topi (r := r7) (congrArg iI (va_up_self ..)) ?_
          refine J_ifeq (tgt := 222) d_M_mixed_213 (by decide) ⟨by omega, by omega⟩ (fun c213 => ?_) (fun c213 => ?_)
          · refine J_aload_n 0 d_M_mixed_222 rfl rfl ?_
            refine J_bipush d_M_mixed_223 (i8_ok (by decide)) ?_
            refine J_lconst (v := 1) d_M_mixed_225 rfl ?_
            refine J_callVv cw_M_82 nh_M_put pn_M_put rfl rfl (by omega) (by rw [va_up_self]) (As := [.int (iI 21), .long (lI 1)]) (rest := []) rfl (Nat.le_of_ble_eq_true rfl) ⟨by decide, by decide⟩ rfl ⟨by decide, by decide⟩ d_M_mixed_226 (k_M_put hfl (a := 21) (n := 1) (hh := f1) (ll := va_up bl26 20 (lnw 28 (mixZ op (decide (xs = 1)) (decide (ys = 1)) (if xs = 1 then a - 1 else a) (if ys = 1 then c - 1 else c)) : Int)) (V := va_up (va_up (va_up (va_up V 32 1) 22 ((if xs = 1 then a - 1 else a) ^^^ msk 140 (decide (xs = 1)))) 23 ((if ys = 1 then c - 1 else c) ^^^ msk 140 (decide (ys = 1)))) 20 (mixZ op (decide (xs = 1)) (decide (ys = 1)) (if xs = 1 then a - 1 else a) (if ys = 1 then c - 1 else c))) (br := br) (hN := hN) (hO := (by rw [va_up_self])) (hB := (by rw [va_up_ne _ _ (by decide), va_up_ne _ _ (by decide), va_up_self])) (hL := (by rw [va_up_ne _ _ (by decide), va_up_self])) (hR := hR29) (ha := by omega) (hn := by decide)) (fun  F4 hq => ?_)
            obtain ⟨bh30, bl31, hR32, eF4⟩ := hq
            refine J_eqF (F2 := va_up (va_up (va_up F 99 (.inl (g 0, 858, .inl (aI bh30)))) 100 (.inl (g 0, 33, .inl (aI bl31)))) 98 (oM ad (va_up f 7 r7) v)) (eF4.trans (Eq.trans (congrArg (fun q : Nat → va_E => va_up q 100 (.inl (g 0, 33, .inl (aI bl31)))) (up_in2 (by decide) (by decide))) (up_in1 (by decide)))) ?_
            have hR35 := reg_w1 (hzz.1 _) hR32
            refine J_eqF (F2 := va_up (va_up (va_up F 98 (oM ad (va_up f 7 r7) v)) 99 (.inl (g 0, 858, .inl (aI bh30)))) 100 (.inl (g 0, 33, .inl (aI bl31)))) (Eq.trans (up_cm (by decide)) (congrArg (fun qq : Nat → va_E => va_up qq 100 (.inl (g 0, 33, .inl (aI bl31)))) (up_cm (by decide)))) ?_
            refine J_vret rfl d_M_mixed_229 ⟨by decide, by decide⟩ ?_
            exact ⟨rfl, rfl, rfl, _, _, _, hR35, fun j hj => (show (va_up (va_up (va_up (va_up (va_up V 32 1) 22 ((if xs = 1 then a - 1 else a) ^^^ msk 140 (decide (xs = 1)))) 23 ((if ys = 1 then c - 1 else c) ^^^ msk 140 (decide (ys = 1)))) 20 (mixZ op (decide (xs = 1)) (decide (ys = 1)) (if xs = 1 then a - 1 else a) (if ys = 1 then c - 1 else c))) 21 1) j = V j from by rw [va_up_ne _ _ (by omega), va_up_ne _ _ (by omega), va_up_ne _ _ (by omega), va_up_ne _ _ (by omega), va_up_ne _ _ (by omega)]), (((va_up_ne _ _ (by decide)).trans (va_up_self ..))).trans (by rw [if_neg (c := bopB op (decide (xs = 1)) (decide (ys = 1)) = true) (by rcases hr01 with w | w; omega; exact w.2)]), (va_up_self ..), by rw [hr7]⟩
          · refine J_aload_n 0 d_M_mixed_216 rfl rfl ?_
            refine J_bipush d_M_mixed_217 (i8_ok (by decide)) ?_
            refine J_callVv cw_M_161 nh_M_grow1 pn_M_grow1 rfl rfl (by omega) (by rw [va_up_self]) (As := [.int (iI 20)]) (rest := []) rfl (Nat.le_of_ble_eq_true rfl) ⟨by decide, by decide⟩ rfl ⟨by decide, by decide⟩ d_M_mixed_219 (c_M_grow1 hfl (a := 20) (x := mixZ op (decide (xs = 1)) (decide (ys = 1)) (if xs = 1 then a - 1 else a) (if ys = 1 then c - 1 else c)) (hh := f1) (ll := va_up bl26 20 (lnw 28 (mixZ op (decide (xs = 1)) (decide (ys = 1)) (if xs = 1 then a - 1 else a) (if ys = 1 then c - 1 else c)) : Int)) (f := va_up f 7 r7) (v := v) (V := va_up (va_up (va_up (va_up V 32 1) 22 ((if xs = 1 then a - 1 else a) ^^^ msk 140 (decide (xs = 1)))) 23 ((if ys = 1 then c - 1 else c) ^^^ msk 140 (decide (ys = 1)))) 20 (mixZ op (decide (xs = 1)) (decide (ys = 1)) (if xs = 1 then a - 1 else a) (if ys = 1 then c - 1 else c))) (br := br) hN (by rw [va_up_self]) (by rw [va_up_ne _ _ (by decide), va_up_ne _ _ (by decide), va_up_self]) (by rw [va_up_ne _ _ (by decide), va_up_self]) hR29 hzz (by omega) (hzz.2 20 (by decide) (by decide)) ((va_up_self ..)) (by omega)) (fun  F5 hq => ?_)
            obtain ⟨bh36, bl37, hR38, eF5⟩ := hq
            refine J_eqF (F2 := va_up (va_up (va_up F 99 (.inl (g 0, 858, .inl (aI bh36)))) 100 (.inl (g 0, 33, .inl (aI bl37)))) 98 (oM ad (va_up f 7 r7) v)) (eF5.trans (Eq.trans (congrArg (fun q : Nat → va_E => va_up q 100 (.inl (g 0, 33, .inl (aI bl37)))) (up_in2 (by decide) (by decide))) (up_in1 (by decide)))) ?_
            have hR39 := (congrArg (fun qq : Nat → Nat => reg _ _ _ (va_up (qq) 20 ((mixZ op (decide (xs = 1)) (decide (ys = 1)) (if xs = 1 then a - 1 else a) (if ys = 1 then c - 1 else c)) + 1))) (up_in3 (by decide) (by decide) (by decide))).mp hR38
            have hR40 := (congrArg (fun qq : Nat → Nat => reg _ _ _ (qq)) (up_in0)).mp hR39
            refine J_aload_n 0 d_M_mixed_222 rfl rfl ?_
            refine J_bipush d_M_mixed_223 (i8_ok (by decide)) ?_
            refine J_lconst (v := 1) d_M_mixed_225 rfl ?_
            refine J_callVv cw_M_82 nh_M_put pn_M_put rfl rfl (by omega) (by rw [va_up_self]) (As := [.int (iI 21), .long (lI 1)]) (rest := []) rfl (Nat.le_of_ble_eq_true rfl) ⟨by decide, by decide⟩ rfl ⟨by decide, by decide⟩ d_M_mixed_226 (k_M_put hfl (a := 21) (n := 1) (hh := bh36) (ll := bl37) (V := va_up (va_up (va_up (va_up V 32 1) 22 ((if xs = 1 then a - 1 else a) ^^^ msk 140 (decide (xs = 1)))) 23 ((if ys = 1 then c - 1 else c) ^^^ msk 140 (decide (ys = 1)))) 20 ((mixZ op (decide (xs = 1)) (decide (ys = 1)) (if xs = 1 then a - 1 else a) (if ys = 1 then c - 1 else c)) + 1)) (br := br) (hN := hN) (hO := (by rw [va_up_self])) (hB := (by rw [va_up_ne _ _ (by decide), va_up_ne _ _ (by decide), va_up_self])) (hL := (by rw [va_up_ne _ _ (by decide), va_up_self])) (hR := hR40) (ha := by omega) (hn := by decide)) (fun  F6 hq => ?_)
            obtain ⟨bh41, bl42, hR43, eF6⟩ := hq
            refine J_eqF (F2 := va_up (va_up (va_up F 99 (.inl (g 0, 858, .inl (aI bh41)))) 100 (.inl (g 0, 33, .inl (aI bl42)))) 98 (oM ad (va_up f 7 r7) v)) (eF6.trans (Eq.trans (congrArg (fun q : Nat → va_E => va_up q 100 (.inl (g 0, 33, .inl (aI bl42)))) (up_in2 (by decide) (by decide))) (up_in1 (by decide)))) ?_
            have hR46 := reg_w1 (hzz.1 _) hR43
            refine J_eqF (F2 := va_up (va_up (va_up F 98 (oM ad (va_up f 7 r7) v)) 99 (.inl (g 0, 858, .inl (aI bh41)))) 100 (.inl (g 0, 33, .inl (aI bl42)))) (Eq.trans (up_cm (by decide)) (congrArg (fun qq : Nat → va_E => va_up qq 100 (.inl (g 0, 33, .inl (aI bl42)))) (up_cm (by decide)))) ?_
            refine J_vret rfl d_M_mixed_229 ⟨by decide, by decide⟩ ?_
            exact ⟨rfl, rfl, rfl, _, _, _, hR46, fun j hj => (show (va_up (va_up (va_up (va_up (va_up V 32 1) 22 ((if xs = 1 then a - 1 else a) ^^^ msk 140 (decide (xs = 1)))) 23 ((if ys = 1 then c - 1 else c) ^^^ msk 140 (decide (ys = 1)))) 20 ((mixZ op (decide (xs = 1)) (decide (ys = 1)) (if xs = 1 then a - 1 else a) (if ys = 1 then c - 1 else c)) + 1)) 21 1) j = V j from by rw [va_up_ne _ _ (by omega), va_up_ne _ _ (by omega), va_up_ne _ _ (by omega), va_up_ne _ _ (by omega), va_up_ne _ _ (by omega)]), (((va_up_ne _ _ (by decide)).trans (va_up_self ..))).trans (by rw [if_pos (c := bopB op (decide (xs = 1)) (decide (ys = 1)) = true) (by rcases hr01 with w | w; exact w.2; omega)]), (va_up_self ..), by rw [hr7]⟩
        · refine J_aload_n 0 d_M_mixed_107 rfl rfl ?_
          refine gf_M_7 (by omega) (by rw [va_up_self]) rfl d_M_mixed_108 ?_
          refine J_sipush d_M_mixed_111 (i16_ok (by decide)) ?_
          refine J_iload_n 2 d_M_mixed_114 rfl rfl ?_
          refine J_iadd d_M_mixed_115 ?_
          refine J_iaload 0 rfl (by omega) (by rw [va_up_ne _ _ (by decide), va_up_ne _ _ (by decide), va_up_self]) (by omega) d_M_mixed_116 ?_
          refine J_topi (r := f1 (572 + k)) (congrArg (fun q => iI (f1 q)) (by omega)) ?_
          refine J_topi (r := ((dgt 28 ((if xs = 1 then a - 1 else a) ^^^ msk 140 (decide (xs = 1))) k : Nat) : Int)) (congrArg iI (by rw [hf, sg_out (by omega)]; exact r3 k (by omega))) ?_
          refine J_istore_n (lv' := [(3, .int (iI ((dgt 28 ((if xs = 1 then a - 1 else a) ^^^ msk 140 (decide (xs = 1))) k : Nat) : Int))), (0, .ref (ad 98)), (1, .int (iI op)), (2, .int (iI (k : Int)))]) d_M_mixed_117 rfl (by decide) rfl ?_
          refine J_aload_n 1 d_M_mixed_118 rfl rfl ?_
          refine gf_M_7 (by omega) (by rw [va_up_self]) rfl d_M_mixed_119 ?_
          refine J_sipush d_M_mixed_122 (i16_ok (by decide)) ?_
          refine J_iload_n 3 d_M_mixed_125 rfl rfl ?_
          refine J_iadd d_M_mixed_126 ?_
          refine J_iaload 0 rfl (by omega) (by rw [va_up_ne _ _ (by decide), va_up_ne _ _ (by decide), va_up_self]) (by omega) d_M_mixed_127 ?_
          refine J_topi (r := f1 (598 + k)) (congrArg (fun q => iI (f1 q)) (by omega)) ?_
          refine J_topi (r := ((dgt 28 ((if ys = 1 then c - 1 else c) ^^^ msk 140 (decide (ys = 1))) k : Nat) : Int)) (congrArg iI (by rw [hf, sg_out (by omega)]; exact r6 k (by omega))) ?_
          refine J_istore (lv' := [(4, .int (iI ((dgt 28 ((if ys = 1 then c - 1 else c) ^^^ msk 140 (decide (ys = 1))) k : Nat) : Int))), (3, .int (iI ((dgt 28 ((if xs = 1 then a - 1 else a) ^^^ msk 140 (decide (xs = 1))) k : Nat) : Int))), (0, .ref (ad 98)), (1, .int (iI op)), (2, .int (iI (k : Int)))]) d_M_mixed_128 (by decide) rfl ?_
          have lab160 : J l rm_M_mixed (0, 0) "NumberTowerModel" b_M_mixed 6 (Option.none : Option Jvm.ClassFile.FieldType) D jCl (jTys g) A (fun _ me => me.name = y_M_mixed.name) (jv ad N (fun F' => ∃ (hh' ll' : Nat → Int) (W : Nat → Nat), reg br hh' ll' W ∧ (∀ k, k < 16 → W k = V k) ∧ W 20 = (if bopB op (decide (xs = 1)) (decide (ys = 1)) = true then mixZ op (decide (xs = 1)) (decide (ys = 1)) (if xs = 1 then a - 1 else a) (if ys = 1 then c - 1 else c) + 1 else mixZ op (decide (xs = 1)) (decide (ys = 1)) (if xs = 1 then a - 1 else a) (if ys = 1 then c - 1 else c)) ∧ W 21 = 1 ∧ F' = va_up (va_up (va_up F 98 (oM ad (va_up f 7 (if bopB op (decide (xs = 1)) (decide (ys = 1)) = true then 1 else 0)) v)) 99 (aB g hh')) 100 (aL g ll'))) ad N 0 0 160 [(0, .ref (ad 98)), (1, .int (iI op)), (2, .int (iI (k : Int))), (3, .int (iI ((dgt 28 ((if xs = 1 then a - 1 else a) ^^^ msk 140 (decide (xs = 1))) k : Nat) : Int))), (4, .int (iI ((dgt 28 ((if ys = 1 then c - 1 else c) ^^^ msk 140 (decide (ys = 1))) k : Nat) : Int)))] [.int (iI ((bopN op (dgt 28 ((if xs = 1 then a - 1 else a) ^^^ msk 140 (decide (xs = 1))) k) (dgt 28 ((if ys = 1 then c - 1 else c) ^^^ msk 140 (decide (ys = 1))) k) : Nat) : Int))] (va_up (va_up (va_up F 99 (.inl (g 0, 858, .inl (aI f1)))) 100 (.inl (g 0, 33, .inl (aI bl26)))) 98 (oM ad (va_up f 7 r7) v)) := by
            refine J_istore (lv' := [(5, .int (iI ((bopN op (dgt 28 ((if xs = 1 then a - 1 else a) ^^^ msk 140 (decide (xs = 1))) k) (dgt 28 ((if ys = 1 then c - 1 else c) ^^^ msk 140 (decide (ys = 1))) k) : Nat) : Int))), (0, .ref (ad 98)), (1, .int (iI op)), (2, .int (iI (k : Int))), (3, .int (iI ((dgt 28 ((if xs = 1 then a - 1 else a) ^^^ msk 140 (decide (xs = 1))) k : Nat) : Int))), (4, .int (iI ((dgt 28 ((if ys = 1 then c - 1 else c) ^^^ msk 140 (decide (ys = 1))) k : Nat) : Int)))]) d_M_mixed_160 (by decide) rfl ?_
            have lab188 : J l rm_M_mixed (0, 0) "NumberTowerModel" b_M_mixed 6 (Option.none : Option Jvm.ClassFile.FieldType) D jCl (jTys g) A (fun _ me => me.name = y_M_mixed.name) (jv ad N (fun F' => ∃ (hh' ll' : Nat → Int) (W : Nat → Nat), reg br hh' ll' W ∧ (∀ k, k < 16 → W k = V k) ∧ W 20 = (if bopB op (decide (xs = 1)) (decide (ys = 1)) = true then mixZ op (decide (xs = 1)) (decide (ys = 1)) (if xs = 1 then a - 1 else a) (if ys = 1 then c - 1 else c) + 1 else mixZ op (decide (xs = 1)) (decide (ys = 1)) (if xs = 1 then a - 1 else a) (if ys = 1 then c - 1 else c)) ∧ W 21 = 1 ∧ F' = va_up (va_up (va_up F 98 (oM ad (va_up f 7 (if bopB op (decide (xs = 1)) (decide (ys = 1)) = true then 1 else 0)) v)) 99 (aB g hh')) 100 (aL g ll'))) ad N 0 0 188 [(0, .ref (ad 98)), (1, .int (iI op)), (2, .int (iI (k : Int))), (3, .int (iI ((dgt 28 ((if xs = 1 then a - 1 else a) ^^^ msk 140 (decide (xs = 1))) k : Nat) : Int))), (4, .int (iI ((dgt 28 ((if ys = 1 then c - 1 else c) ^^^ msk 140 (decide (ys = 1))) k : Nat) : Int))), (5, .int (iI ((bopN op (dgt 28 ((if xs = 1 then a - 1 else a) ^^^ msk 140 (decide (xs = 1))) k) (dgt 28 ((if ys = 1 then c - 1 else c) ^^^ msk 140 (decide (ys = 1))) k) : Nat) : Int)))] [.int (iI (dg8 (mixZ op (decide (xs = 1)) (decide (ys = 1)) (if xs = 1 then a - 1 else a) (if ys = 1 then c - 1 else c)) k)), .int (iI (((520 + k : Nat)) : Int)), .ref (ad 99)] (va_up (va_up (va_up F 99 (.inl (g 0, 858, .inl (aI f1)))) 100 (.inl (g 0, 33, .inl (aI bl26)))) 98 (oM ad (va_up f 7 r7) v)) := by
              refine J_iastore 0 rfl (by omega) (by rw [va_up_ne _ _ (by decide), va_up_ne _ _ (by decide), va_up_self]) (by omega) d_M_mixed_188 ?_
              refine J_eqF (F2 := va_up (va_up (va_up (va_up F 99 (.inl (g 0, 858, .inl (aI f1)))) 100 (.inl (g 0, 33, .inl (aI bl26)))) 98 (oM ad (va_up f 7 r7) v)) 99 (.inl (g 0, 858, .inl (aI (va_up f1 (520 + k) (dg8 (mixZ op (decide (xs = 1)) (decide (ys = 1)) (if xs = 1 then a - 1 else a) (if ys = 1 then c - 1 else c)) k)))))) (congrArg (fun q => va_up (va_up (va_up (va_up F 99 (.inl (g 0, 858, .inl (aI f1)))) 100 (.inl (g 0, 33, .inl (aI bl26)))) 98 (oM ad (va_up f 7 r7) v)) 99 (.inl (g 0, 858, .inl (aI (va_up f1 q (dg8 (mixZ op (decide (xs = 1)) (decide (ys = 1)) (if xs = 1 then a - 1 else a) (if ys = 1 then c - 1 else c)) k)))))) (by omega : (((520 + k : Nat)) : Int).toNat = 520 + k)) ?_
              refine J_eqF (F2 := va_up (va_up (va_up F 99 (.inl (g 0, 858, .inl (aI (va_up f1 (520 + k) (dg8 (mixZ op (decide (xs = 1)) (decide (ys = 1)) (if xs = 1 then a - 1 else a) (if ys = 1 then c - 1 else c)) k)))))) 100 (.inl (g 0, 33, .inl (aI bl26)))) 98 (oM ad (va_up f 7 r7) v)) (up_in2 (by decide) (by decide)) ?_
              refine J_iinc (j := 2) (b := (k : Int) + 1) (lv' := [(2, .int (iI ((k : Int) + 1))), (0, .ref (ad 98)), (1, .int (iI op)), (3, .int (iI ((dgt 28 ((if xs = 1 then a - 1 else a) ^^^ msk 140 (decide (xs = 1))) k : Nat) : Int))), (4, .int (iI ((dgt 28 ((if ys = 1 then c - 1 else c) ^^^ msk 140 (decide (ys = 1))) k : Nat) : Int))), (5, .int (iI ((bopN op (dgt 28 ((if xs = 1 then a - 1 else a) ^^^ msk 140 (decide (xs = 1))) k) (dgt 28 ((if ys = 1 then c - 1 else c) ^^^ msk 140 (decide (ys = 1))) k) : Nat) : Int)))]) d_M_mixed_189 rfl (by omega) (by decide) rfl ?_
              refine J_goto (tgt := 102) d_M_mixed_192 (by decide) ?_
              refine J_pick (lv' := [(0, .ref (ad 98)), (1, .int (iI op)), (2, .int (iI ((k : Int) + 1)))]) [1, 2, 0] rfl ?_
              refine ih (k + 1) (va_up f1 (520 + k) (dg8 (mixZ op (decide (xs = 1)) (decide (ys = 1)) (if xs = 1 then a - 1 else a) (if ys = 1 then c - 1 else c)) k)) (by omega) ?_ (by omega)
              · rw [hf, show 520 + k = 26 * 20 + k by omega]
                exact sg_up (by omega) rfl
            refine J_aload_n 1 d_M_mixed_162 rfl rfl ?_
            refine gf_M_7 (by omega) (by rw [va_up_self]) rfl d_M_mixed_163 ?_
            refine J_sipush d_M_mixed_166 (i16_ok (by decide)) ?_
            refine J_iload_n 3 d_M_mixed_169 rfl rfl ?_
            refine J_iadd d_M_mixed_170 ?_
            refine J_aload_n 1 d_M_mixed_171 rfl rfl ?_
            refine gf_M_129 (by omega) (by rw [va_up_self]) rfl d_M_mixed_172 ?_
            refine J_topi (r := r7) (congrArg iI (va_up_self ..)) ?_
            refine J_ifeq (tgt := 186) d_M_mixed_175 (by decide) ⟨by omega, by omega⟩ (fun c175 => ?_) (fun c175 => ?_)
            · refine J_iload 0 d_M_mixed_186 rfl ?_
              refine J_pick (lv' := [(0, .ref (ad 98)), (1, .int (iI op)), (2, .int (iI (k : Int))), (3, .int (iI ((dgt 28 ((if xs = 1 then a - 1 else a) ^^^ msk 140 (decide (xs = 1))) k : Nat) : Int))), (4, .int (iI ((dgt 28 ((if ys = 1 then c - 1 else c) ^^^ msk 140 (decide (ys = 1))) k : Nat) : Int))), (5, .int (iI ((bopN op (dgt 28 ((if xs = 1 then a - 1 else a) ^^^ msk 140 (decide (xs = 1))) k) (dgt 28 ((if ys = 1 then c - 1 else c) ^^^ msk 140 (decide (ys = 1))) k) : Nat) : Int)))]) [1, 2, 3, 4, 5, 0] rfl ?_
              refine J_topi (r := dg8 (mixZ op (decide (xs = 1)) (decide (ys = 1)) (if xs = 1 then a - 1 else a) (if ys = 1 then c - 1 else c)) k) (congrArg iI (by rw [dg_nat8, mix28 (by omega), hbo2 (by omega), msk_no])) ?_
              exact lab188  
            · refine J_ldc (z := 268435455) d_M_mixed_178 wd_1142 (by decide) ?_
              refine J_iload 0 d_M_mixed_180 rfl ?_
              refine J_isub d_M_mixed_182 ?_
              refine J_goto (tgt := 188) d_M_mixed_183 (by decide) ?_
              refine J_pick (lv' := [(0, .ref (ad 98)), (1, .int (iI op)), (2, .int (iI (k : Int))), (3, .int (iI ((dgt 28 ((if xs = 1 then a - 1 else a) ^^^ msk 140 (decide (xs = 1))) k : Nat) : Int))), (4, .int (iI ((dgt 28 ((if ys = 1 then c - 1 else c) ^^^ msk 140 (decide (ys = 1))) k : Nat) : Int))), (5, .int (iI ((bopN op (dgt 28 ((if xs = 1 then a - 1 else a) ^^^ msk 140 (decide (xs = 1))) k) (dgt 28 ((if ys = 1 then c - 1 else c) ^^^ msk 140 (decide (ys = 1))) k) : Nat) : Int)))]) [1, 2, 3, 4, 5, 0] rfl ?_
              refine J_topi (r := dg8 (mixZ op (decide (xs = 1)) (decide (ys = 1)) (if xs = 1 then a - 1 else a) (if ys = 1 then c - 1 else c)) k) (congrArg iI (by rw [dg_nat8, mix28 (by omega), show bopB op (decide (xs = 1)) (decide (ys = 1)) = true from (by rcases hr01 with w | w; exact w.2; omega), ← flip28 (bopN_lt (w := 28) (dgt_b8 _ _) (dgt_b8 _ _))]; have := bopN_lt (w := 28) (op := op) (dgt_b8 ((if xs = 1 then a - 1 else a) ^^^ msk 140 (decide (xs = 1))) k) (dgt_b8 ((if ys = 1 then c - 1 else c) ^^^ msk 140 (decide (ys = 1))) k); omega)) ?_
              exact lab188  
          refine J_iload_n 3 d_M_mixed_130 rfl rfl ?_
          refine J_bipush d_M_mixed_131 (i8_ok (by decide)) ?_
          refine J_if_icmpne (tgt := 143) d_M_mixed_133 (by decide) ⟨by omega, by omega⟩ ⟨by omega, by omega⟩ (fun c133 => ?_) (fun c133 => ?_)
          · refine J_iload_n 3 d_M_mixed_143 rfl rfl ?_
            refine J_bipush d_M_mixed_144 (i8_ok (by decide)) ?_
            refine J_if_icmpne (tgt := 156) d_M_mixed_146 (by decide) ⟨by omega, by omega⟩ ⟨by omega, by omega⟩ (fun c146 => ?_) (fun c146 => ?_)
            · refine J_iload_n 1 d_M_mixed_156 rfl rfl ?_
              refine J_iload 0 d_M_mixed_157 rfl ?_
              refine J_ixor (r := (((dgt 28 ((if xs = 1 then a - 1 else a) ^^^ msk 140 (decide (xs = 1))) k) ^^^ (dgt 28 ((if ys = 1 then c - 1 else c) ^^^ msk 140 (decide (ys = 1))) k) : Nat) : Int)) d_M_mixed_159 (iI_xorn (by omega) (by omega)) ?_
              refine J_pick (lv' := [(0, .ref (ad 98)), (1, .int (iI op)), (2, .int (iI (k : Int))), (3, .int (iI ((dgt 28 ((if xs = 1 then a - 1 else a) ^^^ msk 140 (decide (xs = 1))) k : Nat) : Int))), (4, .int (iI ((dgt 28 ((if ys = 1 then c - 1 else c) ^^^ msk 140 (decide (ys = 1))) k : Nat) : Int)))]) [2, 3, 4, 1, 0] rfl ?_
              refine J_topi (r := ((bopN op (dgt 28 ((if xs = 1 then a - 1 else a) ^^^ msk 140 (decide (xs = 1))) k) (dgt 28 ((if ys = 1 then c - 1 else c) ^^^ msk 140 (decide (ys = 1))) k) : Nat) : Int)) (congrArg iI (by unfold bopN; first | rw [if_pos (c := op = 7) (by omega)] | rw [if_neg (c := op = 7) (by omega), if_pos (c := op = 8) (by omega)] | rw [if_neg (c := op = 7) (by omega), if_neg (c := op = 8) (by omega)])) ?_
              exact lab160  
            · refine J_iload_n 1 d_M_mixed_149 rfl rfl ?_
              refine J_iload 0 d_M_mixed_150 rfl ?_
              refine J_ior (r := (((dgt 28 ((if xs = 1 then a - 1 else a) ^^^ msk 140 (decide (xs = 1))) k) ||| (dgt 28 ((if ys = 1 then c - 1 else c) ^^^ msk 140 (decide (ys = 1))) k) : Nat) : Int)) d_M_mixed_152 (iI_orn (by omega) (by omega)) ?_
              refine J_goto (tgt := 160) d_M_mixed_153 (by decide) ?_
              refine J_pick (lv' := [(0, .ref (ad 98)), (1, .int (iI op)), (2, .int (iI (k : Int))), (3, .int (iI ((dgt 28 ((if xs = 1 then a - 1 else a) ^^^ msk 140 (decide (xs = 1))) k : Nat) : Int))), (4, .int (iI ((dgt 28 ((if ys = 1 then c - 1 else c) ^^^ msk 140 (decide (ys = 1))) k : Nat) : Int)))]) [2, 3, 4, 1, 0] rfl ?_
              refine J_topi (r := ((bopN op (dgt 28 ((if xs = 1 then a - 1 else a) ^^^ msk 140 (decide (xs = 1))) k) (dgt 28 ((if ys = 1 then c - 1 else c) ^^^ msk 140 (decide (ys = 1))) k) : Nat) : Int)) (congrArg iI (by unfold bopN; first | rw [if_pos (c := op = 7) (by omega)] | rw [if_neg (c := op = 7) (by omega), if_pos (c := op = 8) (by omega)] | rw [if_neg (c := op = 7) (by omega), if_neg (c := op = 8) (by omega)])) ?_
              exact lab160  
          · refine J_iload_n 1 d_M_mixed_136 rfl rfl ?_
            refine J_iload 0 d_M_mixed_137 rfl ?_
            refine J_iand (r := (((dgt 28 ((if xs = 1 then a - 1 else a) ^^^ msk 140 (decide (xs = 1))) k) &&& (dgt 28 ((if ys = 1 then c - 1 else c) ^^^ msk 140 (decide (ys = 1))) k) : Nat) : Int)) d_M_mixed_139 (iI_ann (by omega) (by omega)) ?_
            refine J_goto (tgt := 160) d_M_mixed_140 (by decide) ?_
            refine J_pick (lv' := [(0, .ref (ad 98)), (1, .int (iI op)), (2, .int (iI (k : Int))), (3, .int (iI ((dgt 28 ((if xs = 1 then a - 1 else a) ^^^ msk 140 (decide (xs = 1))) k : Nat) : Int))), (4, .int (iI ((dgt 28 ((if ys = 1 then c - 1 else c) ^^^ msk 140 (decide (ys = 1))) k : Nat) : Int)))]) [2, 3, 4, 1, 0] rfl ?_
            refine J_topi (r := ((bopN op (dgt 28 ((if xs = 1 then a - 1 else a) ^^^ msk 140 (decide (xs = 1))) k) (dgt 28 ((if ys = 1 then c - 1 else c) ^^^ msk 140 (decide (ys = 1))) k) : Nat) : Int)) (congrArg iI (by unfold bopN; first | rw [if_pos (c := op = 7) (by omega)] | rw [if_neg (c := op = 7) (by omega), if_pos (c := op = 8) (by omega)] | rw [if_neg (c := op = 7) (by omega), if_neg (c := op = 8) (by omega)])) ?_
            exact lab160  
    exact loop102 ((5 - 0) + 1) 0 H4 (by omega) (sg_0 _ _ _ _) (Nat.lt_succ_self _)
  refine J_aload_n 0 d_M_mixed_24 rfl rfl ?_
  refine J_iload_n 1 d_M_mixed_25 rfl rfl ?_
  refine J_bipush d_M_mixed_26 (i8_ok (by decide)) ?_
  refine J_if_icmpne (tgt := 53) d_M_mixed_28 (by decide) ⟨by omega, by omega⟩ ⟨by omega, by omega⟩ (fun c28 => ?_) (fun c28 => ?_)
  · refine J_iload_n 1 d_M_mixed_53 rfl rfl ?_
    refine J_bipush d_M_mixed_54 (i8_ok (by decide)) ?_
    refine J_if_icmpne (tgt := 81) d_M_mixed_56 (by decide) ⟨by omega, by omega⟩ ⟨by omega, by omega⟩ (fun c56 => ?_) (fun c56 => ?_)
    · refine J_aload_n 0 d_M_mixed_81 rfl rfl ?_
      refine gf_M_149 (by omega) (by rw [va_up_ne _ _ (by decide), va_up_ne _ _ (by decide)]; exact hO) rfl d_M_mixed_82 ?_
      refine J_topi (r := xs) (congrArg iI h5) ?_
      refine J_aload_n 0 d_M_mixed_85 rfl rfl ?_
      refine gf_M_152 (by omega) (by rw [va_up_ne _ _ (by decide), va_up_ne _ _ (by decide)]; exact hO) rfl d_M_mixed_86 ?_
      refine J_topi (r := ys) (congrArg iI h6) ?_
      refine J_if_icmpeq (tgt := 96) d_M_mixed_89 (by decide) ⟨by omega, by omega⟩ ⟨by omega, by omega⟩ (fun c89 => ?_) (fun c89 => ?_)
      · refine J_iconst d_M_mixed_96 ?_
        exact lab97 (0 : Int) (by first | rw [if_pos (hbo.mpr (by omega))] | rw [if_neg (fun e => by have := hbo.mp e; omega)])
      · refine J_iconst d_M_mixed_92 ?_
        refine J_goto (tgt := 97) d_M_mixed_93 (by decide) ?_
        exact lab97 (1 : Int) (by first | rw [if_pos (hbo.mpr (by omega))] | rw [if_neg (fun e => by have := hbo.mp e; omega)])
    · refine J_aload_n 0 d_M_mixed_59 rfl rfl ?_
      refine gf_M_149 (by omega) (by rw [va_up_ne _ _ (by decide), va_up_ne _ _ (by decide)]; exact hO) rfl d_M_mixed_60 ?_
      refine J_topi (r := xs) (congrArg iI h5) ?_
      refine J_ifne (tgt := 73) d_M_mixed_63 (by decide) ⟨by omega, by omega⟩ (fun c63 => ?_) (fun c63 => ?_)
      · refine J_iconst d_M_mixed_73 ?_
        refine J_goto (tgt := 97) d_M_mixed_74 (by decide) ?_
        exact lab97 (1 : Int) (by first | rw [if_pos (hbo.mpr (by omega))] | rw [if_neg (fun e => by have := hbo.mp e; omega)])
      · refine J_aload_n 0 d_M_mixed_66 rfl rfl ?_
        refine gf_M_152 (by omega) (by rw [va_up_ne _ _ (by decide), va_up_ne _ _ (by decide)]; exact hO) rfl d_M_mixed_67 ?_
        refine J_topi (r := ys) (congrArg iI h6) ?_
        refine J_ifeq (tgt := 77) d_M_mixed_70 (by decide) ⟨by omega, by omega⟩ (fun c70 => ?_) (fun c70 => ?_)
        · refine J_iconst d_M_mixed_77 ?_
          refine J_goto (tgt := 97) d_M_mixed_78 (by decide) ?_
          exact lab97 (0 : Int) (by first | rw [if_pos (hbo.mpr (by omega))] | rw [if_neg (fun e => by have := hbo.mp e; omega)])
        · refine J_iconst d_M_mixed_73 ?_
          refine J_goto (tgt := 97) d_M_mixed_74 (by decide) ?_
          exact lab97 (1 : Int) (by first | rw [if_pos (hbo.mpr (by omega))] | rw [if_neg (fun e => by have := hbo.mp e; omega)])
  · refine J_aload_n 0 d_M_mixed_31 rfl rfl ?_
    refine gf_M_149 (by omega) (by rw [va_up_ne _ _ (by decide), va_up_ne _ _ (by decide)]; exact hO) rfl d_M_mixed_32 ?_
    refine J_topi (r := xs) (congrArg iI h5) ?_
    refine J_ifeq (tgt := 49) d_M_mixed_35 (by decide) ⟨by omega, by omega⟩ (fun c35 => ?_) (fun c35 => ?_)
    · refine J_iconst d_M_mixed_49 ?_
      refine J_goto (tgt := 97) d_M_mixed_50 (by decide) ?_
      exact lab97 (0 : Int) (by first | rw [if_pos (hbo.mpr (by omega))] | rw [if_neg (fun e => by have := hbo.mp e; omega)])
    · refine J_aload_n 0 d_M_mixed_38 rfl rfl ?_
      refine gf_M_152 (by omega) (by rw [va_up_ne _ _ (by decide), va_up_ne _ _ (by decide)]; exact hO) rfl d_M_mixed_39 ?_
      refine J_topi (r := ys) (congrArg iI h6) ?_
      refine J_ifeq (tgt := 49) d_M_mixed_42 (by decide) ⟨by omega, by omega⟩ (fun c42 => ?_) (fun c42 => ?_)
      · refine J_iconst d_M_mixed_49 ?_
        refine J_goto (tgt := 97) d_M_mixed_50 (by decide) ?_
        exact lab97 (0 : Int) (by first | rw [if_pos (hbo.mpr (by omega))] | rw [if_neg (fun e => by have := hbo.mp e; omega)])
      · refine J_iconst d_M_mixed_45 ?_
        refine J_goto (tgt := 97) d_M_mixed_46 (by decide) ?_
        exact lab97 (1 : Int) (by first | rw [if_pos (hbo.mpr (by omega))] | rw [if_neg (fun e => by have := hbo.mp e; omega)])
