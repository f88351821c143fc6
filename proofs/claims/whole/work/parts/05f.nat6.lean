/-! naturals: shifts, small divisors -/
set_option maxRecDepth 100000 in
set_option maxHeartbeats 4000000 in
theorem c_N_shiftUp {l : Launch} (hfl : l.flags = flags0) {D : va_G} {g : Nat → ClassId} {ad : Nat → Nat} {N : Nat} {F : Nat → va_E} {k a : Nat} {n : Int}
    (hk : k + 1 < N) (hF : F k = oN ad k (lnw 30 a : Int)) (hA : F (k + 1) = aN g (dg a)) (h : a < 2 ^ 480) (hn : inI n) (ht : a * 2 ^ n.toNat < 2 ^ 480) :
    JC l y_N_shiftUp b_N_shiftUp 11 (Option.none : Option Jvm.ClassFile.FieldType) rm_N_shiftUp (0, 0) D jCl (jTys g) ad N F [.ref (ad k), .int (iI n)] (jv ad N (fun F' => F' = upN ad g F k (a * 2 ^ n.toNat))) := by
  have l1 := cn_16 h
  refine JC.go hfl (own := "NumberTower$Natural") (lv := [(0, .ref (ad k)), (1, .int (iI n))]) rfl (by decide +kernel) (Nat.le_of_ble_eq_true rfl) rfl (fun A => ?_)
  have lab11 : ∀  (h0 : a * 2 ^ n.toNat = a) , J l rm_N_shiftUp (0, 0) "NumberTower$Natural" b_N_shiftUp 11 (Option.none : Option Jvm.ClassFile.FieldType) D jCl (jTys g) A (fun _ me => me.name = y_N_shiftUp.name) (jv ad N (fun F' => F' = upN ad g F k (a * 2 ^ n.toNat))) ad N 0 0 11 [] [] F := by
    intro  h0
    refine J_vret rfl d_N_shiftUp_11 ⟨by decide, by decide⟩ ?_
    refine ⟨rfl, rfl, rfl, ?_⟩
    rw [h0]
    exact up_same2 hA hF
  refine J_iload_n 1 d_N_shiftUp_0 rfl rfl ?_
  refine J_ifle (tgt := 11) d_N_shiftUp_1 (by decide) ⟨by omega, by omega⟩ (fun c1 => ?_) (fun c1 => ?_)
  · refine J_pick (lv' := []) [] rfl ?_
    exact lab11  (by first | rw [show n.toNat = 0 by omega, Nat.pow_zero, Nat.mul_one] | rw [show a = 0 by omega, Nat.zero_mul])
  · refine J_aload_n 0 d_N_shiftUp_4 rfl rfl ?_
    refine J_callVi cw_N_68 nh_N_isZero pn_N_isZero rfl rfl (by omega) hF (As := []) (rest := []) rfl (Nat.le_of_ble_eq_true rfl) ⟨by decide, by decide⟩ rfl ⟨by decide, by decide⟩ d_N_shiftUp_5 (c_N_isZero hfl (a := a) (by omega) hF hA h) (fun z5 F1 hq => ?_)
    obtain ⟨hz5, eF1⟩ := hq
    refine J_eqF eF1 ?_
    refine J_ifeq (tgt := 12) d_N_shiftUp_8 (by decide) ⟨by omega, by omega⟩ (fun c8 => ?_) (fun c8 => ?_)
    · refine J_iload_n 1 d_N_shiftUp_12 rfl rfl ?_
      refine J_bipush d_N_shiftUp_13 (i8_ok (by decide)) ?_
      refine J_idivn d_N_shiftUp_15 (by omega) (by omega) ?_
      refine J_topi (r := ((n.toNat / 30 : Nat) : Int)) (congrArg iI (by omega)) ?_
      refine J_istore_n (lv' := [(2, .int (iI ((n.toNat / 30 : Nat) : Int))), (0, .ref (ad k)), (1, .int (iI n))]) d_N_shiftUp_16 rfl (by decide) rfl ?_
      refine J_iload_n 2 d_N_shiftUp_17 rfl rfl ?_
      refine J_bipush d_N_shiftUp_18 (i8_ok (by decide)) ?_
      refine J_iremn d_N_shiftUp_20 (by omega) (by omega) ?_
      refine J_topi (r := ((n.toNat % 30 : Nat) : Int)) (congrArg iI (by omega)) ?_
      refine J_istore_n (lv' := [(3, .int (iI ((n.toNat % 30 : Nat) : Int))), (2, .int (iI ((n.toNat / 30 : Nat) : Int))), (0, .ref (ad k)), (1, .int (iI n))]) d_N_shiftUp_21 rfl (by decide) rfl ?_
      refine J_bipush d_N_shiftUp_22 (i8_ok (by decide)) ?_
      refine J_aload_n 2 d_N_shiftUp_24 rfl rfl ?_
      refine gf_N_19 (by omega) hF rfl d_N_shiftUp_25 ?_
      refine J_iload_n 1 d_N_shiftUp_28 rfl rfl ?_
      refine J_iadd d_N_shiftUp_29 ?_
      refine J_callSi cw_N_53 nh_JMath_min pn_JMath_min rfl (As := [.int (iI 15), .int (iI ((lnw 30 a : Int) + ((n.toNat / 30 : Nat) : Int)))]) (rest := []) rfl (Nat.le_of_ble_eq_true rfl) ⟨by decide, by decide⟩ rfl ⟨by decide, by decide⟩ d_N_shiftUp_30 (c_JMath_min hfl ⟨by omega, by omega⟩ ⟨by omega, by omega⟩) (fun mn F2 hq => ?_)
      obtain ⟨hmin, eF2⟩ := hq
      refine J_eqF eF2 ?_
      refine J_istore (lv' := [(4, .int (iI mn)), (3, .int (iI ((n.toNat % 30 : Nat) : Int))), (2, .int (iI ((n.toNat / 30 : Nat) : Int))), (0, .ref (ad k)), (1, .int (iI n))]) d_N_shiftUp_33 (by decide) rfl ?_
      have hT0 : ∀ j : Nat, (mn : Int) < j → dg (a * 2 ^ n.toNat) j = 0 := fun j hj => by
        by_cases q : 16 ≤ j
        · exact dg_16 ht q
        · exact dg_zero (by have := lnw_up (a := a) (y := n.toNat); omega)
      refine J_iload 0 d_N_shiftUp_35 rfl ?_
      refine J_istore (lv' := [(5, .int (iI mn)), (4, .int (iI mn)), (3, .int (iI ((n.toNat % 30 : Nat) : Int))), (2, .int (iI ((n.toNat / 30 : Nat) : Int))), (0, .ref (ad k)), (1, .int (iI n))]) d_N_shiftUp_37 (by decide) rfl ?_
      refine J_pick (lv' := [(0, .ref (ad k)), (1, .int (iI n)), (2, .int (iI ((n.toNat / 30 : Nat) : Int))), (3, .int (iI ((n.toNat % 30 : Nat) : Int))), (4, .int (iI mn)), (5, .int (iI mn))]) [4, 5, 3, 2, 1, 0] rfl ?_
      have loop39 : ∀ (fuel : Nat) (i : Int) (f : Nat → Int) (h1 : -1 ≤ i ∧ i ≤ mn) (hf : f = mix (i + 1).toNat (dg a) (dg (a * 2 ^ n.toNat))) (hfu : (i + 1).toNat < fuel), J l rm_N_shiftUp (0, 0) "NumberTower$Natural" b_N_shiftUp 11 (Option.none : Option Jvm.ClassFile.FieldType) D jCl (jTys g) A (fun _ me => me.name = y_N_shiftUp.name) (jv ad N (fun F' => F' = upN ad g F k (a * 2 ^ n.toNat))) ad N 0 0 39 [(0, .ref (ad k)), (1, .int (iI n)), (2, .int (iI ((n.toNat / 30 : Nat) : Int))), (3, .int (iI ((n.toNat % 30 : Nat) : Int))), (4, .int (iI mn)), (5, .int (iI i))] [] (va_up F (k + 1) (.inl (g 0, 16, .inl (aI f)))) := by
        intro fuel
        induction fuel with
        | zero => intro i f h1 hf hfu; exact absurd hfu (Nat.not_lt_zero _)
        | succ fuel ih =>
          intro i f h1 hf hfu
          have hlo : ∀ j : Nat, (j : Int) ≤ i → f j = dg a j := fun j hj => by rw [hf]; exact mix_lo (by omega)
          refine J_iload 5 d_N_shiftUp_39 rfl ?_
          refine J_iflt (tgt := 135) d_N_shiftUp_41 (by decide) ⟨by omega, by omega⟩ (fun c41 => ?_) (fun c41 => ?_)
          · have hend : f = dg (a * 2 ^ n.toNat) := by rw [hf, show (i + 1).toNat = 0 by omega]; exact (mix_0 _ _).symm
            refine J_eqF (F2 := va_up F (k + 1) (.inl (g 0, 16, .inl (aI (dg (a * 2 ^ n.toNat)))))) (congrArg (fun qq => va_up F (k + 1) (.inl (g 0, 16, .inl (aI qq)))) hend) ?_
            refine J_aload_n 0 d_N_shiftUp_135 rfl rfl ?_
            refine J_iload 4 d_N_shiftUp_136 rfl ?_
            refine J_iconst d_N_shiftUp_138 ?_
            refine J_iadd d_N_shiftUp_139 ?_
            refine J_callVv cw_N_28 nh_N_trim pn_N_trim rfl rfl (by omega) (by rw [va_up_ne _ _ (by omega)]; exact hF) (As := [.int (iI (mn + 1))]) (rest := []) rfl (Nat.le_of_ble_eq_true rfl) ⟨by decide, by decide⟩ rfl ⟨by decide, by decide⟩ d_N_shiftUp_140 (c_N_trimC hfl (n := a * 2 ^ n.toNat) (by omega) (by rw [va_up_ne _ _ (by omega)]; exact hF) (by rw [va_up_self]) ht ⟨by have := lnw_up (a := a) (y := n.toNat); have := cn_16 ht; omega, by omega⟩) (fun  F3 hq => ?_)
            have eF3 := hq
            refine J_eqF eF3 ?_
            refine J_vret rfl d_N_shiftUp_143 ⟨by decide, by decide⟩ ?_
            exact ⟨rfl, rfl, rfl, rfl⟩
          · refine J_iload 5 d_N_shiftUp_44 rfl ?_
            refine J_iload_n 2 d_N_shiftUp_46 rfl rfl ?_
            refine J_isub d_N_shiftUp_47 ?_
            refine J_istore (lv' := [(6, .int (iI (i - ((n.toNat / 30 : Nat) : Int)))), (0, .ref (ad k)), (1, .int (iI n)), (2, .int (iI ((n.toNat / 30 : Nat) : Int))), (3, .int (iI ((n.toNat % 30 : Nat) : Int))), (4, .int (iI mn)), (5, .int (iI i))]) d_N_shiftUp_48 (by decide) rfl ?_
            have lab74 : J l rm_N_shiftUp (0, 0) "NumberTower$Natural" b_N_shiftUp 11 (Option.none : Option Jvm.ClassFile.FieldType) D jCl (jTys g) A (fun _ me => me.name = y_N_shiftUp.name) (jv ad N (fun F' => F' = upN ad g F k (a * 2 ^ n.toNat))) ad N 0 0 74 [(0, .ref (ad k)), (1, .int (iI n)), (2, .int (iI ((n.toNat / 30 : Nat) : Int))), (3, .int (iI ((n.toNat % 30 : Nat) : Int))), (4, .int (iI mn)), (5, .int (iI i)), (6, .int (iI (i - ((n.toNat / 30 : Nat) : Int))))] [.long (lI (gl a (i - ((n.toNat / 30 : Nat) : Int)) : Int))] (va_up F (k + 1) (.inl (g 0, 16, .inl (aI f)))) := by
              refine J_lstore (lv' := [(7, .long (lI (gl a (i - ((n.toNat / 30 : Nat) : Int)) : Int))), (0, .ref (ad k)), (1, .int (iI n)), (2, .int (iI ((n.toNat / 30 : Nat) : Int))), (3, .int (iI ((n.toNat % 30 : Nat) : Int))), (4, .int (iI mn)), (5, .int (iI i)), (6, .int (iI (i - ((n.toNat / 30 : Nat) : Int))))]) d_N_shiftUp_74 (by decide) rfl ?_
              have lab103 : J l rm_N_shiftUp (0, 0) "NumberTower$Natural" b_N_shiftUp 11 (Option.none : Option Jvm.ClassFile.FieldType) D jCl (jTys g) A (fun _ me => me.name = y_N_shiftUp.name) (jv ad N (fun F' => F' = upN ad g F k (a * 2 ^ n.toNat))) ad N 0 0 103 [(0, .ref (ad k)), (1, .int (iI n)), (2, .int (iI ((n.toNat / 30 : Nat) : Int))), (3, .int (iI ((n.toNat % 30 : Nat) : Int))), (4, .int (iI mn)), (5, .int (iI i)), (6, .int (iI (i - ((n.toNat / 30 : Nat) : Int)))), (7, .long (lI (gl a (i - ((n.toNat / 30 : Nat) : Int)) : Int)))] [.long (lI (gl a (i - ((n.toNat / 30 : Nat) : Int) - 1) : Int))] (va_up F (k + 1) (.inl (g 0, 16, .inl (aI f)))) := by
                refine J_lstore (lv' := [(9, .long (lI (gl a (i - ((n.toNat / 30 : Nat) : Int) - 1) : Int))), (0, .ref (ad k)), (1, .int (iI n)), (2, .int (iI ((n.toNat / 30 : Nat) : Int))), (3, .int (iI ((n.toNat % 30 : Nat) : Int))), (4, .int (iI mn)), (5, .int (iI i)), (6, .int (iI (i - ((n.toNat / 30 : Nat) : Int)))), (7, .long (lI (gl a (i - ((n.toNat / 30 : Nat) : Int)) : Int)))]) d_N_shiftUp_103 (by decide) rfl ?_
                refine J_aload_n 1 d_N_shiftUp_105 rfl rfl ?_
                refine gf_N_9 (by omega) (by rw [va_up_ne _ _ (by omega)]; exact hF) rfl d_N_shiftUp_106 ?_
                refine J_iload 6 d_N_shiftUp_109 rfl ?_
                refine J_lload 8 d_N_shiftUp_111 rfl ?_
                refine J_iload_n 4 d_N_shiftUp_113 rfl rfl ?_
                refine J_lshl (r := (((gl a (i - ((n.toNat / 30 : Nat) : Int))) * 2 ^ (n.toNat % 30) : Nat) : Int)) d_N_shiftUp_114 (lI_shln (n.toNat % 30) (by omega)) ?_
                refine J_lload 0 d_N_shiftUp_115 rfl ?_
                refine J_bipush d_N_shiftUp_117 (i8_ok (by decide)) ?_
                refine J_iload_n 4 d_N_shiftUp_119 rfl rfl ?_
                refine J_isub d_N_shiftUp_120 ?_
                refine J_topi (r := ((30 - n.toNat % 30 : Nat) : Int)) (congrArg iI (by omega)) ?_
                refine J_lshr (r := (((gl a (i - ((n.toNat / 30 : Nat) : Int) - 1)) / 2 ^ (30 - n.toNat % 30) : Nat) : Int)) d_N_shiftUp_121 (lI_shrn (Nat.lt_trans (gl_b _ _) (by decide)) (30 - n.toNat % 30) (by omega)) ?_
                have hA1 := glp (s := n.toNat % 30) (gl_b a (i - ((n.toNat / 30 : Nat) : Int))) (Nat.le_trans (pw29 (by omega)).2 (by decide))
                have hB1 := divp (s := 30 - n.toNat % 30) (gl_b a (i - ((n.toNat / 30 : Nat) : Int) - 1))
                refine J_lor (r := ((((gl a (i - ((n.toNat / 30 : Nat) : Int))) * 2 ^ (n.toNat % 30)) ||| ((gl a (i - ((n.toNat / 30 : Nat) : Int) - 1)) / 2 ^ (30 - n.toNat % 30)) : Nat) : Int)) d_N_shiftUp_122 (lI_orn (by omega) (by omega)) ?_
                refine J_ldc2 (z := 1073741823) d_N_shiftUp_123 wd_310 (by decide) ?_
                refine J_land (r := (((((gl a (i - ((n.toNat / 30 : Nat) : Int))) * 2 ^ (n.toNat % 30)) ||| ((gl a (i - ((n.toNat / 30 : Nat) : Int) - 1)) / 2 ^ (30 - n.toNat % 30))) % 1073741824 : Nat) : Int)) d_N_shiftUp_126 (lI_andn 30 (by decide)) ?_
                refine J_l2i d_N_shiftUp_127 ?_
                refine J_iastore 0 rfl (by omega) (by rw [va_up_self]) (by omega) d_N_shiftUp_128 ?_
                refine J_eqF (F2 := va_up F (k + 1) (.inl (g 0, 16, .inl (aI (va_up f i.toNat (((((gl a (i - ((n.toNat / 30 : Nat) : Int))) * 2 ^ (n.toNat % 30)) ||| ((gl a (i - ((n.toNat / 30 : Nat) : Int) - 1)) / 2 ^ (30 - n.toNat % 30))) % 1073741824 : Nat) : Int)))))) (up_in0) ?_
                refine J_iinc (j := 6) (b := i - 1) (lv' := [(5, .int (iI (i - 1))), (9, .long (lI (gl a (i - ((n.toNat / 30 : Nat) : Int) - 1) : Int))), (0, .ref (ad k)), (1, .int (iI n)), (2, .int (iI ((n.toNat / 30 : Nat) : Int))), (3, .int (iI ((n.toNat % 30 : Nat) : Int))), (4, .int (iI mn)), (6, .int (iI (i - ((n.toNat / 30 : Nat) : Int)))), (7, .long (lI (gl a (i - ((n.toNat / 30 : Nat) : Int)) : Int)))]) d_N_shiftUp_129 rfl (by omega) (by decide) rfl ?_
                refine J_goto (tgt := 39) d_N_shiftUp_132 (by decide) ?_
                refine J_pick (lv' := [(0, .ref (ad k)), (1, .int (iI n)), (2, .int (iI ((n.toNat / 30 : Nat) : Int))), (3, .int (iI ((n.toNat % 30 : Nat) : Int))), (4, .int (iI mn)), (5, .int (iI (i - 1)))]) [2, 3, 4, 5, 6, 0] rfl ?_
                refine ih (i - 1) (va_up f i.toNat (((((gl a (i - ((n.toNat / 30 : Nat) : Int))) * 2 ^ (n.toNat % 30)) ||| ((gl a (i - ((n.toNat / 30 : Nat) : Int) - 1)) / 2 ^ (30 - n.toNat % 30))) % 1073741824 : Nat) : Int)) (by omega) ?_ (by omega)
                · rw [hf]
                  refine mix_dn (by omega) ?_
                  rw [dg_nat, dgt_up, or_sh (gl_b _ _) (by omega), show ((i.toNat : Nat) : Int) = i by omega]
              refine J_iload 7 d_N_shiftUp_76 rfl ?_
              refine J_iconst d_N_shiftUp_78 ?_
              refine J_if_icmplt (tgt := 102) d_N_shiftUp_79 (by decide) ⟨by omega, by omega⟩ ⟨by omega, by omega⟩ (fun c79 => ?_) (fun c79 => ?_)
              · refine J_lconst (v := 0) d_N_shiftUp_102 rfl ?_
                refine J_pick (lv' := [(0, .ref (ad k)), (1, .int (iI n)), (2, .int (iI ((n.toNat / 30 : Nat) : Int))), (3, .int (iI ((n.toNat % 30 : Nat) : Int))), (4, .int (iI mn)), (5, .int (iI i)), (6, .int (iI (i - ((n.toNat / 30 : Nat) : Int)))), (7, .long (lI (gl a (i - ((n.toNat / 30 : Nat) : Int)) : Int)))]) [1, 2, 3, 4, 5, 6, 7, 0] rfl ?_
                refine J_topl (r := (gl a (i - ((n.toNat / 30 : Nat) : Int) - 1) : Int)) (congrArg lI (by rw [gl_n (by omega)]; rfl)) ?_
                exact lab103  
              · refine J_iload 7 d_N_shiftUp_82 rfl ?_
                refine J_bipush d_N_shiftUp_84 (i8_ok (by decide)) ?_
                refine J_if_icmpgt (tgt := 102) d_N_shiftUp_86 (by decide) ⟨by omega, by omega⟩ ⟨by omega, by omega⟩ (fun c86 => ?_) (fun c86 => ?_)
                · refine J_lconst (v := 0) d_N_shiftUp_102 rfl ?_
                  refine J_pick (lv' := [(0, .ref (ad k)), (1, .int (iI n)), (2, .int (iI ((n.toNat / 30 : Nat) : Int))), (3, .int (iI ((n.toNat % 30 : Nat) : Int))), (4, .int (iI mn)), (5, .int (iI i)), (6, .int (iI (i - ((n.toNat / 30 : Nat) : Int)))), (7, .long (lI (gl a (i - ((n.toNat / 30 : Nat) : Int)) : Int)))]) [1, 2, 3, 4, 5, 6, 7, 0] rfl ?_
                  refine J_topl (r := (gl a (i - ((n.toNat / 30 : Nat) : Int) - 1) : Int)) (congrArg lI (by rw [gl_n (by omega)]; rfl)) ?_
                  exact lab103  
                · refine J_aload_n 1 d_N_shiftUp_89 rfl rfl ?_
                  refine gf_N_9 (by omega) (by rw [va_up_ne _ _ (by omega)]; exact hF) rfl d_N_shiftUp_90 ?_
                  refine J_iload 7 d_N_shiftUp_93 rfl ?_
                  refine J_iconst d_N_shiftUp_95 ?_
                  refine J_isub d_N_shiftUp_96 ?_
                  refine J_iaload 0 rfl (by omega) (by rw [va_up_self]) (by omega) d_N_shiftUp_97 ?_
                  refine J_i2l d_N_shiftUp_98 (by rw [hlo _ (by omega)]; exact inh (dgh a) _) ?_
                  refine J_goto (tgt := 103) d_N_shiftUp_99 (by decide) ?_
                  refine J_pick (lv' := [(0, .ref (ad k)), (1, .int (iI n)), (2, .int (iI ((n.toNat / 30 : Nat) : Int))), (3, .int (iI ((n.toNat % 30 : Nat) : Int))), (4, .int (iI mn)), (5, .int (iI i)), (6, .int (iI (i - ((n.toNat / 30 : Nat) : Int)))), (7, .long (lI (gl a (i - ((n.toNat / 30 : Nat) : Int)) : Int)))]) [1, 2, 3, 4, 5, 6, 7, 0] rfl ?_
                  refine J_topl (r := (gl a (i - ((n.toNat / 30 : Nat) : Int) - 1) : Int)) (congrArg lI (by rw [gl_p (by omega), hlo _ (by omega)]; rfl)) ?_
                  exact lab103  
            refine J_iload 0 d_N_shiftUp_50 rfl ?_
            refine J_iflt (tgt := 73) d_N_shiftUp_52 (by decide) ⟨by omega, by omega⟩ (fun c52 => ?_) (fun c52 => ?_)
            · refine J_lconst (v := 0) d_N_shiftUp_73 rfl ?_
              refine J_pick (lv' := [(0, .ref (ad k)), (1, .int (iI n)), (2, .int (iI ((n.toNat / 30 : Nat) : Int))), (3, .int (iI ((n.toNat % 30 : Nat) : Int))), (4, .int (iI mn)), (5, .int (iI i)), (6, .int (iI (i - ((n.toNat / 30 : Nat) : Int))))]) [1, 2, 3, 4, 5, 6, 0] rfl ?_
              refine J_topl (r := (gl a (i - ((n.toNat / 30 : Nat) : Int)) : Int)) (congrArg lI (by rw [gl_n (by omega)]; rfl)) ?_
              exact lab74  
            · refine J_iload 0 d_N_shiftUp_55 rfl ?_
              refine J_bipush d_N_shiftUp_57 (i8_ok (by decide)) ?_
              refine J_if_icmpge (tgt := 73) d_N_shiftUp_59 (by decide) ⟨by omega, by omega⟩ ⟨by omega, by omega⟩ (fun c59 => ?_) (fun c59 => ?_)
              · refine J_lconst (v := 0) d_N_shiftUp_73 rfl ?_
                refine J_pick (lv' := [(0, .ref (ad k)), (1, .int (iI n)), (2, .int (iI ((n.toNat / 30 : Nat) : Int))), (3, .int (iI ((n.toNat % 30 : Nat) : Int))), (4, .int (iI mn)), (5, .int (iI i)), (6, .int (iI (i - ((n.toNat / 30 : Nat) : Int))))]) [1, 2, 3, 4, 5, 6, 0] rfl ?_
                refine J_topl (r := (gl a (i - ((n.toNat / 30 : Nat) : Int)) : Int)) (congrArg lI (by rw [gl_n (by omega)]; rfl)) ?_
                exact lab74  
              · refine J_aload_n 1 d_N_shiftUp_62 rfl rfl ?_
                refine gf_N_9 (by omega) (by rw [va_up_ne _ _ (by omega)]; exact hF) rfl d_N_shiftUp_63 ?_
                refine J_iload 0 d_N_shiftUp_66 rfl ?_
                refine J_iaload 0 rfl (by omega) (by rw [va_up_self]) (by omega) d_N_shiftUp_68 ?_
                refine J_i2l d_N_shiftUp_69 (by rw [hlo _ (by omega)]; exact inh (dgh a) _) ?_
                refine J_goto (tgt := 74) d_N_shiftUp_70 (by decide) ?_
                refine J_pick (lv' := [(0, .ref (ad k)), (1, .int (iI n)), (2, .int (iI ((n.toNat / 30 : Nat) : Int))), (3, .int (iI ((n.toNat % 30 : Nat) : Int))), (4, .int (iI mn)), (5, .int (iI i)), (6, .int (iI (i - ((n.toNat / 30 : Nat) : Int))))]) [1, 2, 3, 4, 5, 6, 0] rfl ?_
                refine J_topl (r := (gl a (i - ((n.toNat / 30 : Nat) : Int)) : Int)) (congrArg lI (by rw [gl_p (by omega), hlo _ (by omega)]; rfl)) ?_
                exact lab74  
      refine J_eqF (F2 := va_up F (k + 1) (.inl (g 0, 16, .inl (aI (dg a))))) (up_same1 hA) ?_
      exact loop39 (((mn + 1).toNat) + 1) mn (dg a) (by omega) (mix_top (fun j hj => by rw [dg_zero (n := a) (by omega), hT0 j (by omega)])) (Nat.lt_succ_self _)
    · refine J_pick (lv' := []) [] rfl ?_
      exact lab11  (by first | rw [show n.toNat = 0 by omega, Nat.pow_zero, Nat.mul_one] | rw [show a = 0 by omega, Nat.zero_mul])
set_option maxRecDepth 100000 in
set_option maxHeartbeats 4000000 in
theorem c_N_shiftDown {l : Launch} (hfl : l.flags = flags0) {D : va_G} {g : Nat → ClassId} {ad : Nat → Nat} {N : Nat} {F : Nat → va_E} {k a : Nat} {n : Int}
    (hk : k + 1 < N) (hF : F k = oN ad k (lnw 30 a : Int)) (hA : F (k + 1) = aN g (dg a)) (h : a < 2 ^ 480) (hn : inI n) :
    JC l y_N_shiftDown b_N_shiftDown 10 (Option.none : Option Jvm.ClassFile.FieldType) rm_N_shiftDown (0, 0) D jCl (jTys g) ad N F [.ref (ad k), .int (iI n)] (jv ad N (fun F' => F' = upN ad g F k (a / 2 ^ n.toNat))) := by
  have l1 := cn_16 h
  have hTl : a / 2 ^ n.toNat ≤ a := Nat.div_le_self _ _
  have hTb : a / 2 ^ n.toNat < 2 ^ 480 := Nat.lt_of_le_of_lt hTl h
  refine JC.go hfl (own := "NumberTower$Natural") (lv := [(0, .ref (ad k)), (1, .int (iI n))]) rfl (by decide +kernel) (Nat.le_of_ble_eq_true rfl) rfl (fun A => ?_)
  refine J_iload_n 1 d_N_shiftDown_0 rfl rfl ?_
  refine J_ifgt (tgt := 5) d_N_shiftDown_1 (by decide) ⟨by omega, by omega⟩ (fun c1 => ?_) (fun c1 => ?_)
  · refine J_bipush d_N_shiftDown_5 (i8_ok (by decide)) ?_
    refine J_iload_n 1 d_N_shiftDown_7 rfl rfl ?_
    refine J_bipush d_N_shiftDown_8 (i8_ok (by decide)) ?_
    refine J_idivn d_N_shiftDown_10 (by omega) (by omega) ?_
    refine J_topi (r := ((n.toNat / 30 : Nat) : Int)) (congrArg iI (by omega)) ?_
    refine J_callSi cw_N_53 nh_JMath_min pn_JMath_min rfl (As := [.int (iI 16), .int (iI ((n.toNat / 30 : Nat) : Int))]) (rest := []) rfl (Nat.le_of_ble_eq_true rfl) ⟨by decide, by decide⟩ rfl ⟨by decide, by decide⟩ d_N_shiftDown_11 (c_JMath_min hfl ⟨by omega, by omega⟩ ⟨by omega, by omega⟩) (fun mn F1 hq => ?_)
    obtain ⟨hmin, eF1⟩ := hq
    refine J_eqF eF1 ?_
    refine J_istore_n (lv' := [(2, .int (iI mn)), (0, .ref (ad k)), (1, .int (iI n))]) d_N_shiftDown_14 rfl (by decide) rfl ?_
    refine J_iload_n 2 d_N_shiftDown_15 rfl rfl ?_
    refine J_bipush d_N_shiftDown_16 (i8_ok (by decide)) ?_
    refine J_iremn d_N_shiftDown_18 (by omega) (by omega) ?_
    refine J_topi (r := ((n.toNat % 30 : Nat) : Int)) (congrArg iI (by omega)) ?_
    refine J_istore_n (lv' := [(3, .int (iI ((n.toNat % 30 : Nat) : Int))), (2, .int (iI mn)), (0, .ref (ad k)), (1, .int (iI n))]) d_N_shiftDown_19 rfl (by decide) rfl ?_
    refine J_iconst d_N_shiftDown_20 ?_
    refine J_istore (lv' := [(4, .int (iI 0)), (3, .int (iI ((n.toNat % 30 : Nat) : Int))), (2, .int (iI mn)), (0, .ref (ad k)), (1, .int (iI n))]) d_N_shiftDown_21 (by decide) rfl ?_
    have lab121 : J l rm_N_shiftDown (0, 0) "NumberTower$Natural" b_N_shiftDown 10 (Option.none : Option Jvm.ClassFile.FieldType) D jCl (jTys g) A (fun _ me => me.name = y_N_shiftDown.name) (jv ad N (fun F' => F' = upN ad g F k (a / 2 ^ n.toNat))) ad N 0 0 121 [(0, .ref (ad k))] [] (va_up F (k + 1) (.inl (g 0, 16, .inl (aI (dg (a / 2 ^ n.toNat)))))) := by
      refine J_aload_n 0 d_N_shiftDown_121 rfl rfl ?_
      refine J_aload_n 0 d_N_shiftDown_122 rfl rfl ?_
      refine gf_N_19 (by omega) (by rw [va_up_ne _ _ (by omega)]; exact hF) rfl d_N_shiftDown_123 ?_
      refine J_callVv cw_N_28 nh_N_trim pn_N_trim rfl rfl (by omega) (by rw [va_up_ne _ _ (by omega)]; exact hF) (As := [.int (iI (lnw 30 a : Int))]) (rest := []) rfl (Nat.le_of_ble_eq_true rfl) ⟨by decide, by decide⟩ rfl ⟨by decide, by decide⟩ d_N_shiftDown_126 (c_N_trimC hfl (n := a / 2 ^ n.toNat) (by omega) (by rw [va_up_ne _ _ (by omega)]; exact hF) (by rw [va_up_self]) hTb ⟨by have := lnw_mono hTl; omega, by omega⟩) (fun  F2 hq => ?_)
      have eF2 := hq
      refine J_eqF eF2 ?_
      refine J_vret rfl d_N_shiftDown_129 ⟨by decide, by decide⟩ ?_
      exact ⟨rfl, rfl, rfl, rfl⟩
    refine J_pick (lv' := [(0, .ref (ad k)), (1, .int (iI n)), (2, .int (iI mn)), (3, .int (iI ((n.toNat % 30 : Nat) : Int))), (4, .int (iI 0))]) [3, 4, 2, 1, 0] rfl ?_
    have loop23 : ∀ (fuel : Nat) (i : Nat) (f : Nat → Int) (h1 : i ≤ lnw 30 a) (hf : f = mix i (dg (a / 2 ^ n.toNat)) (dg a)) (hfu : lnw 30 a - i < fuel), J l rm_N_shiftDown (0, 0) "NumberTower$Natural" b_N_shiftDown 10 (Option.none : Option Jvm.ClassFile.FieldType) D jCl (jTys g) A (fun _ me => me.name = y_N_shiftDown.name) (jv ad N (fun F' => F' = upN ad g F k (a / 2 ^ n.toNat))) ad N 0 0 23 [(0, .ref (ad k)), (1, .int (iI n)), (2, .int (iI mn)), (3, .int (iI ((n.toNat % 30 : Nat) : Int))), (4, .int (iI (i : Int)))] [] (va_up F (k + 1) (.inl (g 0, 16, .inl (aI f)))) := by
      intro fuel
      induction fuel with
      | zero => intro i f h1 hf hfu; exact absurd hfu (Nat.not_lt_zero _)
      | succ fuel ih =>
        intro i f h1 hf hfu
        have hhi : ∀ j : Nat, i ≤ j → f j = dg a j := fun j hj => by rw [hf]; exact mix_hi hj
        refine J_iload 4 d_N_shiftDown_23 rfl ?_
        refine J_aload_n 0 d_N_shiftDown_25 rfl rfl ?_
        refine gf_N_19 (by omega) (by rw [va_up_ne _ _ (by omega)]; exact hF) rfl d_N_shiftDown_26 ?_
        refine J_if_icmpge (tgt := 121) d_N_shiftDown_29 (by decide) ⟨by omega, by omega⟩ ⟨by omega, by omega⟩ (fun c29 => ?_) (fun c29 => ?_)
        · refine J_pick (lv' := [(0, .ref (ad k))]) [0] rfl ?_
          have hend := show f = dg (a / 2 ^ n.toNat) by
            rw [hf]
            refine mix_all (fun j hj => ?_)
            rw [dg_zero (n := a) (by omega), dg_zero (by have := lnw_mono hTl; omega)]
          refine J_eqF (F2 := va_up F (k + 1) (.inl (g 0, 16, .inl (aI (dg (a / 2 ^ n.toNat)))))) (congrArg (fun qq => va_up F (k + 1) (.inl (g 0, 16, .inl (aI qq)))) hend) ?_
          exact lab121  
        · refine J_iload 4 d_N_shiftDown_32 rfl ?_
          refine J_bipush d_N_shiftDown_34 (i8_ok (by decide)) ?_
          refine J_if_icmpge (tgt := 121) d_N_shiftDown_36 (by decide) ⟨by omega, by omega⟩ ⟨by omega, by omega⟩ (fun c36 => ?_) (fun c36 => ?_)
          · refine J_pick (lv' := [(0, .ref (ad k))]) [0] rfl ?_
            have hend := show f = dg (a / 2 ^ n.toNat) by
              rw [hf]
              refine mix_all (fun j hj => ?_)
              rw [dg_zero (n := a) (by omega), dg_zero (by have := lnw_mono hTl; omega)]
            refine J_eqF (F2 := va_up F (k + 1) (.inl (g 0, 16, .inl (aI (dg (a / 2 ^ n.toNat)))))) (congrArg (fun qq => va_up F (k + 1) (.inl (g 0, 16, .inl (aI qq)))) hend) ?_
            exact lab121  
          · refine J_iload 4 d_N_shiftDown_39 rfl ?_
            refine J_iload_n 2 d_N_shiftDown_41 rfl rfl ?_
            refine J_iadd d_N_shiftDown_42 ?_
            refine J_istore (lv' := [(5, .int (iI ((i : Int) + mn))), (0, .ref (ad k)), (1, .int (iI n)), (2, .int (iI mn)), (3, .int (iI ((n.toNat % 30 : Nat) : Int))), (4, .int (iI (i : Int)))]) d_N_shiftDown_43 (by decide) rfl ?_
            have lab64 : J l rm_N_shiftDown (0, 0) "NumberTower$Natural" b_N_shiftDown 10 (Option.none : Option Jvm.ClassFile.FieldType) D jCl (jTys g) A (fun _ me => me.name = y_N_shiftDown.name) (jv ad N (fun F' => F' = upN ad g F k (a / 2 ^ n.toNat))) ad N 0 0 64 [(0, .ref (ad k)), (1, .int (iI n)), (2, .int (iI mn)), (3, .int (iI ((n.toNat % 30 : Nat) : Int))), (4, .int (iI (i : Int))), (5, .int (iI ((i : Int) + mn)))] [.long (lI (dgt 30 a (i + n.toNat / 30) : Int))] (va_up F (k + 1) (.inl (g 0, 16, .inl (aI f)))) := by
              refine J_lstore (lv' := [(6, .long (lI (dgt 30 a (i + n.toNat / 30) : Int))), (0, .ref (ad k)), (1, .int (iI n)), (2, .int (iI mn)), (3, .int (iI ((n.toNat % 30 : Nat) : Int))), (4, .int (iI (i : Int))), (5, .int (iI ((i : Int) + mn)))]) d_N_shiftDown_64 (by decide) rfl ?_
              have lab89 : J l rm_N_shiftDown (0, 0) "NumberTower$Natural" b_N_shiftDown 10 (Option.none : Option Jvm.ClassFile.FieldType) D jCl (jTys g) A (fun _ me => me.name = y_N_shiftDown.name) (jv ad N (fun F' => F' = upN ad g F k (a / 2 ^ n.toNat))) ad N 0 0 89 [(0, .ref (ad k)), (1, .int (iI n)), (2, .int (iI mn)), (3, .int (iI ((n.toNat % 30 : Nat) : Int))), (4, .int (iI (i : Int))), (5, .int (iI ((i : Int) + mn))), (6, .long (lI (dgt 30 a (i + n.toNat / 30) : Int)))] [.long (lI (dgt 30 a (i + n.toNat / 30 + 1) : Int))] (va_up F (k + 1) (.inl (g 0, 16, .inl (aI f)))) := by
                refine J_lstore (lv' := [(8, .long (lI (dgt 30 a (i + n.toNat / 30 + 1) : Int))), (0, .ref (ad k)), (1, .int (iI n)), (2, .int (iI mn)), (3, .int (iI ((n.toNat % 30 : Nat) : Int))), (4, .int (iI (i : Int))), (5, .int (iI ((i : Int) + mn))), (6, .long (lI (dgt 30 a (i + n.toNat / 30) : Int)))]) d_N_shiftDown_89 (by decide) rfl ?_
                refine J_aload_n 1 d_N_shiftDown_91 rfl rfl ?_
                refine gf_N_9 (by omega) (by rw [va_up_ne _ _ (by omega)]; exact hF) rfl d_N_shiftDown_92 ?_
                refine J_iload 5 d_N_shiftDown_95 rfl ?_
                refine J_lload 7 d_N_shiftDown_97 rfl ?_
                refine J_iload_n 4 d_N_shiftDown_99 rfl rfl ?_
                refine J_lshr (r := (((dgt 30 a (i + n.toNat / 30)) / 2 ^ (n.toNat % 30) : Nat) : Int)) d_N_shiftDown_100 (lI_shrn (Nat.lt_trans (dgt_b _ _) (by decide)) (n.toNat % 30) (by omega)) ?_
                refine J_lload 0 d_N_shiftDown_101 rfl ?_
                refine J_bipush d_N_shiftDown_103 (i8_ok (by decide)) ?_
                refine J_iload_n 4 d_N_shiftDown_105 rfl rfl ?_
                refine J_isub d_N_shiftDown_106 ?_
                refine J_topi (r := ((30 - n.toNat % 30 : Nat) : Int)) (congrArg iI (by omega)) ?_
                refine J_lshl (r := (((dgt 30 a (i + n.toNat / 30 + 1)) * 2 ^ (30 - n.toNat % 30) : Nat) : Int)) d_N_shiftDown_107 (lI_shln (30 - n.toNat % 30) (by omega)) ?_
                have hA1 := glp (s := 30 - n.toNat % 30) (dgt_b a (i + n.toNat / 30 + 1)) (Nat.le_trans (Nat.pow_le_pow_right (by decide) (by omega : 30 - n.toNat % 30 ≤ 30)) (by decide))
                have hB1 := divp (s := n.toNat % 30) (dgt_b a (i + n.toNat / 30))
                refine J_lor (r := ((((dgt 30 a (i + n.toNat / 30)) / 2 ^ (n.toNat % 30)) ||| ((dgt 30 a (i + n.toNat / 30 + 1)) * 2 ^ (30 - n.toNat % 30)) : Nat) : Int)) d_N_shiftDown_108 (lI_orn (by omega) (by omega)) ?_
                refine J_ldc2 (z := 1073741823) d_N_shiftDown_109 wd_310 (by decide) ?_
                refine J_land (r := (((((dgt 30 a (i + n.toNat / 30)) / 2 ^ (n.toNat % 30)) ||| ((dgt 30 a (i + n.toNat / 30 + 1)) * 2 ^ (30 - n.toNat % 30))) % 1073741824 : Nat) : Int)) d_N_shiftDown_112 (lI_andn 30 (by decide)) ?_
                refine J_l2i d_N_shiftDown_113 ?_
                refine J_iastore 0 rfl (by omega) (by rw [va_up_self]) (by omega) d_N_shiftDown_114 ?_
                refine J_eqF (F2 := va_up (va_up F (k + 1) (.inl (g 0, 16, .inl (aI f)))) (k + 1) (.inl (g 0, 16, .inl (aI (va_up f i (((((dgt 30 a (i + n.toNat / 30)) / 2 ^ (n.toNat % 30)) ||| ((dgt 30 a (i + n.toNat / 30 + 1)) * 2 ^ (30 - n.toNat % 30))) % 1073741824 : Nat) : Int)))))) (congrArg (fun q => va_up (va_up F (k + 1) (.inl (g 0, 16, .inl (aI f)))) (k + 1) (.inl (g 0, 16, .inl (aI (va_up f q (((((dgt 30 a (i + n.toNat / 30)) / 2 ^ (n.toNat % 30)) ||| ((dgt 30 a (i + n.toNat / 30 + 1)) * 2 ^ (30 - n.toNat % 30))) % 1073741824 : Nat) : Int)))))) (by omega : (i : Int).toNat = i)) ?_
                refine J_eqF (F2 := va_up F (k + 1) (.inl (g 0, 16, .inl (aI (va_up f i (((((dgt 30 a (i + n.toNat / 30)) / 2 ^ (n.toNat % 30)) ||| ((dgt 30 a (i + n.toNat / 30 + 1)) * 2 ^ (30 - n.toNat % 30))) % 1073741824 : Nat) : Int)))))) (up_in0) ?_
                refine J_iinc (j := 5) (b := (i : Int) + 1) (lv' := [(4, .int (iI ((i : Int) + 1))), (8, .long (lI (dgt 30 a (i + n.toNat / 30 + 1) : Int))), (0, .ref (ad k)), (1, .int (iI n)), (2, .int (iI mn)), (3, .int (iI ((n.toNat % 30 : Nat) : Int))), (5, .int (iI ((i : Int) + mn))), (6, .long (lI (dgt 30 a (i + n.toNat / 30) : Int)))]) d_N_shiftDown_115 rfl (by omega) (by decide) rfl ?_
                refine J_goto (tgt := 23) d_N_shiftDown_118 (by decide) ?_
                refine J_pick (lv' := [(0, .ref (ad k)), (1, .int (iI n)), (2, .int (iI mn)), (3, .int (iI ((n.toNat % 30 : Nat) : Int))), (4, .int (iI ((i : Int) + 1)))]) [2, 3, 4, 5, 0] rfl ?_
                refine ih (i + 1) (va_up f i (((((dgt 30 a (i + n.toNat / 30)) / 2 ^ (n.toNat % 30)) ||| ((dgt 30 a (i + n.toNat / 30 + 1)) * 2 ^ (30 - n.toNat % 30))) % 1073741824 : Nat) : Int)) (by omega) ?_ (by omega)
                · rw [hf]
                  refine mix_up ?_
                  rw [dg_nat, dgt_dn, or_dn (dgt_b _ _) (by omega)]
              refine J_iload 6 d_N_shiftDown_66 rfl ?_
              refine J_iconst d_N_shiftDown_68 ?_
              refine J_iadd d_N_shiftDown_69 ?_
              refine J_topi (r := (i : Int) + mn + 1) (congrArg iI (by omega)) ?_
              refine J_bipush d_N_shiftDown_70 (i8_ok (by decide)) ?_
              refine J_if_icmpge (tgt := 88) d_N_shiftDown_72 (by decide) ⟨by omega, by omega⟩ ⟨by omega, by omega⟩ (fun c72 => ?_) (fun c72 => ?_)
              · refine J_lconst (v := 0) d_N_shiftDown_88 rfl ?_
                refine J_pick (lv' := [(0, .ref (ad k)), (1, .int (iI n)), (2, .int (iI mn)), (3, .int (iI ((n.toNat % 30 : Nat) : Int))), (4, .int (iI (i : Int))), (5, .int (iI ((i : Int) + mn))), (6, .long (lI (dgt 30 a (i + n.toNat / 30) : Int)))]) [1, 2, 3, 4, 5, 6, 0] rfl ?_
                refine J_topl (r := (dgt 30 a (i + n.toNat / 30 + 1) : Int)) (congrArg lI (by rw [dgt_zeroL (by decide) (by omega)]; rfl)) ?_
                exact lab89  
              · refine J_aload_n 1 d_N_shiftDown_75 rfl rfl ?_
                refine gf_N_9 (by omega) (by rw [va_up_ne _ _ (by omega)]; exact hF) rfl d_N_shiftDown_76 ?_
                refine J_iload 6 d_N_shiftDown_79 rfl ?_
                refine J_iconst d_N_shiftDown_81 ?_
                refine J_iadd d_N_shiftDown_82 ?_
                refine J_topi (r := (i : Int) + mn + 1) (congrArg iI (by omega)) ?_
                refine J_iaload 0 rfl (by omega) (by rw [va_up_self]) (by omega) d_N_shiftDown_83 ?_
                refine J_i2l d_N_shiftDown_84 (by rw [hhi _ (by omega)]; exact inh (dgh a) _) ?_
                refine J_goto (tgt := 89) d_N_shiftDown_85 (by decide) ?_
                refine J_pick (lv' := [(0, .ref (ad k)), (1, .int (iI n)), (2, .int (iI mn)), (3, .int (iI ((n.toNat % 30 : Nat) : Int))), (4, .int (iI (i : Int))), (5, .int (iI ((i : Int) + mn))), (6, .long (lI (dgt 30 a (i + n.toNat / 30) : Int)))]) [1, 2, 3, 4, 5, 6, 0] rfl ?_
                refine J_topl (r := (dgt 30 a (i + n.toNat / 30 + 1) : Int)) (congrArg lI (by rw [hhi _ (by omega), dg_nat]; exact congrArg (fun q : Nat => (dgt 30 a q : Int)) (by omega))) ?_
                exact lab89  
            refine J_iload 0 d_N_shiftDown_45 rfl ?_
            refine J_bipush d_N_shiftDown_47 (i8_ok (by decide)) ?_
            refine J_if_icmpge (tgt := 63) d_N_shiftDown_49 (by decide) ⟨by omega, by omega⟩ ⟨by omega, by omega⟩ (fun c49 => ?_) (fun c49 => ?_)
            · refine J_lconst (v := 0) d_N_shiftDown_63 rfl ?_
              refine J_pick (lv' := [(0, .ref (ad k)), (1, .int (iI n)), (2, .int (iI mn)), (3, .int (iI ((n.toNat % 30 : Nat) : Int))), (4, .int (iI (i : Int))), (5, .int (iI ((i : Int) + mn)))]) [1, 2, 3, 4, 5, 0] rfl ?_
              refine J_topl (r := (dgt 30 a (i + n.toNat / 30) : Int)) (congrArg lI (by rw [dgt_zeroL (by decide) (by omega)]; rfl)) ?_
              exact lab64  
            · refine J_aload_n 1 d_N_shiftDown_52 rfl rfl ?_
              refine gf_N_9 (by omega) (by rw [va_up_ne _ _ (by omega)]; exact hF) rfl d_N_shiftDown_53 ?_
              refine J_iload 0 d_N_shiftDown_56 rfl ?_
              refine J_iaload 0 rfl (by omega) (by rw [va_up_self]) (by omega) d_N_shiftDown_58 ?_
              refine J_i2l d_N_shiftDown_59 (by rw [hhi _ (by omega)]; exact inh (dgh a) _) ?_
              refine J_goto (tgt := 64) d_N_shiftDown_60 (by decide) ?_
              refine J_pick (lv' := [(0, .ref (ad k)), (1, .int (iI n)), (2, .int (iI mn)), (3, .int (iI ((n.toNat % 30 : Nat) : Int))), (4, .int (iI (i : Int))), (5, .int (iI ((i : Int) + mn)))]) [1, 2, 3, 4, 5, 0] rfl ?_
              refine J_topl (r := (dgt 30 a (i + n.toNat / 30) : Int)) (congrArg lI (by rw [hhi _ (by omega), dg_nat]; exact congrArg (fun q : Nat => (dgt 30 a q : Int)) (by omega))) ?_
              exact lab64  
    refine J_eqF (F2 := va_up F (k + 1) (.inl (g 0, 16, .inl (aI (dg a))))) (up_same1 hA) ?_
    exact loop23 ((lnw 30 a - 0) + 1) 0 (dg a) (by omega) (mix_0 _ _) (Nat.lt_succ_self _)
  · refine J_vret rfl d_N_shiftDown_4 ⟨by decide, by decide⟩ ?_
    refine ⟨rfl, rfl, rfl, ?_⟩
    rw [show n.toNat = 0 by omega, Nat.pow_zero, Nat.div_one]
    exact up_same2 hA hF
set_option maxRecDepth 100000 in
set_option maxHeartbeats 4000000 in
theorem c_N_divideSmall {l : Launch} (hfl : l.flags = flags0) {D : va_G} {g : Nat → ClassId} {ad : Nat → Nat} {N : Nat} {F : Nat → va_E} {k a d : Nat}
    (hk : k + 1 < N) (hF : F k = oN ad k (lnw 30 a : Int)) (hA : F (k + 1) = aN g (dg a)) (h : a < 2 ^ 480) (hd : 0 < d ∧ d < 1073741824) :
    JC l y_N_divideSmall b_N_divideSmall 7 (Option.some Jvm.ClassFile.FieldType.int) rm_N_divideSmall (0, 0) D jCl (jTys g) ad N F [.ref (ad k), .int (iI (d : Int))] (ji ad N (fun z F' => z = ((a % d : Nat) : Int) ∧ F' = upN ad g F k (a / d))) := by
  have l1 := cn_16 h
  have hTl : a / d ≤ a := Nat.div_le_self _ _
  have hTb : a / d < 2 ^ 480 := Nat.lt_of_le_of_lt hTl h
  refine JC.go hfl (own := "NumberTower$Natural") (lv := [(0, .ref (ad k)), (1, .int (iI (d : Int)))]) rfl (by decide +kernel) (Nat.le_of_ble_eq_true rfl) rfl (fun A => ?_)
  refine J_iload_n 1 d_N_divideSmall_0 rfl rfl ?_
  refine J_ifgt (tgt := 6) d_N_divideSmall_1 (by decide) ⟨by omega, by omega⟩ (fun c1 => ?_) (fun c1 => ?_)
  · refine J_lconst (v := 0) d_N_divideSmall_6 rfl ?_
    refine J_lstore_n (lv' := [(2, .long (lI 0)), (0, .ref (ad k)), (1, .int (iI (d : Int)))]) d_N_divideSmall_7 rfl (by decide) rfl ?_
    refine J_aload_n 1 d_N_divideSmall_8 rfl rfl ?_
    refine gf_N_19 (by omega) hF rfl d_N_divideSmall_9 ?_
    refine J_bipush d_N_divideSmall_12 (i8_ok (by decide)) ?_
    refine J_callSi cw_N_53 nh_JMath_min pn_JMath_min rfl (As := [.int (iI (lnw 30 a : Int)), .int (iI 16)]) (rest := []) rfl (Nat.le_of_ble_eq_true rfl) ⟨by decide, by decide⟩ rfl ⟨by decide, by decide⟩ d_N_divideSmall_14 (c_JMath_min hfl ⟨by omega, by omega⟩ ⟨by omega, by omega⟩) (fun mn F1 hq => ?_)
    obtain ⟨hmin, eF1⟩ := hq
    refine J_eqF eF1 ?_
    refine J_iconst d_N_divideSmall_17 ?_
    refine J_isub d_N_divideSmall_18 ?_
    refine J_istore (lv' := [(4, .int (iI (mn - 1))), (2, .long (lI 0)), (0, .ref (ad k)), (1, .int (iI (d : Int)))]) d_N_divideSmall_19 (by decide) rfl ?_
    refine J_pick (lv' := [(0, .ref (ad k)), (1, .int (iI (d : Int))), (2, .long (lI 0)), (4, .int (iI (mn - 1)))]) [2, 3, 1, 0] rfl ?_
    have loop21 : ∀ (fuel : Nat) (i : Int) (r : Nat) (f : Nat → Int) (h1 : -1 ≤ i ∧ i < lnw 30 a) (hr : r = a / 2 ^ (30 * (i + 1).toNat) % d) (hf : f = mix (i + 1).toNat (dg a) (dg (a / d))) (hfu : (i + 1).toNat < fuel), J l rm_N_divideSmall (0, 0) "NumberTower$Natural" b_N_divideSmall 7 (Option.some Jvm.ClassFile.FieldType.int) D jCl (jTys g) A (fun _ me => me.name = y_N_divideSmall.name) (ji ad N (fun z F' => z = ((a % d : Nat) : Int) ∧ F' = upN ad g F k (a / d))) ad N 0 0 21 [(0, .ref (ad k)), (1, .int (iI (d : Int))), (2, .long (lI (r : Int))), (4, .int (iI i))] [] (va_up F (k + 1) (.inl (g 0, 16, .inl (aI f)))) := by
      intro fuel
      induction fuel with
      | zero => intro i r f h1 hr hf hfu; exact absurd hfu (Nat.not_lt_zero _)
      | succ fuel ih =>
        intro i r f h1 hr hf hfu
        have hrd : r < d := by rw [hr]; exact Nat.mod_lt _ hd.1
        have hw := dgt_b a i.toNat
        have hds := dsm (a := a) (d := d) (i := i.toNat) hd.1
        refine J_iload 3 d_N_divideSmall_21 rfl ?_
        refine J_iflt (tgt := 66) d_N_divideSmall_23 (by decide) ⟨by omega, by omega⟩ (fun c23 => ?_) (fun c23 => ?_)
        · have hend : f = dg (a / d) := by rw [hf, show (i + 1).toNat = 0 by omega]; exact (mix_0 _ _).symm
          refine J_eqF (F2 := va_up F (k + 1) (.inl (g 0, 16, .inl (aI (dg (a / d)))))) (congrArg (fun qq => va_up F (k + 1) (.inl (g 0, 16, .inl (aI qq)))) hend) ?_
          refine J_aload_n 0 d_N_divideSmall_66 rfl rfl ?_
          refine J_aload_n 0 d_N_divideSmall_67 rfl rfl ?_
          refine gf_N_19 (by omega) (by rw [va_up_ne _ _ (by omega)]; exact hF) rfl d_N_divideSmall_68 ?_
          refine J_callVv cw_N_28 nh_N_trim pn_N_trim rfl rfl (by omega) (by rw [va_up_ne _ _ (by omega)]; exact hF) (As := [.int (iI (lnw 30 a : Int))]) (rest := []) rfl (Nat.le_of_ble_eq_true rfl) ⟨by decide, by decide⟩ rfl ⟨by decide, by decide⟩ d_N_divideSmall_71 (c_N_trimC hfl (n := a / d) (by omega) (by rw [va_up_ne _ _ (by omega)]; exact hF) (by rw [va_up_self]) hTb ⟨by have := lnw_mono hTl; omega, by omega⟩) (fun  F2 hq => ?_)
          have eF2 := hq
          refine J_eqF eF2 ?_
          refine J_lload_n 2 d_N_divideSmall_74 rfl rfl ?_
          refine J_l2i d_N_divideSmall_75 ?_
          refine J_iret rfl rfl d_N_divideSmall_76 ⟨by decide, by decide⟩ ?_
          exact ⟨_, rfl, rfl, rfl, by rw [hr, show (i + 1).toNat = 0 by omega, Nat.mul_zero, Nat.pow_zero, Nat.div_one], rfl⟩
        · refine J_lload_n 2 d_N_divideSmall_26 rfl rfl ?_
          refine J_bipush d_N_divideSmall_27 (i8_ok (by decide)) ?_
          refine J_lshl (r := ((r * 1073741824 : Nat) : Int)) d_N_divideSmall_29 (lI_shln 30 (by decide)) ?_
          refine J_aload_n 0 d_N_divideSmall_30 rfl rfl ?_
          refine gf_N_9 (by omega) (by rw [va_up_ne _ _ (by omega)]; exact hF) rfl d_N_divideSmall_31 ?_
          refine J_iload 3 d_N_divideSmall_34 rfl ?_
          refine J_iaload 0 rfl (by omega) (by rw [va_up_self]) (by omega) d_N_divideSmall_36 ?_
          have hlo : f i.toNat = dg a i.toNat := by rw [hf]; exact mix_lo (by omega)
          refine J_i2l d_N_divideSmall_37 (by rw [hlo]; exact inh (dgh a) _) ?_
          refine J_topl (r := (dgt 30 a i.toNat : Int)) (congrArg lI (by rw [hlo]; rfl)) ?_
          refine J_lor (r := ((r * 1073741824 + dgt 30 a i.toNat : Nat) : Int)) d_N_divideSmall_38 (by rw [lI_orn (by omega) (by omega), Nat.or_comm, or30 (dgt_b _ _), Nat.add_comm]) ?_
          refine J_lstore (lv' := [(5, .long (lI ((r * 1073741824 + dgt 30 a i.toNat : Nat) : Int))), (0, .ref (ad k)), (1, .int (iI (d : Int))), (2, .long (lI (r : Int))), (4, .int (iI i))]) d_N_divideSmall_39 (by decide) rfl ?_
          refine J_aload_n 1 d_N_divideSmall_41 rfl rfl ?_
          refine gf_N_9 (by omega) (by rw [va_up_ne _ _ (by omega)]; exact hF) rfl d_N_divideSmall_42 ?_
          refine J_iload 4 d_N_divideSmall_45 rfl ?_
          refine J_lload 0 d_N_divideSmall_47 rfl ?_
          refine J_iload_n 2 d_N_divideSmall_49 rfl rfl ?_
          refine J_i2l d_N_divideSmall_50 ⟨by omega, by omega⟩ ?_
          refine J_ldivn d_N_divideSmall_51 (by omega) (by omega) ?_
          refine J_topl (r := (((r * 1073741824 + dgt 30 a i.toNat) / d : Nat) : Int)) (congrArg lI (by omega)) ?_
          refine J_l2i d_N_divideSmall_52 ?_
          refine J_iastore 0 rfl (by omega) (by rw [va_up_self]) (by omega) d_N_divideSmall_53 ?_
          refine J_eqF (F2 := va_up F (k + 1) (.inl (g 0, 16, .inl (aI (va_up f i.toNat (((r * 1073741824 + dgt 30 a i.toNat) / d : Nat) : Int)))))) (up_in0) ?_
          refine J_lload 0 d_N_divideSmall_54 rfl ?_
          refine J_iload_n 2 d_N_divideSmall_56 rfl rfl ?_
          refine J_i2l d_N_divideSmall_57 ⟨by omega, by omega⟩ ?_
          refine J_lremn d_N_divideSmall_58 (by omega) (by omega) ?_
          refine J_topl (r := (((r * 1073741824 + dgt 30 a i.toNat) % d : Nat) : Int)) (congrArg lI (by omega)) ?_
          refine J_lstore_n (lv' := [(2, .long (lI (((r * 1073741824 + dgt 30 a i.toNat) % d : Nat) : Int))), (5, .long (lI ((r * 1073741824 + dgt 30 a i.toNat : Nat) : Int))), (0, .ref (ad k)), (1, .int (iI (d : Int))), (4, .int (iI i))]) d_N_divideSmall_59 rfl (by decide) rfl ?_
          refine J_iinc (j := 4) (b := i - 1) (lv' := [(4, .int (iI (i - 1))), (2, .long (lI (((r * 1073741824 + dgt 30 a i.toNat) % d : Nat) : Int))), (5, .long (lI ((r * 1073741824 + dgt 30 a i.toNat : Nat) : Int))), (0, .ref (ad k)), (1, .int (iI (d : Int)))]) d_N_divideSmall_60 rfl (by omega) (by decide) rfl ?_
          refine J_goto (tgt := 21) d_N_divideSmall_63 (by decide) ?_
          refine J_pick (lv' := [(0, .ref (ad k)), (1, .int (iI (d : Int))), (2, .long (lI (((r * 1073741824 + dgt 30 a i.toNat) % d : Nat) : Int))), (4, .int (iI (i - 1)))]) [3, 4, 1, 0] rfl ?_
          refine ih (i - 1) ((r * 1073741824 + dgt 30 a i.toNat) % d) (va_up f i.toNat (((r * 1073741824 + dgt 30 a i.toNat) / d : Nat) : Int)) (by omega) ?_ ?_ (by omega)
          · rw [show (i - 1 + 1).toNat = i.toNat by omega, hds.2, hr, show (i + 1).toNat = i.toNat + 1 by omega]
          · rw [hf]
            refine mix_dn (by omega) ?_
            rw [dg_nat, hds.1, hr, show (i + 1).toNat = i.toNat + 1 by omega]
    refine J_eqF (F2 := va_up F (k + 1) (.inl (g 0, 16, .inl (aI (dg a))))) (up_same1 hA) ?_
    exact loop21 ((((mn - 1) + 1).toNat) + 1) (mn - 1) 0 (dg a) (by omega) (by rw [Nat.div_eq_of_lt (Nat.lt_of_lt_of_le (lnw_lt (w := 30) (by decide)) (Nat.pow_le_pow_right (by decide) (by omega))), Nat.zero_mod]) (mix_top (fun j hj => by rw [dg_zero (n := a) (by omega), dg_zero (by have := lnw_mono hTl; omega)])) (Nat.lt_succ_self _)
  · refine J_iconst d_N_divideSmall_4 ?_
    refine J_iret rfl rfl d_N_divideSmall_5 ⟨by decide, by decide⟩ ?_
    exact absurd c1 (by omega)
