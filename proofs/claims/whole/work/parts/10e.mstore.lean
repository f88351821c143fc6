/-! the Model: store -/
set_option maxRecDepth 100000 in
set_option maxHeartbeats 4000000 in
theorem c_M_store {l : Launch} (hfl : l.flags = flags0) {D : va_G} {g : Nat → ClassId} {ad : Nat → Nat} {N : Nat} {F : Nat → va_E} {hh ll f : Nat → Int} {v : UInt64} {V : Nat → Nat} {br : Nat → Nat}{kk bb : Nat → Int} {rr : Nat → UInt64} {X Y to : Nat} {kd s code : Int}
    (hN : 109 ≤ N) (hO : F 98 = oM ad f v) (hB : F 99 = aB g hh) (hL : F 100 = aL g ll) (hR : reg br hh ll V) (hzz : okB br) (hKk : F 101 = .inl (g 0, 8, .inl (aI kk))) (hBb : F 102 = .inl (g 2, 8, .inl (aI bb))) (hRr : F 103 = .inl (g 3, 8, .inr (.inr (.inr (.inl rr))))) (hX : V 20 = X) (hY : V 21 = Y) (hY0 : 0 < Y) (hlX : lnw 28 X ≤ 18) (hlY : lnw 28 Y ≤ 18) (hbX : blen X ≤ 504) (hbY : blen Y ≤ 504) (hkd : 0 ≤ kd ∧ kd ≤ 2) (hrs : f 7 = if s < 0 then 1 else 0) (hs : -1 ≤ s ∧ s ≤ 1) (hto : to < 8) :
    JC l y_M_store b_M_store 4 (Option.some Jvm.ClassFile.FieldType.int) rm_M_store (0, 0) D jCl (jTys g) ad N F [.ref (ad 98), .int (iI kd), .int (iI (to : Int)), .int (iI code)] (ji ad N (fun z F' => ∃ (hh' ll' f' : Nat → Int) (W : Nat → Nat) (v' : UInt64), reg br hh' ll' W ∧ (∀ j, 11 ≤ j → f' j = f j) ∧ ((fin kd s X Y = none ∧ z = 0 ∧ f' 10 = code ∧ (∀ k, k < 20 → W k = V k) ∧ F' = va_up (va_up (va_up F 98 (oM ad f' v')) 99 (aB g hh')) 100 (aL g ll')) ∨ ∃ s' u d x, fin kd s X Y = some (kd, s', u, d) ∧ z = kd ∧ f' 10 = f 10 ∧ (∀ k, k < 20 → k ≠ 2 * to → k ≠ 2 * to + 1 → W k = V k) ∧ mreg (va_up kk to kd) (va_up bb to (if s' < 0 then 1 else 0)) (va_up rr to x) W to kd s' u d ∧ F' = va_up (va_up (va_up (va_up (va_up (va_up F 98 (oM ad f' v')) 99 (aB g hh')) 100 (aL g ll')) 101 (.inl (g 0, 8, .inl (aI (va_up kk to kd))))) 102 (.inl (g 2, 8, .inl (aI (va_up bb to (if s' < 0 then 1 else 0)))))) 103 (.inl (g 3, 8, .inr (.inr (.inr (.inl (va_up rr to x))))))))) := by
  refine JC.go hfl (own := "NumberTowerModel") (lv := [(0, .ref (ad 98)), (1, .int (iI kd)), (2, .int (iI (to : Int))), (3, .int (iI code))]) rfl (by decide +kernel) (Nat.le_of_ble_eq_true rfl) rfl (fun A => ?_)
  refine J_aload_n 0 d_M_store_0 rfl rfl ?_
  refine J_iload_n 1 d_M_store_1 rfl rfl ?_
  refine J_callVv cw_M_132 nh_M_form pn_M_form rfl rfl (by omega) hO (As := [.int (iI kd)]) (rest := []) rfl (Nat.le_of_ble_eq_true rfl) ⟨by decide, by decide⟩ rfl ⟨by decide, by decide⟩ d_M_store_2 (c_M_form hfl (X := X) (Y := Y) (kd := kd) (s := s) hN hO hB hL hR hzz hX hY hY0 hlX hlY hbX hbY hkd hrs hs) (fun  F1 hq => ?_)
  obtain ⟨e1, e2, W1, b, rs1, v1, hR1, hf1, hb, hcase, eF1⟩ := hq
  refine J_eqF (F2 := va_up (va_up (va_up F 98 (oM ad (va_up (va_up f 8 b) 7 rs1) v1)) 99 (.inl (g 0, 858, .inl (aI e1)))) 100 (.inl (g 0, 33, .inl (aI e2)))) eF1 ?_
  obtain ⟨HC, hHC⟩ : ∃ P : Prop, P = ((b = 1 ∧ fin kd s X Y = none) ∨ (b = 0 ∧ ∃ s' u d, fin kd s X Y = some (kd, s', u, d) ∧ (kd ≠ 2 → W1 20 = u ∧ W1 21 = d) ∧ (kd = 2 → v1 = fd false u (1 - (blen d : Int)) ∧ W1 20 * d = u * W1 21 ∧ 0 < W1 21 ∧ W1 20 < 2 ^ 224 ∧ W1 21 < 2 ^ 224) ∧ rs1 = (if s' < 0 then 1 else 0))) := ⟨_, rfl⟩
  rw [← hHC] at hcase
  refine J_aload_n 0 d_M_store_5 rfl rfl ?_
  refine gf_M_94 (by omega) (by rw [va_up_ne _ _ (by decide), va_up_ne _ _ (by decide), va_up_self]) rfl d_M_store_6 ?_
  refine J_topi (r := b) (congrArg iI ((va_up_ne _ _ (by decide)).trans (va_up_self ..))) ?_
  have hb9 : b = 0 ∨ b = 1 := hb
  refine J_ifeq (tgt := 18) d_M_store_9 (by decide) ⟨by omega, by omega⟩ (fun c9 => ?_) (fun c9 => ?_)
  · have hrs01 : rs1 = 0 ∨ rs1 = 1 := by
      rw [hHC] at hcase
      rcases hcase with ⟨w1, w2⟩ | ⟨w1, s', u, d, w2, w3, w4, w5⟩
      · omega
      · rw [w5]; split <;> omega
    refine J_aload_n 0 d_M_store_18 rfl rfl ?_
    refine gf_M_16 (by omega) (by rw [va_up_ne _ _ (by decide), va_up_ne _ _ (by decide), va_up_self]) rfl d_M_store_19 ?_
    refine J_iload_n 2 d_M_store_22 rfl rfl ?_
    refine J_iload_n 1 d_M_store_23 rfl rfl ?_
    refine J_iastore 0 rfl (by omega) (by rw [va_up_ne _ _ (by decide), va_up_ne _ _ (by decide), va_up_ne _ _ (by decide)]; exact hKk) (by omega) d_M_store_24 ?_
    refine J_eqF (F2 := va_up (va_up (va_up (va_up F 98 (oM ad (va_up (va_up f 8 b) 7 rs1) v1)) 99 (.inl (g 0, 858, .inl (aI e1)))) 100 (.inl (g 0, 33, .inl (aI e2)))) 101 (.inl (g 0, 8, .inl (aI (va_up kk to kd))))) (congrArg (fun q => va_up (va_up (va_up (va_up F 98 (oM ad (va_up (va_up f 8 b) 7 rs1) v1)) 99 (.inl (g 0, 858, .inl (aI e1)))) 100 (.inl (g 0, 33, .inl (aI e2)))) 101 (.inl (g 0, 8, .inl (aI (va_up kk q kd))))) (by omega : (to : Int).toNat = to)) ?_
    refine J_aload_n 0 d_M_store_25 rfl rfl ?_
    refine gf_M_19 (by omega) (by rw [va_up_ne _ _ (by decide), va_up_ne _ _ (by decide), va_up_ne _ _ (by decide), va_up_self]) rfl d_M_store_26 ?_
    refine J_iload_n 2 d_M_store_29 rfl rfl ?_
    refine J_aload_n 0 d_M_store_30 rfl rfl ?_
    refine gf_M_129 (by omega) (by rw [va_up_ne _ _ (by decide), va_up_ne _ _ (by decide), va_up_ne _ _ (by decide), va_up_self]) rfl d_M_store_31 ?_
    refine J_topi (r := rs1) (congrArg iI (va_up_self ..)) ?_
    refine J_zastore 2 rfl (by omega) (by rw [va_up_ne _ _ (by decide), va_up_ne _ _ (by decide), va_up_ne _ _ (by decide), va_up_ne _ _ (by decide)]; exact hBb) (by omega) (nar_z (by omega)) d_M_store_34 ?_
    refine J_eqF (F2 := va_up (va_up (va_up (va_up (va_up F 98 (oM ad (va_up (va_up f 8 b) 7 rs1) v1)) 99 (.inl (g 0, 858, .inl (aI e1)))) 100 (.inl (g 0, 33, .inl (aI e2)))) 101 (.inl (g 0, 8, .inl (aI (va_up kk to kd))))) 102 (.inl (g 2, 8, .inl (aI (va_up bb to rs1))))) (congrArg (fun q => va_up (va_up (va_up (va_up (va_up F 98 (oM ad (va_up (va_up f 8 b) 7 rs1) v1)) 99 (.inl (g 0, 858, .inl (aI e1)))) 100 (.inl (g 0, 33, .inl (aI e2)))) 101 (.inl (g 0, 8, .inl (aI (va_up kk to kd))))) 102 (.inl (g 2, 8, .inl (aI (va_up bb q rs1))))) (by omega : (to : Int).toNat = to)) ?_
    refine J_aload_n 0 d_M_store_35 rfl rfl ?_
    refine gf_M_23 (by omega) (by rw [va_up_ne _ _ (by decide), va_up_ne _ _ (by decide), va_up_ne _ _ (by decide), va_up_ne _ _ (by decide), va_up_self]) rfl d_M_store_36 ?_
    refine J_iload_n 2 d_M_store_39 rfl rfl ?_
    refine J_iload_n 1 d_M_store_40 rfl rfl ?_
    refine J_iconst d_M_store_41 ?_
    refine J_if_icmpne (tgt := 52) d_M_store_42 (by decide) ⟨by omega, by omega⟩ ⟨by omega, by omega⟩ (fun c42 => ?_) (fun c42 => ?_)
    · refine J_dconst0 d_M_store_52 ?_
      refine J_dastore 3 rfl (by omega) (by rw [va_up_ne _ _ (by decide), va_up_ne _ _ (by decide), va_up_ne _ _ (by decide), va_up_ne _ _ (by decide), va_up_ne _ _ (by decide)]; exact hRr) (by omega) d_M_store_53 ?_
      refine J_eqF (F2 := va_up (va_up (va_up (va_up (va_up (va_up F 98 (oM ad (va_up (va_up f 8 b) 7 rs1) v1)) 99 (.inl (g 0, 858, .inl (aI e1)))) 100 (.inl (g 0, 33, .inl (aI e2)))) 101 (.inl (g 0, 8, .inl (aI (va_up kk to kd))))) 102 (.inl (g 2, 8, .inl (aI (va_up bb to rs1))))) 103 (.inl (g 3, 8, .inr (.inr (.inr (.inl (va_up rr to FP.dconst0))))))) (congrArg (fun q => va_up (va_up (va_up (va_up (va_up (va_up F 98 (oM ad (va_up (va_up f 8 b) 7 rs1) v1)) 99 (.inl (g 0, 858, .inl (aI e1)))) 100 (.inl (g 0, 33, .inl (aI e2)))) 101 (.inl (g 0, 8, .inl (aI (va_up kk to kd))))) 102 (.inl (g 2, 8, .inl (aI (va_up bb to rs1))))) 103 (.inl (g 3, 8, .inr (.inr (.inr (.inl (va_up rr q FP.dconst0))))))) (by omega : (to : Int).toNat = to)) ?_
      refine J_aload_n 0 d_M_store_54 rfl rfl ?_
      refine J_bipush d_M_store_55 (i8_ok (by decide)) ?_
      refine J_iconst d_M_store_57 ?_
      refine J_iload_n 2 d_M_store_58 rfl rfl ?_
      refine J_imul d_M_store_59 ?_
      refine J_callVv cw_M_58 nh_M_copy pn_M_copy rfl rfl (by omega) (by rw [va_up_ne _ _ (by decide), va_up_ne _ _ (by decide), va_up_ne _ _ (by decide), va_up_ne _ _ (by decide), va_up_ne _ _ (by decide), va_up_self]) (As := [.int (iI 20), .int (iI (2 * (to : Int)))]) (rest := []) rfl (Nat.le_of_ble_eq_true rfl) ⟨by decide, by decide⟩ rfl ⟨by decide, by decide⟩ d_M_store_60 (k_M_copy hfl (a := 20) (b := 2 * to) (hh := e1) (ll := e2) (V := W1) (br := br) (hN := hN) (hO := (by rw [va_up_ne _ _ (by decide), va_up_ne _ _ (by decide), va_up_ne _ _ (by decide), va_up_ne _ _ (by decide), va_up_ne _ _ (by decide), va_up_self])) (hB := (by rw [va_up_ne _ _ (by decide), va_up_ne _ _ (by decide), va_up_ne _ _ (by decide), va_up_ne _ _ (by decide), va_up_self])) (hL := (by rw [va_up_ne _ _ (by decide), va_up_ne _ _ (by decide), va_up_ne _ _ (by decide), va_up_self])) (hR := hR1) (ha := by omega) (hb := by omega) (hxa := rfl) (bra := (hzz.2 20 (by decide) (by decide)))) (fun  F2 hq => ?_)
      obtain ⟨bh1, bl2, hR3, eF2⟩ := hq
      refine J_eqF (F2 := va_up (va_up (va_up (va_up (va_up (va_up F 98 (oM ad (va_up (va_up f 8 b) 7 rs1) v1)) 99 (.inl (g 0, 858, .inl (aI bh1)))) 100 (.inl (g 0, 33, .inl (aI bl2)))) 101 (.inl (g 0, 8, .inl (aI (va_up kk to kd))))) 102 (.inl (g 2, 8, .inl (aI (va_up bb to rs1))))) 103 (.inl (g 3, 8, .inr (.inr (.inr (.inl (va_up rr to FP.dconst0))))))) (eF2.trans (Eq.trans (congrArg (fun q : Nat → va_E => va_up q 100 (.inl (g 0, 33, .inl (aI bl2)))) (up_in4 (by decide) (by decide) (by decide) (by decide))) (up_in3 (by decide) (by decide) (by decide)))) ?_
      have hR6 := reg_w1 (hzz.1 _) hR3
      refine J_aload_n 0 d_M_store_63 rfl rfl ?_
      refine J_bipush d_M_store_64 (i8_ok (by decide)) ?_
      refine J_iconst d_M_store_66 ?_
      refine J_iload_n 2 d_M_store_67 rfl rfl ?_
      refine J_imul d_M_store_68 ?_
      refine J_iconst d_M_store_69 ?_
      refine J_iadd d_M_store_70 ?_
      refine J_callVv cw_M_58 nh_M_copy pn_M_copy rfl rfl (by omega) (by rw [va_up_ne _ _ (by decide), va_up_ne _ _ (by decide), va_up_ne _ _ (by decide), va_up_ne _ _ (by decide), va_up_ne _ _ (by decide), va_up_self]) (As := [.int (iI 21), .int (iI ((2 * (to : Int)) + 1))]) (rest := []) rfl (Nat.le_of_ble_eq_true rfl) ⟨by decide, by decide⟩ rfl ⟨by decide, by decide⟩ d_M_store_71 (k_M_copy hfl (a := 21) (b := (2 * to) + 1) (hh := bh1) (ll := bl2) (V := va_up W1 (2 * to) (W1 20)) (br := br) (hN := hN) (hO := (by rw [va_up_ne _ _ (by decide), va_up_ne _ _ (by decide), va_up_ne _ _ (by decide), va_up_ne _ _ (by decide), va_up_ne _ _ (by decide), va_up_self])) (hB := (by rw [va_up_ne _ _ (by decide), va_up_ne _ _ (by decide), va_up_ne _ _ (by decide), va_up_ne _ _ (by decide), va_up_self])) (hL := (by rw [va_up_ne _ _ (by decide), va_up_ne _ _ (by decide), va_up_ne _ _ (by decide), va_up_self])) (hR := hR6) (ha := by omega) (hb := by omega) (hxa := (va_up_ne _ _ (by omega))) (bra := (hzz.2 21 (by decide) (by decide)))) (fun  F3 hq => ?_)
      obtain ⟨bh7, bl8, hR9, eF3⟩ := hq
      refine J_eqF (F2 := va_up (va_up (va_up (va_up (va_up (va_up F 98 (oM ad (va_up (va_up f 8 b) 7 rs1) v1)) 99 (.inl (g 0, 858, .inl (aI bh7)))) 100 (.inl (g 0, 33, .inl (aI bl8)))) 101 (.inl (g 0, 8, .inl (aI (va_up kk to kd))))) 102 (.inl (g 2, 8, .inl (aI (va_up bb to rs1))))) 103 (.inl (g 3, 8, .inr (.inr (.inr (.inl (va_up rr to FP.dconst0))))))) (eF3.trans (Eq.trans (congrArg (fun q : Nat → va_E => va_up q 100 (.inl (g 0, 33, .inl (aI bl8)))) (up_in4 (by decide) (by decide) (by decide) (by decide))) (up_in3 (by decide) (by decide) (by decide)))) ?_
      have hR12 := reg_w1 (hzz.1 _) hR9
      refine J_iload_n 1 d_M_store_74 rfl rfl ?_
      refine J_iconst d_M_store_75 ?_
      refine J_if_icmpne (tgt := 99) d_M_store_76 (by decide) ⟨by omega, by omega⟩ ⟨by omega, by omega⟩ (fun c76 => ?_) (fun c76 => ?_)
      · refine J_iload_n 1 d_M_store_99 rfl rfl ?_
        refine J_iret rfl rfl d_M_store_100 ⟨by decide, by decide⟩ ?_
        rw [hHC] at hcase
        rcases hcase with ⟨w1, w2⟩ | ⟨w1, s', u, d, w2, w3, w4, w5⟩
        · omega
        refine ⟨_, rfl, rfl, rfl, bh7, bl8, va_up (va_up f 8 b) 7 rs1, va_up (va_up W1 (2 * to) (W1 20)) ((2 * to) + 1) (W1 21), v1, hR12, fun j hj => by rw [va_up_ne _ _ (by omega), va_up_ne _ _ (by omega)], Or.inr ⟨s', u, d, Jvm.FP.dconst0, w2, rfl, by rw [va_up_ne _ _ (by omega), va_up_ne _ _ (by omega)], fun k k1 k2 k3 => (show (va_up (va_up W1 (2 * to) (W1 20)) ((2 * to) + 1) (W1 21)) k = W1 k from by rw [va_up_ne _ _ (by omega), va_up_ne _ _ (by omega)]).trans (hf1 k (by omega) (by omega) (by omega)), ⟨va_up_self .., va_up_self .., ?_, ?_⟩, by rw [w5]⟩⟩
        · intro e; exact ⟨(((va_up_ne _ _ (by omega)).trans (va_up_self ..))).trans (w3 e).1, ((va_up_self ..)).trans (w3 e).2⟩
        · intro e; exact absurd e (by omega)
      · refine J_aload_n 0 d_M_store_79 rfl rfl ?_
        refine gf_M_13 (by omega) (by rw [va_up_ne _ _ (by decide), va_up_ne _ _ (by decide), va_up_ne _ _ (by decide), va_up_ne _ _ (by decide), va_up_ne _ _ (by decide), va_up_self]) rfl d_M_store_80 ?_
        refine J_iconst d_M_store_83 ?_
        refine J_iload_n 2 d_M_store_84 rfl rfl ?_
        refine J_imul d_M_store_85 ?_
        refine J_iconst d_M_store_86 ?_
        refine J_iastore 0 rfl (by omega) (by rw [va_up_ne _ _ (by decide), va_up_ne _ _ (by decide), va_up_ne _ _ (by decide), va_up_self]) (by omega) d_M_store_87 ?_
        refine J_eqF (F2 := va_up (va_up (va_up (va_up (va_up (va_up (va_up F 98 (oM ad (va_up (va_up f 8 b) 7 rs1) v1)) 99 (.inl (g 0, 858, .inl (aI bh7)))) 100 (.inl (g 0, 33, .inl (aI bl8)))) 101 (.inl (g 0, 8, .inl (aI (va_up kk to kd))))) 102 (.inl (g 2, 8, .inl (aI (va_up bb to rs1))))) 103 (.inl (g 3, 8, .inr (.inr (.inr (.inl (va_up rr to FP.dconst0))))))) 100 (.inl (g 0, 33, .inl (aI (va_up bl8 (2 * to) 0))))) (congrArg (fun q => va_up (va_up (va_up (va_up (va_up (va_up (va_up F 98 (oM ad (va_up (va_up f 8 b) 7 rs1) v1)) 99 (.inl (g 0, 858, .inl (aI bh7)))) 100 (.inl (g 0, 33, .inl (aI bl8)))) 101 (.inl (g 0, 8, .inl (aI (va_up kk to kd))))) 102 (.inl (g 2, 8, .inl (aI (va_up bb to rs1))))) 103 (.inl (g 3, 8, .inr (.inr (.inr (.inl (va_up rr to FP.dconst0))))))) 100 (.inl (g 0, 33, .inl (aI (va_up bl8 q 0))))) (by omega : (2 * (to : Int)).toNat = 2 * to)) ?_
        refine J_eqF (F2 := va_up (va_up (va_up (va_up (va_up (va_up F 98 (oM ad (va_up (va_up f 8 b) 7 rs1) v1)) 99 (.inl (g 0, 858, .inl (aI bh7)))) 100 (.inl (g 0, 33, .inl (aI (va_up bl8 (2 * to) 0))))) 101 (.inl (g 0, 8, .inl (aI (va_up kk to kd))))) 102 (.inl (g 2, 8, .inl (aI (va_up bb to rs1))))) 103 (.inl (g 3, 8, .inr (.inr (.inr (.inl (va_up rr to FP.dconst0))))))) (up_in3 (by decide) (by decide) (by decide)) ?_
        have hR13 := reg_w1 (hzz.1 _) (reg_zero hR12 (2 * to))
        have hR14 := (congrArg (fun qq : Nat → Nat => reg _ _ _ (qq)) (up_in1 (by omega))).mp hR13
        refine J_aload_n 0 d_M_store_88 rfl rfl ?_
        refine gf_M_13 (by omega) (by rw [va_up_ne _ _ (by decide), va_up_ne _ _ (by decide), va_up_ne _ _ (by decide), va_up_ne _ _ (by decide), va_up_ne _ _ (by decide), va_up_self]) rfl d_M_store_89 ?_
        refine J_iconst d_M_store_92 ?_
        refine J_iload_n 2 d_M_store_93 rfl rfl ?_
        refine J_imul d_M_store_94 ?_
        refine J_iconst d_M_store_95 ?_
        refine J_iadd d_M_store_96 ?_
        refine J_iconst d_M_store_97 ?_
        refine J_iastore 0 rfl (by omega) (by rw [va_up_ne _ _ (by decide), va_up_ne _ _ (by decide), va_up_ne _ _ (by decide), va_up_self]) (by omega) d_M_store_98 ?_
        refine J_eqF (F2 := va_up (va_up (va_up (va_up (va_up (va_up (va_up F 98 (oM ad (va_up (va_up f 8 b) 7 rs1) v1)) 99 (.inl (g 0, 858, .inl (aI bh7)))) 100 (.inl (g 0, 33, .inl (aI (va_up bl8 (2 * to) 0))))) 101 (.inl (g 0, 8, .inl (aI (va_up kk to kd))))) 102 (.inl (g 2, 8, .inl (aI (va_up bb to rs1))))) 103 (.inl (g 3, 8, .inr (.inr (.inr (.inl (va_up rr to FP.dconst0))))))) 100 (.inl (g 0, 33, .inl (aI (va_up (va_up bl8 (2 * to) 0) ((2 * to) + 1) 0))))) (congrArg (fun q => va_up (va_up (va_up (va_up (va_up (va_up (va_up F 98 (oM ad (va_up (va_up f 8 b) 7 rs1) v1)) 99 (.inl (g 0, 858, .inl (aI bh7)))) 100 (.inl (g 0, 33, .inl (aI (va_up bl8 (2 * to) 0))))) 101 (.inl (g 0, 8, .inl (aI (va_up kk to kd))))) 102 (.inl (g 2, 8, .inl (aI (va_up bb to rs1))))) 103 (.inl (g 3, 8, .inr (.inr (.inr (.inl (va_up rr to FP.dconst0))))))) 100 (.inl (g 0, 33, .inl (aI (va_up (va_up bl8 (2 * to) 0) q 0))))) (by omega : ((2 * (to : Int)) + 1).toNat = (2 * to) + 1)) ?_
        refine J_eqF (F2 := va_up (va_up (va_up (va_up (va_up (va_up F 98 (oM ad (va_up (va_up f 8 b) 7 rs1) v1)) 99 (.inl (g 0, 858, .inl (aI bh7)))) 100 (.inl (g 0, 33, .inl (aI (va_up (va_up bl8 (2 * to) 0) ((2 * to) + 1) 0))))) 101 (.inl (g 0, 8, .inl (aI (va_up kk to kd))))) 102 (.inl (g 2, 8, .inl (aI (va_up bb to rs1))))) 103 (.inl (g 3, 8, .inr (.inr (.inr (.inl (va_up rr to FP.dconst0))))))) (up_in3 (by decide) (by decide) (by decide)) ?_
        have hR15 := reg_w1 (hzz.1 _) (reg_zero hR14 (2 * to + 1))
        refine J_iload_n 1 d_M_store_99 rfl rfl ?_
        refine J_iret rfl rfl d_M_store_100 ⟨by decide, by decide⟩ ?_
        exfalso
        omega
    · refine J_aload_n 0 d_M_store_45 rfl rfl ?_
      refine gf_M_122 (by omega) (by rw [va_up_ne _ _ (by decide), va_up_ne _ _ (by decide), va_up_ne _ _ (by decide), va_up_ne _ _ (by decide), va_up_self]) rfl d_M_store_46 ?_
      refine J_goto (tgt := 53) d_M_store_49 (by decide) ?_
      refine J_dastore 3 rfl (by omega) (by rw [va_up_ne _ _ (by decide), va_up_ne _ _ (by decide), va_up_ne _ _ (by decide), va_up_ne _ _ (by decide), va_up_ne _ _ (by decide)]; exact hRr) (by omega) d_M_store_53 ?_
      refine J_eqF (F2 := va_up (va_up (va_up (va_up (va_up (va_up F 98 (oM ad (va_up (va_up f 8 b) 7 rs1) v1)) 99 (.inl (g 0, 858, .inl (aI e1)))) 100 (.inl (g 0, 33, .inl (aI e2)))) 101 (.inl (g 0, 8, .inl (aI (va_up kk to kd))))) 102 (.inl (g 2, 8, .inl (aI (va_up bb to rs1))))) 103 (.inl (g 3, 8, .inr (.inr (.inr (.inl (va_up rr to v1))))))) (congrArg (fun q => va_up (va_up (va_up (va_up (va_up (va_up F 98 (oM ad (va_up (va_up f 8 b) 7 rs1) v1)) 99 (.inl (g 0, 858, .inl (aI e1)))) 100 (.inl (g 0, 33, .inl (aI e2)))) 101 (.inl (g 0, 8, .inl (aI (va_up kk to kd))))) 102 (.inl (g 2, 8, .inl (aI (va_up bb to rs1))))) 103 (.inl (g 3, 8, .inr (.inr (.inr (.inl (va_up rr q v1))))))) (by omega : (to : Int).toNat = to)) ?_
      refine J_aload_n 0 d_M_store_54 rfl rfl ?_
      refine J_bipush d_M_store_55 (i8_ok (by decide)) ?_
      refine J_iconst d_M_store_57 ?_
      refine J_iload_n 2 d_M_store_58 rfl rfl ?_
      refine J_imul d_M_store_59 ?_
      refine J_callVv cw_M_58 nh_M_copy pn_M_copy rfl rfl (by omega) (by rw [va_up_ne _ _ (by decide), va_up_ne _ _ (by decide), va_up_ne _ _ (by decide), va_up_ne _ _ (by decide), va_up_ne _ _ (by decide), va_up_self]) (As := [.int (iI 20), .int (iI (2 * (to : Int)))]) (rest := []) rfl (Nat.le_of_ble_eq_true rfl) ⟨by decide, by decide⟩ rfl ⟨by decide, by decide⟩ d_M_store_60 (k_M_copy hfl (a := 20) (b := 2 * to) (hh := e1) (ll := e2) (V := W1) (br := br) (hN := hN) (hO := (by rw [va_up_ne _ _ (by decide), va_up_ne _ _ (by decide), va_up_ne _ _ (by decide), va_up_ne _ _ (by decide), va_up_ne _ _ (by decide), va_up_self])) (hB := (by rw [va_up_ne _ _ (by decide), va_up_ne _ _ (by decide), va_up_ne _ _ (by decide), va_up_ne _ _ (by decide), va_up_self])) (hL := (by rw [va_up_ne _ _ (by decide), va_up_ne _ _ (by decide), va_up_ne _ _ (by decide), va_up_self])) (hR := hR1) (ha := by omega) (hb := by omega) (hxa := rfl) (bra := (hzz.2 20 (by decide) (by decide)))) (fun  F4 hq => ?_)
      obtain ⟨bh16, bl17, hR18, eF4⟩ := hq
      refine J_eqF (F2 := va_up (va_up (va_up (va_up (va_up (va_up F 98 (oM ad (va_up (va_up f 8 b) 7 rs1) v1)) 99 (.inl (g 0, 858, .inl (aI bh16)))) 100 (.inl (g 0, 33, .inl (aI bl17)))) 101 (.inl (g 0, 8, .inl (aI (va_up kk to kd))))) 102 (.inl (g 2, 8, .inl (aI (va_up bb to rs1))))) 103 (.inl (g 3, 8, .inr (.inr (.inr (.inl (va_up rr to v1))))))) (eF4.trans (Eq.trans (congrArg (fun q : Nat → va_E => va_up q 100 (.inl (g 0, 33, .inl (aI bl17)))) (up_in4 (by decide) (by decide) (by decide) (by decide))) (up_in3 (by decide) (by decide) (by decide)))) ?_
      have hR21 := reg_w1 (hzz.1 _) hR18
      refine J_aload_n 0 d_M_store_63 rfl rfl ?_
      refine J_bipush d_M_store_64 (i8_ok (by decide)) ?_
      refine J_iconst d_M_store_66 ?_
      refine J_iload_n 2 d_M_store_67 rfl rfl ?_
      refine J_imul d_M_store_68 ?_
      refine J_iconst d_M_store_69 ?_
      refine J_iadd d_M_store_70 ?_
      refine J_callVv cw_M_58 nh_M_copy pn_M_copy rfl rfl (by omega) (by rw [va_up_ne _ _ (by decide), va_up_ne _ _ (by decide), va_up_ne _ _ (by decide), va_up_ne _ _ (by decide), va_up_ne _ _ (by decide), va_up_self]) (As := [.int (iI 21), .int (iI ((2 * (to : Int)) + 1))]) (rest := []) rfl (Nat.le_of_ble_eq_true rfl) ⟨by decide, by decide⟩ rfl ⟨by decide, by decide⟩ d_M_store_71 (k_M_copy hfl (a := 21) (b := (2 * to) + 1) (hh := bh16) (ll := bl17) (V := va_up W1 (2 * to) (W1 20)) (br := br) (hN := hN) (hO := (by rw [va_up_ne _ _ (by decide), va_up_ne _ _ (by decide), va_up_ne _ _ (by decide), va_up_ne _ _ (by decide), va_up_ne _ _ (by decide), va_up_self])) (hB := (by rw [va_up_ne _ _ (by decide), va_up_ne _ _ (by decide), va_up_ne _ _ (by decide), va_up_ne _ _ (by decide), va_up_self])) (hL := (by rw [va_up_ne _ _ (by decide), va_up_ne _ _ (by decide), va_up_ne _ _ (by decide), va_up_self])) (hR := hR21) (ha := by omega) (hb := by omega) (hxa := (va_up_ne _ _ (by omega))) (bra := (hzz.2 21 (by decide) (by decide)))) (fun  F5 hq => ?_)
      obtain ⟨bh22, bl23, hR24, eF5⟩ := hq
      refine J_eqF (F2 := va_up (va_up (va_up (va_up (va_up (va_up F 98 (oM ad (va_up (va_up f 8 b) 7 rs1) v1)) 99 (.inl (g 0, 858, .inl (aI bh22)))) 100 (.inl (g 0, 33, .inl (aI bl23)))) 101 (.inl (g 0, 8, .inl (aI (va_up kk to kd))))) 102 (.inl (g 2, 8, .inl (aI (va_up bb to rs1))))) 103 (.inl (g 3, 8, .inr (.inr (.inr (.inl (va_up rr to v1))))))) (eF5.trans (Eq.trans (congrArg (fun q : Nat → va_E => va_up q 100 (.inl (g 0, 33, .inl (aI bl23)))) (up_in4 (by decide) (by decide) (by decide) (by decide))) (up_in3 (by decide) (by decide) (by decide)))) ?_
      have hR27 := reg_w1 (hzz.1 _) hR24
      refine J_iload_n 1 d_M_store_74 rfl rfl ?_
      refine J_iconst d_M_store_75 ?_
      refine J_if_icmpne (tgt := 99) d_M_store_76 (by decide) ⟨by omega, by omega⟩ ⟨by omega, by omega⟩ (fun c76 => ?_) (fun c76 => ?_)
      · refine J_iload_n 1 d_M_store_99 rfl rfl ?_
        refine J_iret rfl rfl d_M_store_100 ⟨by decide, by decide⟩ ?_
        exfalso
        omega
      · refine J_aload_n 0 d_M_store_79 rfl rfl ?_
        refine gf_M_13 (by omega) (by rw [va_up_ne _ _ (by decide), va_up_ne _ _ (by decide), va_up_ne _ _ (by decide), va_up_ne _ _ (by decide), va_up_ne _ _ (by decide), va_up_self]) rfl d_M_store_80 ?_
        refine J_iconst d_M_store_83 ?_
        refine J_iload_n 2 d_M_store_84 rfl rfl ?_
        refine J_imul d_M_store_85 ?_
        refine J_iconst d_M_store_86 ?_
        refine J_iastore 0 rfl (by omega) (by rw [va_up_ne _ _ (by decide), va_up_ne _ _ (by decide), va_up_ne _ _ (by decide), va_up_self]) (by omega) d_M_store_87 ?_
        refine J_eqF (F2 := va_up (va_up (va_up (va_up (va_up (va_up (va_up F 98 (oM ad (va_up (va_up f 8 b) 7 rs1) v1)) 99 (.inl (g 0, 858, .inl (aI bh22)))) 100 (.inl (g 0, 33, .inl (aI bl23)))) 101 (.inl (g 0, 8, .inl (aI (va_up kk to kd))))) 102 (.inl (g 2, 8, .inl (aI (va_up bb to rs1))))) 103 (.inl (g 3, 8, .inr (.inr (.inr (.inl (va_up rr to v1))))))) 100 (.inl (g 0, 33, .inl (aI (va_up bl23 (2 * to) 0))))) (congrArg (fun q => va_up (va_up (va_up (va_up (va_up (va_up (va_up F 98 (oM ad (va_up (va_up f 8 b) 7 rs1) v1)) 99 (.inl (g 0, 858, .inl (aI bh22)))) 100 (.inl (g 0, 33, .inl (aI bl23)))) 101 (.inl (g 0, 8, .inl (aI (va_up kk to kd))))) 102 (.inl (g 2, 8, .inl (aI (va_up bb to rs1))))) 103 (.inl (g 3, 8, .inr (.inr (.inr (.inl (va_up rr to v1))))))) 100 (.inl (g 0, 33, .inl (aI (va_up bl23 q 0))))) (by omega : (2 * (to : Int)).toNat = 2 * to)) ?_
        refine J_eqF (F2 := va_up (va_up (va_up (va_up (va_up (va_up F 98 (oM ad (va_up (va_up f 8 b) 7 rs1) v1)) 99 (.inl (g 0, 858, .inl (aI bh22)))) 100 (.inl (g 0, 33, .inl (aI (va_up bl23 (2 * to) 0))))) 101 (.inl (g 0, 8, .inl (aI (va_up kk to kd))))) 102 (.inl (g 2, 8, .inl (aI (va_up bb to rs1))))) 103 (.inl (g 3, 8, .inr (.inr (.inr (.inl (va_up rr to v1))))))) (up_in3 (by decide) (by decide) (by decide)) ?_
        have hR28 := reg_w1 (hzz.1 _) (reg_zero hR27 (2 * to))
        have hR29 := (congrArg (fun qq : Nat → Nat => reg _ _ _ (qq)) (up_in1 (by omega))).mp hR28
        refine J_aload_n 0 d_M_store_88 rfl rfl ?_
        refine gf_M_13 (by omega) (by rw [va_up_ne _ _ (by decide), va_up_ne _ _ (by decide), va_up_ne _ _ (by decide), va_up_ne _ _ (by decide), va_up_ne _ _ (by decide), va_up_self]) rfl d_M_store_89 ?_
        refine J_iconst d_M_store_92 ?_
        refine J_iload_n 2 d_M_store_93 rfl rfl ?_
        refine J_imul d_M_store_94 ?_
        refine J_iconst d_M_store_95 ?_
        refine J_iadd d_M_store_96 ?_
        refine J_iconst d_M_store_97 ?_
        refine J_iastore 0 rfl (by omega) (by rw [va_up_ne _ _ (by decide), va_up_ne _ _ (by decide), va_up_ne _ _ (by decide), va_up_self]) (by omega) d_M_store_98 ?_
        refine J_eqF (F2 := va_up (va_up (va_up (va_up (va_up (va_up (va_up F 98 (oM ad (va_up (va_up f 8 b) 7 rs1) v1)) 99 (.inl (g 0, 858, .inl (aI bh22)))) 100 (.inl (g 0, 33, .inl (aI (va_up bl23 (2 * to) 0))))) 101 (.inl (g 0, 8, .inl (aI (va_up kk to kd))))) 102 (.inl (g 2, 8, .inl (aI (va_up bb to rs1))))) 103 (.inl (g 3, 8, .inr (.inr (.inr (.inl (va_up rr to v1))))))) 100 (.inl (g 0, 33, .inl (aI (va_up (va_up bl23 (2 * to) 0) ((2 * to) + 1) 0))))) (congrArg (fun q => va_up (va_up (va_up (va_up (va_up (va_up (va_up F 98 (oM ad (va_up (va_up f 8 b) 7 rs1) v1)) 99 (.inl (g 0, 858, .inl (aI bh22)))) 100 (.inl (g 0, 33, .inl (aI (va_up bl23 (2 * to) 0))))) 101 (.inl (g 0, 8, .inl (aI (va_up kk to kd))))) 102 (.inl (g 2, 8, .inl (aI (va_up bb to rs1))))) 103 (.inl (g 3, 8, .inr (.inr (.inr (.inl (va_up rr to v1))))))) 100 (.inl (g 0, 33, .inl (aI (va_up (va_up bl23 (2 * to) 0) q 0))))) (by omega : ((2 * (to : Int)) + 1).toNat = (2 * to) + 1)) ?_
        refine J_eqF (F2 := va_up (va_up (va_up (va_up (va_up (va_up F 98 (oM ad (va_up (va_up f 8 b) 7 rs1) v1)) 99 (.inl (g 0, 858, .inl (aI bh22)))) 100 (.inl (g 0, 33, .inl (aI (va_up (va_up bl23 (2 * to) 0) ((2 * to) + 1) 0))))) 101 (.inl (g 0, 8, .inl (aI (va_up kk to kd))))) 102 (.inl (g 2, 8, .inl (aI (va_up bb to rs1))))) 103 (.inl (g 3, 8, .inr (.inr (.inr (.inl (va_up rr to v1))))))) (up_in3 (by decide) (by decide) (by decide)) ?_
        have hR30 := reg_w1 (hzz.1 _) (reg_zero hR29 (2 * to + 1))
        refine J_iload_n 1 d_M_store_99 rfl rfl ?_
        refine J_iret rfl rfl d_M_store_100 ⟨by decide, by decide⟩ ?_
        rw [hHC] at hcase
        rcases hcase with ⟨w1, w2⟩ | ⟨w1, s', u, d, w2, w3, w4, w5⟩
        · omega
        refine ⟨_, rfl, rfl, rfl, bh22, va_up (va_up bl23 (2 * to) 0) ((2 * to) + 1) 0, va_up (va_up f 8 b) 7 rs1, va_up (va_up (va_up W1 (2 * to) 0) ((2 * to) + 1) (W1 21)) (2 * to + 1) 0, v1, hR30, fun j hj => by rw [va_up_ne _ _ (by omega), va_up_ne _ _ (by omega)], Or.inr ⟨s', u, d, v1, w2, rfl, by rw [va_up_ne _ _ (by omega), va_up_ne _ _ (by omega)], fun k k1 k2 k3 => (show (va_up (va_up (va_up W1 (2 * to) 0) ((2 * to) + 1) (W1 21)) (2 * to + 1) 0) k = W1 k from by rw [va_up_ne _ _ (by omega), va_up_ne _ _ (by omega), va_up_ne _ _ (by omega)]).trans (hf1 k (by omega) (by omega) (by omega)), ⟨va_up_self .., va_up_self .., ?_, ?_⟩, by rw [w5]⟩⟩
        · intro e; exact absurd e (by omega)
        · intro e; exact ⟨((va_up_ne _ _ (by omega)).trans ((va_up_ne _ _ (by omega)).trans (va_up_self ..))), (va_up_self ..), (va_up_self ..).trans (w4 e).1⟩
  · refine J_aload_n 0 d_M_store_12 rfl rfl ?_
    refine J_iload_n 3 d_M_store_13 rfl rfl ?_
    refine J_callVi cw_M_135 nh_M_fail pn_M_fail rfl rfl (by omega) (by rw [va_up_ne _ _ (by decide), va_up_ne _ _ (by decide), va_up_self]) (As := [.int (iI code)]) (rest := []) rfl (Nat.le_of_ble_eq_true rfl) ⟨by decide, by decide⟩ rfl ⟨by decide, by decide⟩ d_M_store_14 (c_M_fail hfl (f := va_up (va_up f 8 b) 7 rs1) (v := v1) (code := code) hN (by rw [va_up_ne _ _ (by decide), va_up_ne _ _ (by decide), va_up_self])) (fun zf F6 hq => ?_)
    obtain ⟨hzf, eF6⟩ := hq
    refine J_eqF (F2 := va_up (va_up (va_up F 98 (oM ad (va_up (va_up (va_up f 8 b) 7 rs1) 10 code) v1)) 99 (.inl (g 0, 858, .inl (aI e1)))) 100 (.inl (g 0, 33, .inl (aI e2)))) (eF6.trans (up_in2 (by decide) (by decide))) ?_
    refine J_iret rfl rfl d_M_store_17 ⟨by decide, by decide⟩ ?_
    rw [hHC] at hcase
    rcases hcase with ⟨w1, w2⟩ | ⟨w1, w2⟩
    · exact ⟨_, rfl, rfl, rfl, e1, e2, va_up (va_up (va_up f 8 b) 7 rs1) 10 code, W1, v1, hR1, fun j hj => by rw [va_up_ne _ _ (by omega), va_up_ne _ _ (by omega), va_up_ne _ _ (by omega)], Or.inl ⟨w2, hzf, va_up_self .., fun k hk => hf1 k (by omega) (by omega) (by omega), rfl⟩⟩
    · omega
