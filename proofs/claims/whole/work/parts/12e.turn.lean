/-! the Model: turns, roundings, compares -/
set_option maxRecDepth 100000 in
set_option maxHeartbeats 4000000 in
theorem c_M_turn {l : Launch} (hfl : l.flags = flags0) {D : va_G} {g : Nat → ClassId} {ad : Nat → Nat} {N : Nat} {F : Nat → va_E} {R : Nat → Vn} {ln sh : List Nat} {th0 : Int} {what a to : Int}
    (hN : 109 ≤ N) (hM : mst ad g R ln sh th0 F) (hw : inI what) (ha : inI a) (hto : inI to) :
    JC l y_M_turn b_M_turn 4 (Option.some Jvm.ClassFile.FieldType.int) rm_M_turn (0, 0) D jCl (jTys g) ad N F [.ref (ad 98), .int (iI what), .int (iI a), .int (iI to)] (ji ad N (fun z F' => msto ad g R ln sh (fun k => if k = 0 then 1 else 2) to (turnO R what a to) z F' ∧ offM F F')) := by
  obtain ⟨hh, ll, f, v, V, br, kk, bb, rr, lh, xh, dh, tt, hD0, hth⟩ := hM
  have hD := hD0
  obtain ⟨hO, hB, hL, hR, hzz, hKk, hBb, hRr, hmr, h104, h105, h106, h107, hln, hsh⟩ := hD
  have hkI := mR_kI hmr
  refine JC.go hfl (own := "NumberTowerModel") (lv := [(0, .ref (ad 98)), (1, .int (iI what)), (2, .int (iI a)), (3, .int (iI to))]) rfl (by decide +kernel) (Nat.le_of_ble_eq_true rfl) rfl (fun A => ?_)
  refine J_aload_n 0 d_M_turn_0 rfl rfl ?_
  refine J_iconst d_M_turn_1 ?_
  refine pm_M_39 (by omega) hO d_M_turn_2 ?_
  refine J_iload_n 1 d_M_turn_5 rfl rfl ?_
  refine J_iconst d_M_turn_6 ?_
  refine J_iconst d_M_turn_7 ?_
  refine J_callSi cw_M_138 nh_M_in pn_M_in rfl (As := [.int (iI what), .int (iI 0), .int (iI 4)]) (rest := []) rfl (Nat.le_of_ble_eq_true rfl) ⟨by decide, by decide⟩ rfl ⟨by decide, by decide⟩ d_M_turn_8 (c_M_in hfl (a := what) (b := 0) (c := 4) (hw) (by decide) (by decide)) (fun z1 F1 hq => ?_)
  obtain ⟨hz1, eF1⟩ := hq
  refine J_eqF eF1 ?_
  refine J_ifeq (tgt := 32) d_M_turn_11 (by decide) ⟨by omega, by omega⟩ (fun c11 => ?_) (fun c11 => ?_)
  · refine J_aload_n 0 d_M_turn_32 rfl rfl ?_
    refine J_iconst d_M_turn_33 ?_
    refine J_callVi cw_M_135 nh_M_fail pn_M_fail rfl rfl (by omega) (by rw [va_up_self]) (As := [.int (iI 1)]) (rest := []) rfl (Nat.le_of_ble_eq_true rfl) ⟨by decide, by decide⟩ rfl ⟨by decide, by decide⟩ d_M_turn_34 (c_M_fail hfl (code := 1) (f := va_up f 10 0) (v := v) hN (by rw [va_up_self])) (fun z2 F2 hq => ?_)
    obtain ⟨hz2, eF2⟩ := hq
    refine J_eqF (F2 := va_up F 98 (oM ad (va_up f 10 1) v)) ((eF2.trans (congrArg (fun qq : Nat → Int => va_up (va_up F 98 (oM ad (va_up f 10 0) v)) 98 (oM ad qq v)) (up_in0))).trans (up_in0)) ?_
    refine J_topi (r := 0) (congrArg iI hz2) ?_
    refine J_eqF (F2 := va_up (va_up F 98 (oM ad (va_up f 10 1) v)) 99 (.inl (g 0, 858, .inl (aI hh)))) (up_same1 (by rw [va_up_ne _ _ (by decide)]; exact hB)) ?_
    refine J_eqF (F2 := va_up (va_up (va_up F 98 (oM ad (va_up f 10 1) v)) 99 (.inl (g 0, 858, .inl (aI hh)))) 100 (.inl (g 0, 33, .inl (aI ll)))) (up_same1 (by rw [va_up_ne _ _ (by decide), va_up_ne _ _ (by decide)]; exact hL)) ?_
    refine J_iret rfl rfl d_M_turn_37 ⟨by decide, by decide⟩ ?_
    exact ⟨_, rfl, rfl, rfl, Or.inl ⟨0, if_neg (fun h => by first | omega | exact h.2.1 (regV_no hmr (by omega))), rfl, mst_3 hD0 hR hzz (fun k hk => (show (V) k = V k from by rfl)) (va_up_ne _ _ (by decide)) (va_up_ne _ _ (by decide)) (va_up_self ..)⟩, offM_3⟩
  · refine J_aload_n 0 d_M_turn_14 rfl rfl ?_
    refine J_iload_n 2 d_M_turn_15 rfl rfl ?_
    refine J_callVi cw_M_176 nh_M_isNumber pn_M_isNumber rfl rfl (by omega) (by rw [va_up_self]) (As := [.int (iI a)]) (rest := []) rfl (Nat.le_of_ble_eq_true rfl) ⟨by decide, by decide⟩ rfl ⟨by decide, by decide⟩ d_M_turn_16 (c_M_isNumber hfl (r := a) (f := va_up f 10 0) (v := v) (kk := kk) hN (by rw [va_up_self]) (by rw [va_up_ne _ _ (by decide)]; exact hKk) (by omega) (fun j hj => ⟨by have := hkI j hj; omega, by have := hkI j hj; omega⟩)) (fun z3 F3 hq => ?_)
    obtain ⟨hz3, eF3⟩ := hq
    refine J_eqF eF3 ?_
    refine J_ifeq (tgt := 32) d_M_turn_19 (by decide) ⟨by omega, by omega⟩ (fun c19 => ?_) (fun c19 => ?_)
    · refine J_aload_n 0 d_M_turn_32 rfl rfl ?_
      refine J_iconst d_M_turn_33 ?_
      refine J_callVi cw_M_135 nh_M_fail pn_M_fail rfl rfl (by omega) (by rw [va_up_self]) (As := [.int (iI 1)]) (rest := []) rfl (Nat.le_of_ble_eq_true rfl) ⟨by decide, by decide⟩ rfl ⟨by decide, by decide⟩ d_M_turn_34 (c_M_fail hfl (code := 1) (f := va_up f 10 0) (v := v) hN (by rw [va_up_self])) (fun z4 F4 hq => ?_)
      obtain ⟨hz4, eF4⟩ := hq
      refine J_eqF (F2 := va_up F 98 (oM ad (va_up f 10 1) v)) ((eF4.trans (congrArg (fun qq : Nat → Int => va_up (va_up F 98 (oM ad (va_up f 10 0) v)) 98 (oM ad qq v)) (up_in0))).trans (up_in0)) ?_
      refine J_topi (r := 0) (congrArg iI hz4) ?_
      refine J_eqF (F2 := va_up (va_up F 98 (oM ad (va_up f 10 1) v)) 99 (.inl (g 0, 858, .inl (aI hh)))) (up_same1 (by rw [va_up_ne _ _ (by decide)]; exact hB)) ?_
      refine J_eqF (F2 := va_up (va_up (va_up F 98 (oM ad (va_up f 10 1) v)) 99 (.inl (g 0, 858, .inl (aI hh)))) 100 (.inl (g 0, 33, .inl (aI ll)))) (up_same1 (by rw [va_up_ne _ _ (by decide), va_up_ne _ _ (by decide)]; exact hL)) ?_
      refine J_iret rfl rfl d_M_turn_37 ⟨by decide, by decide⟩ ?_
      exact ⟨_, rfl, rfl, rfl, Or.inl ⟨0, if_neg (fun h => by first | omega | exact h.2.1 (regV_no hmr (by omega))), rfl, mst_3 hD0 hR hzz (fun k hk => (show (V) k = V k from by rfl)) (va_up_ne _ _ (by decide)) (va_up_ne _ _ (by decide)) (va_up_self ..)⟩, offM_3⟩
    · refine J_iload_n 3 d_M_turn_22 rfl rfl ?_
      refine J_iconst d_M_turn_23 ?_
      refine J_bipush d_M_turn_24 (i8_ok (by decide)) ?_
      refine J_callSi cw_M_138 nh_M_in pn_M_in rfl (As := [.int (iI to), .int (iI 0), .int (iI 7)]) (rest := []) rfl (Nat.le_of_ble_eq_true rfl) ⟨by decide, by decide⟩ rfl ⟨by decide, by decide⟩ d_M_turn_26 (c_M_in hfl (a := to) (b := 0) (c := 7) (hto) (by decide) (by decide)) (fun z5 F5 hq => ?_)
      obtain ⟨hz5, eF5⟩ := hq
      refine J_eqF eF5 ?_
      refine J_ifne (tgt := 38) d_M_turn_29 (by decide) ⟨by omega, by omega⟩ (fun c29 => ?_) (fun c29 => ?_)
      · refine J_aload_n 0 d_M_turn_38 rfl rfl ?_
        refine J_aload_n 0 d_M_turn_39 rfl rfl ?_
        refine J_iload_n 2 d_M_turn_40 rfl rfl ?_
        obtain ⟨kd, sg, x, y, hRa, hok, hka, hkn, hmg⟩ := mR_at hmr (r := a.toNat) (by omega) (by omega)
        obtain ⟨hk1, hd0, hs1, hfin, hcop, hk0, hb, hs0, hb2, hre⟩ := okv_b hok hkn
        have hrV : regV R a = (kd, sg, x, y) := (regV_in (by omega)).trans hRa
        refine J_topi (r := ((a.toNat : Nat) : Int)) (congrArg iI (by omega)) ?_
        refine J_bipush d_M_turn_41 (i8_ok (by decide)) ?_
        refine J_bipush d_M_turn_43 (i8_ok (by decide)) ?_
        refine J_callVi cw_M_182 nh_M_fetch pn_M_fetch rfl rfl (by omega) (by rw [va_up_self]) (As := [.int (iI ((a.toNat : Nat) : Int)), .int (iI 20), .int (iI 21)]) (rest := [.ref (ad 98)]) rfl (Nat.le_of_ble_eq_true rfl) ⟨by decide, by decide⟩ rfl ⟨by decide, by decide⟩ d_M_turn_45 (c_M_fetch hfl (r := a.toNat) (u := 20) (d := 21) (x := x) (y := y) (kd := kd) (sg := sg) (kk := kk) (bb := bb) (rr := rr) (hh := hh) (ll := ll) (f := va_up f 10 0) (v := v) (V := V) (br := br) hN (by rw [va_up_self]) (by rw [va_up_ne _ _ (by decide)]; exact hB) (by rw [va_up_ne _ _ (by decide)]; exact hL) hR hzz (by rw [va_up_ne _ _ (by decide)]; exact hKk) (by rw [va_up_ne _ _ (by decide)]; exact hBb) (by rw [va_up_ne _ _ (by decide)]; exact hRr) (by omega) ⟨by omega, by omega⟩ ⟨by omega, by omega⟩ (hzz.2 20 (by decide) (by decide)) (hzz.2 21 (by decide) (by decide)) (by omega) (mreg_fr hmg (by omega) (fun k hk => (show (V) k = V k from by rfl))) hd0 hk1 hb hre) (fun mi F6 hq => ?_)
        obtain ⟨hmi, bh6, bl7, U, Y, hUY, hU9, hR8, eF6⟩ := hq
        refine J_eqF (F2 := va_up (va_up (va_up F 98 (oM ad (va_up f 10 0) v)) 99 (.inl (g 0, 858, .inl (aI bh6)))) 100 (.inl (g 0, 33, .inl (aI bl7)))) eF6 ?_
        obtain ⟨hU9, hU7⟩ := hU9
        have hU8 : powY kd Y := hU7
        clear hU7
        have hmi1 : (mi = 1 ∧ sg < 0) ∨ (mi = 0 ∧ 0 ≤ sg) := by rw [hmi]; split <;> omega
        refine pm_M_129 (by omega) (by rw [va_up_ne _ _ (by decide), va_up_ne _ _ (by decide), va_up_self]) (nb01 (by omega)) d_M_turn_48 ?_
        refine J_eqF (F2 := va_up (va_up (va_up F 98 (oM ad (va_up (va_up f 10 0) 7 mi) v)) 99 (.inl (g 0, 858, .inl (aI bh6)))) 100 (.inl (g 0, 33, .inl (aI bl7)))) (up_in2 (by decide) (by decide)) ?_
        have U0 : x = 0 → U = 0 := fun e => by
          have h1 := hUY.2.1
          rw [e, Nat.zero_mul] at h1
          rcases Nat.mul_eq_zero.mp h1 with q | q
          · exact q
          · omega
        refine J_iload_n 1 d_M_turn_51 rfl rfl ?_
        refine J_ifne (tgt := 78) d_M_turn_52 (by decide) hw (fun c52 => ?_) (fun c52 => ?_)
        · refine J_iload_n 1 d_M_turn_78 rfl rfl ?_
          refine J_iconst d_M_turn_79 ?_
          refine J_if_icmpne (tgt := 99) d_M_turn_80 (by decide) hw ⟨by omega, by omega⟩ (fun c80 => ?_) (fun c80 => ?_)
          · refine J_iload_n 1 d_M_turn_99 rfl rfl ?_
            refine J_iconst d_M_turn_100 ?_
            refine J_if_icmpne (tgt := 109) d_M_turn_101 (by decide) hw ⟨by omega, by omega⟩ (fun c101 => ?_) (fun c101 => ?_)
            · refine J_aload_n 0 d_M_turn_109 rfl rfl ?_
              refine J_iload_n 1 d_M_turn_110 rfl rfl ?_
              refine J_iconst d_M_turn_111 ?_
              refine J_if_icmpge (tgt := 119) d_M_turn_112 (by decide) hw ⟨by omega, by omega⟩ (fun c112 => ?_) (fun c112 => ?_)
              · exact absurd c112 (by omega)
              · refine J_iload_n 1 d_M_turn_115 rfl rfl ?_
                refine J_goto (tgt := 125) d_M_turn_116 (by decide) ?_
                refine J_iload_n 3 d_M_turn_125 rfl rfl ?_
                refine J_topi (r := ((to.toNat : Nat) : Int)) (congrArg iI (by omega)) ?_
                refine J_iconst d_M_turn_126 ?_
                have hD9 := mstd_3 hD0 (f' := va_up (va_up f 10 0) 7 mi) (v' := v) hR8 hzz (fun k hk => (show (va_up (va_up V 21 Y) 20 U) k = V k from by rw [va_up_ne _ _ (by omega), va_up_ne _ _ (by omega)])) ((va_up_ne _ _ (by decide)).trans (va_up_ne _ _ (by decide))) ((va_up_ne _ _ (by decide)).trans (va_up_ne _ _ (by decide)))
                have hof9 : offM F (va_up (va_up (va_up F 98 (oM ad (va_up (va_up f 10 0) 7 mi) v)) 99 (.inl (g 0, 858, .inl (aI bh6)))) 100 (.inl (g 0, 33, .inl (aI bl7)))) := offM_3
                have hc10 : (va_up (va_up f 10 0) 7 mi) 10 = 0 := ((va_up_ne _ _ (by decide)).trans (va_up_self ..))
                refine J_callVi cw_M_142 nh_M_store pn_M_store rfl rfl (by omega) (by rw [va_up_ne _ _ (by decide), va_up_ne _ _ (by decide), va_up_self]) (As := [.int (iI what), .int (iI ((to.toNat : Nat) : Int)), .int (iI 2)]) (rest := []) rfl (Nat.le_of_ble_eq_true rfl) ⟨by decide, by decide⟩ rfl ⟨by decide, by decide⟩ d_M_turn_127 (c_M_store2 hfl (X := U) (Y := Y) (to := to.toNat) (kd := what) (s := sg) (code := 2) hN hD9 ((va_up_self ..)) (((va_up_ne _ _ (by decide)).trans (va_up_self ..))) hUY.1 (Nat.le_trans (lnw_154 hUY.2.2.1) (by decide)) (Nat.le_trans (lnw_154 hUY.2.2.2) (by decide)) (blen_le.mpr (Nat.lt_trans hUY.2.2.1 (by decide))) (blen_le.mpr (Nat.lt_trans hUY.2.2.2 (by decide))) ⟨by omega, by omega⟩ (((va_up_self ..)).trans hmi) (by omega) (by omega) (fun e => absurd e (by omega)) (fun e => U0 (hs0.mp e))) (fun z9 F9 hq => ?_)
                obtain ⟨hq9, hoff9⟩ := hq
                replace hoff9 := offM_t hof9 hoff9
                refine J_iret rfl rfl d_M_turn_130 ⟨by decide, by decide⟩ ?_
                have hT : turnF what kd sg x y = fin what sg (U) (Y) := by
                  rw [fin_ratio hUY.1 hd0 hUY.2.1]
                  obtain w | w : what = 1 ∨ what = 2 := by omega
                  · subst w; rfl
                  · subst w; rfl
                refine ⟨_, rfl, rfl, rfl, msto_i (by unfold turnO; rw [if_pos ⟨by omega, by rw [hrV]; exact hkn, by omega⟩, hrV, hT]) rfl hc10 hq9, hoff9⟩
            · refine J_aload_n 0 d_M_turn_104 rfl rfl ?_
              refine J_iconst d_M_turn_105 ?_
              refine pm_M_129 (by omega) (by rw [va_up_ne _ _ (by decide), va_up_ne _ _ (by decide), va_up_self]) (nb01 (by omega)) d_M_turn_106 ?_
              refine J_eqF (F2 := va_up (va_up (va_up (va_up F 98 (oM ad (va_up (va_up f 10 0) 7 mi) v)) 99 (.inl (g 0, 858, .inl (aI bh6)))) 100 (.inl (g 0, 33, .inl (aI bl7)))) 98 (oM ad (va_up (va_up f 10 0) 7 0) v)) (congrArg (fun qq : Nat → Int => va_up (va_up (va_up (va_up F 98 (oM ad (va_up (va_up f 10 0) 7 mi) v)) 99 (.inl (g 0, 858, .inl (aI bh6)))) 100 (.inl (g 0, 33, .inl (aI bl7)))) 98 (oM ad qq v)) (up_in0)) ?_
              refine J_eqF (F2 := va_up (va_up (va_up F 98 (oM ad (va_up (va_up f 10 0) 7 0) v)) 99 (.inl (g 0, 858, .inl (aI bh6)))) 100 (.inl (g 0, 33, .inl (aI bl7)))) (up_in2 (by decide) (by decide)) ?_
              refine J_aload_n 0 d_M_turn_109 rfl rfl ?_
              refine J_iload_n 1 d_M_turn_110 rfl rfl ?_
              refine J_iconst d_M_turn_111 ?_
              refine J_if_icmpge (tgt := 119) d_M_turn_112 (by decide) hw ⟨by omega, by omega⟩ (fun c112 => ?_) (fun c112 => ?_)
              · refine J_aload_n 0 d_M_turn_119 rfl rfl ?_
                refine gf_M_16 (by omega) (by rw [va_up_ne _ _ (by decide), va_up_ne _ _ (by decide), va_up_self]) rfl d_M_turn_120 ?_
                refine J_iload_n 2 d_M_turn_123 rfl rfl ?_
                refine J_iaload 0 rfl (by omega) (by rw [va_up_ne _ _ (by decide), va_up_ne _ _ (by decide), va_up_ne _ _ (by decide)]; exact hKk) (by omega) d_M_turn_124 ?_
                refine J_topi (r := kd) (congrArg iI hka) ?_
                refine J_iload_n 3 d_M_turn_125 rfl rfl ?_
                refine J_topi (r := ((to.toNat : Nat) : Int)) (congrArg iI (by omega)) ?_
                refine J_iconst d_M_turn_126 ?_
                have hD9 := mstd_3 hD0 (f' := va_up (va_up f 10 0) 7 0) (v' := v) hR8 hzz (fun k hk => (show (va_up (va_up V 21 Y) 20 U) k = V k from by rw [va_up_ne _ _ (by omega), va_up_ne _ _ (by omega)])) ((va_up_ne _ _ (by decide)).trans (va_up_ne _ _ (by decide))) ((va_up_ne _ _ (by decide)).trans (va_up_ne _ _ (by decide)))
                have hof9 : offM F (va_up (va_up (va_up F 98 (oM ad (va_up (va_up f 10 0) 7 0) v)) 99 (.inl (g 0, 858, .inl (aI bh6)))) 100 (.inl (g 0, 33, .inl (aI bl7)))) := offM_3
                have hc10 : (va_up (va_up f 10 0) 7 0) 10 = 0 := ((va_up_ne _ _ (by decide)).trans (va_up_self ..))
                refine J_callVi cw_M_142 nh_M_store pn_M_store rfl rfl (by omega) (by rw [va_up_ne _ _ (by decide), va_up_ne _ _ (by decide), va_up_self]) (As := [.int (iI kd), .int (iI ((to.toNat : Nat) : Int)), .int (iI 2)]) (rest := []) rfl (Nat.le_of_ble_eq_true rfl) ⟨by decide, by decide⟩ rfl ⟨by decide, by decide⟩ d_M_turn_127 (c_M_store2 hfl (X := U) (Y := Y) (to := to.toNat) (kd := kd) (s := 1) (code := 2) hN hD9 ((va_up_self ..)) (((va_up_ne _ _ (by decide)).trans (va_up_self ..))) hUY.1 (Nat.le_trans (lnw_154 hUY.2.2.1) (by decide)) (Nat.le_trans (lnw_154 hUY.2.2.2) (by decide)) (blen_le.mpr (Nat.lt_trans hUY.2.2.1 (by decide))) (blen_le.mpr (Nat.lt_trans hUY.2.2.2 (by decide))) ⟨by omega, by omega⟩ (((va_up_self ..)).trans rfl) (by omega) (by omega) (fun e => by rw [(hU9 (by omega)).2, hk0 e]; exact Nat.one_dvd _) (fun e => absurd e (by decide))) (fun z9 F9 hq => ?_)
                obtain ⟨hq9, hoff9⟩ := hq
                replace hoff9 := offM_t hof9 hoff9
                refine J_iret rfl rfl d_M_turn_130 ⟨by decide, by decide⟩ ?_
                have hT : turnF what kd sg x y = fin kd 1 (U) (Y) := by
                  rw [turn_fin hfin hs0 (by omega), fin_ratio hUY.1 hd0 hUY.2.1]
                  refine fin_sg (fun hx => ?_)
                  have hsn : sg ≠ 0 := fun e => hx (hs0.mp e)
                  split <;> omega
                refine ⟨_, rfl, rfl, rfl, msto_i (by unfold turnO; rw [if_pos ⟨by omega, by rw [hrV]; exact hkn, by omega⟩, hrV, hT]) rfl hc10 hq9, hoff9⟩
              · exact absurd c112 (by omega)
          · refine J_aload_n 0 d_M_turn_83 rfl rfl ?_
            refine J_aload_n 0 d_M_turn_84 rfl rfl ?_
            refine gf_M_129 (by omega) (by rw [va_up_ne _ _ (by decide), va_up_ne _ _ (by decide), va_up_self]) rfl d_M_turn_85 ?_
            refine J_topi (r := mi) (congrArg iI (va_up_self ..)) ?_
            refine J_ifne (tgt := 95) d_M_turn_88 (by decide) ⟨by omega, by omega⟩ (fun c88 => ?_) (fun c88 => ?_)
            · refine J_iconst d_M_turn_95 ?_
              refine pm_M_129 (by omega) (by rw [va_up_ne _ _ (by decide), va_up_ne _ _ (by decide), va_up_self]) (nb01 (by omega)) d_M_turn_96 ?_
              refine J_eqF (F2 := va_up (va_up (va_up (va_up F 98 (oM ad (va_up (va_up f 10 0) 7 mi) v)) 99 (.inl (g 0, 858, .inl (aI bh6)))) 100 (.inl (g 0, 33, .inl (aI bl7)))) 98 (oM ad (va_up (va_up f 10 0) 7 0) v)) (congrArg (fun qq : Nat → Int => va_up (va_up (va_up (va_up F 98 (oM ad (va_up (va_up f 10 0) 7 mi) v)) 99 (.inl (g 0, 858, .inl (aI bh6)))) 100 (.inl (g 0, 33, .inl (aI bl7)))) 98 (oM ad qq v)) (up_in0)) ?_
              refine J_eqF (F2 := va_up (va_up (va_up F 98 (oM ad (va_up (va_up f 10 0) 7 0) v)) 99 (.inl (g 0, 858, .inl (aI bh6)))) 100 (.inl (g 0, 33, .inl (aI bl7)))) (up_in2 (by decide) (by decide)) ?_
              refine J_iload_n 1 d_M_turn_99 rfl rfl ?_
              refine J_iconst d_M_turn_100 ?_
              refine J_if_icmpne (tgt := 109) d_M_turn_101 (by decide) hw ⟨by omega, by omega⟩ (fun c101 => ?_) (fun c101 => ?_)
              · refine J_aload_n 0 d_M_turn_109 rfl rfl ?_
                refine J_iload_n 1 d_M_turn_110 rfl rfl ?_
                refine J_iconst d_M_turn_111 ?_
                refine J_if_icmpge (tgt := 119) d_M_turn_112 (by decide) hw ⟨by omega, by omega⟩ (fun c112 => ?_) (fun c112 => ?_)
                · refine J_aload_n 0 d_M_turn_119 rfl rfl ?_
                  refine gf_M_16 (by omega) (by rw [va_up_ne _ _ (by decide), va_up_ne _ _ (by decide), va_up_self]) rfl d_M_turn_120 ?_
                  refine J_iload_n 2 d_M_turn_123 rfl rfl ?_
                  refine J_iaload 0 rfl (by omega) (by rw [va_up_ne _ _ (by decide), va_up_ne _ _ (by decide), va_up_ne _ _ (by decide)]; exact hKk) (by omega) d_M_turn_124 ?_
                  refine J_topi (r := kd) (congrArg iI hka) ?_
                  refine J_iload_n 3 d_M_turn_125 rfl rfl ?_
                  refine J_topi (r := ((to.toNat : Nat) : Int)) (congrArg iI (by omega)) ?_
                  refine J_iconst d_M_turn_126 ?_
                  have hD9 := mstd_3 hD0 (f' := va_up (va_up f 10 0) 7 0) (v' := v) hR8 hzz (fun k hk => (show (va_up (va_up V 21 Y) 20 U) k = V k from by rw [va_up_ne _ _ (by omega), va_up_ne _ _ (by omega)])) ((va_up_ne _ _ (by decide)).trans (va_up_ne _ _ (by decide))) ((va_up_ne _ _ (by decide)).trans (va_up_ne _ _ (by decide)))
                  have hof9 : offM F (va_up (va_up (va_up F 98 (oM ad (va_up (va_up f 10 0) 7 0) v)) 99 (.inl (g 0, 858, .inl (aI bh6)))) 100 (.inl (g 0, 33, .inl (aI bl7)))) := offM_3
                  have hc10 : (va_up (va_up f 10 0) 7 0) 10 = 0 := ((va_up_ne _ _ (by decide)).trans (va_up_self ..))
                  refine J_callVi cw_M_142 nh_M_store pn_M_store rfl rfl (by omega) (by rw [va_up_ne _ _ (by decide), va_up_ne _ _ (by decide), va_up_self]) (As := [.int (iI kd), .int (iI ((to.toNat : Nat) : Int)), .int (iI 2)]) (rest := []) rfl (Nat.le_of_ble_eq_true rfl) ⟨by decide, by decide⟩ rfl ⟨by decide, by decide⟩ d_M_turn_127 (c_M_store2 hfl (X := U) (Y := Y) (to := to.toNat) (kd := kd) (s := 1) (code := 2) hN hD9 ((va_up_self ..)) (((va_up_ne _ _ (by decide)).trans (va_up_self ..))) hUY.1 (Nat.le_trans (lnw_154 hUY.2.2.1) (by decide)) (Nat.le_trans (lnw_154 hUY.2.2.2) (by decide)) (blen_le.mpr (Nat.lt_trans hUY.2.2.1 (by decide))) (blen_le.mpr (Nat.lt_trans hUY.2.2.2 (by decide))) ⟨by omega, by omega⟩ (((va_up_self ..)).trans rfl) (by omega) (by omega) (fun e => by rw [(hU9 (by omega)).2, hk0 e]; exact Nat.one_dvd _) (fun e => absurd e (by decide))) (fun z9 F9 hq => ?_)
                  obtain ⟨hq9, hoff9⟩ := hq
                  replace hoff9 := offM_t hof9 hoff9
                  refine J_iret rfl rfl d_M_turn_130 ⟨by decide, by decide⟩ ?_
                  have hT : turnF what kd sg x y = fin kd 1 (U) (Y) := by
                    rw [turn_fin hfin hs0 (by omega), fin_ratio hUY.1 hd0 hUY.2.1]
                    refine fin_sg (fun hx => ?_)
                    have hsn : sg ≠ 0 := fun e => hx (hs0.mp e)
                    split <;> omega
                  refine ⟨_, rfl, rfl, rfl, msto_i (by unfold turnO; rw [if_pos ⟨by omega, by rw [hrV]; exact hkn, by omega⟩, hrV, hT]) rfl hc10 hq9, hoff9⟩
                · exact absurd c112 (by omega)
              · exact absurd c101 (by omega)
            · refine J_iconst d_M_turn_91 ?_
              refine J_goto (tgt := 96) d_M_turn_92 (by decide) ?_
              refine pm_M_129 (by omega) (by rw [va_up_ne _ _ (by decide), va_up_ne _ _ (by decide), va_up_self]) (nb01 (by omega)) d_M_turn_96 ?_
              refine J_eqF (F2 := va_up (va_up (va_up (va_up F 98 (oM ad (va_up (va_up f 10 0) 7 mi) v)) 99 (.inl (g 0, 858, .inl (aI bh6)))) 100 (.inl (g 0, 33, .inl (aI bl7)))) 98 (oM ad (va_up (va_up f 10 0) 7 1) v)) (congrArg (fun qq : Nat → Int => va_up (va_up (va_up (va_up F 98 (oM ad (va_up (va_up f 10 0) 7 mi) v)) 99 (.inl (g 0, 858, .inl (aI bh6)))) 100 (.inl (g 0, 33, .inl (aI bl7)))) 98 (oM ad qq v)) (up_in0)) ?_
              refine J_eqF (F2 := va_up (va_up (va_up F 98 (oM ad (va_up (va_up f 10 0) 7 1) v)) 99 (.inl (g 0, 858, .inl (aI bh6)))) 100 (.inl (g 0, 33, .inl (aI bl7)))) (up_in2 (by decide) (by decide)) ?_
              refine J_iload_n 1 d_M_turn_99 rfl rfl ?_
              refine J_iconst d_M_turn_100 ?_
              refine J_if_icmpne (tgt := 109) d_M_turn_101 (by decide) hw ⟨by omega, by omega⟩ (fun c101 => ?_) (fun c101 => ?_)
              · refine J_aload_n 0 d_M_turn_109 rfl rfl ?_
                refine J_iload_n 1 d_M_turn_110 rfl rfl ?_
                refine J_iconst d_M_turn_111 ?_
                refine J_if_icmpge (tgt := 119) d_M_turn_112 (by decide) hw ⟨by omega, by omega⟩ (fun c112 => ?_) (fun c112 => ?_)
                · refine J_aload_n 0 d_M_turn_119 rfl rfl ?_
                  refine gf_M_16 (by omega) (by rw [va_up_ne _ _ (by decide), va_up_ne _ _ (by decide), va_up_self]) rfl d_M_turn_120 ?_
                  refine J_iload_n 2 d_M_turn_123 rfl rfl ?_
                  refine J_iaload 0 rfl (by omega) (by rw [va_up_ne _ _ (by decide), va_up_ne _ _ (by decide), va_up_ne _ _ (by decide)]; exact hKk) (by omega) d_M_turn_124 ?_
                  refine J_topi (r := kd) (congrArg iI hka) ?_
                  refine J_iload_n 3 d_M_turn_125 rfl rfl ?_
                  refine J_topi (r := ((to.toNat : Nat) : Int)) (congrArg iI (by omega)) ?_
                  refine J_iconst d_M_turn_126 ?_
                  have hD9 := mstd_3 hD0 (f' := va_up (va_up f 10 0) 7 1) (v' := v) hR8 hzz (fun k hk => (show (va_up (va_up V 21 Y) 20 U) k = V k from by rw [va_up_ne _ _ (by omega), va_up_ne _ _ (by omega)])) ((va_up_ne _ _ (by decide)).trans (va_up_ne _ _ (by decide))) ((va_up_ne _ _ (by decide)).trans (va_up_ne _ _ (by decide)))
                  have hof9 : offM F (va_up (va_up (va_up F 98 (oM ad (va_up (va_up f 10 0) 7 1) v)) 99 (.inl (g 0, 858, .inl (aI bh6)))) 100 (.inl (g 0, 33, .inl (aI bl7)))) := offM_3
                  have hc10 : (va_up (va_up f 10 0) 7 1) 10 = 0 := ((va_up_ne _ _ (by decide)).trans (va_up_self ..))
                  refine J_callVi cw_M_142 nh_M_store pn_M_store rfl rfl (by omega) (by rw [va_up_ne _ _ (by decide), va_up_ne _ _ (by decide), va_up_self]) (As := [.int (iI kd), .int (iI ((to.toNat : Nat) : Int)), .int (iI 2)]) (rest := []) rfl (Nat.le_of_ble_eq_true rfl) ⟨by decide, by decide⟩ rfl ⟨by decide, by decide⟩ d_M_turn_127 (c_M_store2 hfl (X := U) (Y := Y) (to := to.toNat) (kd := kd) (s := (-1)) (code := 2) hN hD9 ((va_up_self ..)) (((va_up_ne _ _ (by decide)).trans (va_up_self ..))) hUY.1 (Nat.le_trans (lnw_154 hUY.2.2.1) (by decide)) (Nat.le_trans (lnw_154 hUY.2.2.2) (by decide)) (blen_le.mpr (Nat.lt_trans hUY.2.2.1 (by decide))) (blen_le.mpr (Nat.lt_trans hUY.2.2.2 (by decide))) ⟨by omega, by omega⟩ (((va_up_self ..)).trans rfl) (by omega) (by omega) (fun e => by rw [(hU9 (by omega)).2, hk0 e]; exact Nat.one_dvd _) (fun e => absurd e (by decide))) (fun z9 F9 hq => ?_)
                  obtain ⟨hq9, hoff9⟩ := hq
                  replace hoff9 := offM_t hof9 hoff9
                  refine J_iret rfl rfl d_M_turn_130 ⟨by decide, by decide⟩ ?_
                  have hT : turnF what kd sg x y = fin kd (-1) (U) (Y) := by
                    rw [turn_fin hfin hs0 (by omega), fin_ratio hUY.1 hd0 hUY.2.1]
                    refine fin_sg (fun hx => ?_)
                    have hsn : sg ≠ 0 := fun e => hx (hs0.mp e)
                    split <;> omega
                  refine ⟨_, rfl, rfl, rfl, msto_i (by unfold turnO; rw [if_pos ⟨by omega, by rw [hrV]; exact hkn, by omega⟩, hrV, hT]) rfl hc10 hq9, hoff9⟩
                · exact absurd c112 (by omega)
              · exact absurd c101 (by omega)
        · refine J_aload_n 0 d_M_turn_55 rfl rfl ?_
          refine J_bipush d_M_turn_56 (i8_ok (by decide)) ?_
          refine J_bipush d_M_turn_58 (i8_ok (by decide)) ?_
          refine J_callVv cw_M_79 nh_M_divide pn_M_divide rfl rfl (by omega) (by rw [va_up_ne _ _ (by decide), va_up_ne _ _ (by decide), va_up_self]) (As := [.int (iI 20), .int (iI 21)]) (rest := []) rfl (Nat.le_of_ble_eq_true rfl) ⟨by decide, by decide⟩ rfl ⟨by decide, by decide⟩ d_M_turn_60 (k_M_divide hfl (a := 20) (b := 21) (hh := bh6) (ll := bl7) (V := va_up (va_up V 21 Y) 20 U) (br := br) (hN := hN) (hO := (by rw [va_up_ne _ _ (by decide), va_up_ne _ _ (by decide), va_up_self])) (hB := (by rw [va_up_ne _ _ (by decide), va_up_self])) (hL := (by rw [va_up_self])) (hR := hR8) (ha := by omega) (hb := by omega) (hxa := (va_up_self ..)) (bra := (hzz.2 20 (by decide) (by decide))) (hxb := ((va_up_ne _ _ (by decide)).trans (va_up_self ..))) (brb := (hzz.2 21 (by decide) (by decide))) (hzz := hzz) (ha2 := by omega) (hb2 := by omega) (hb0 := by omega) (hla2 := (Nat.le_trans (lnw_154 hUY.2.2.1) (by decide))) (hlb2 := (Nat.le_trans (lnw_154 hUY.2.2.2) (by decide)))) (fun  F7 hq => ?_)
          obtain ⟨bh9, bl10, j14, hR11, eF7⟩ := hq
          refine J_eqF (F2 := va_up (va_up (va_up F 98 (oM ad (va_up (va_up f 10 0) 7 mi) v)) 99 (.inl (g 0, 858, .inl (aI bh9)))) 100 (.inl (g 0, 33, .inl (aI bl10)))) (eF7.trans (Eq.trans (congrArg (fun q : Nat → va_E => va_up q 100 (.inl (g 0, 33, .inl (aI bl10)))) (up_in1 (by decide))) (up_in0))) ?_
          refine J_aload_n 0 d_M_turn_63 rfl rfl ?_
          refine J_bipush d_M_turn_64 (i8_ok (by decide)) ?_
          refine J_bipush d_M_turn_66 (i8_ok (by decide)) ?_
          refine J_callVv cw_M_58 nh_M_copy pn_M_copy rfl rfl (by omega) (by rw [va_up_ne _ _ (by decide), va_up_ne _ _ (by decide), va_up_self]) (As := [.int (iI 24), .int (iI 20)]) (rest := []) rfl (Nat.le_of_ble_eq_true rfl) ⟨by decide, by decide⟩ rfl ⟨by decide, by decide⟩ d_M_turn_68 (k_M_copy hfl (a := 24) (b := 20) (hh := bh9) (ll := bl10) (V := va_up (va_up (va_up (va_up (va_up V 21 Y) 20 U) 26 j14) 25 (U % Y)) 24 (U / Y)) (br := br) (hN := hN) (hO := (by rw [va_up_ne _ _ (by decide), va_up_ne _ _ (by decide), va_up_self])) (hB := (by rw [va_up_ne _ _ (by decide), va_up_self])) (hL := (by rw [va_up_self])) (hR := hR11) (ha := by omega) (hb := by omega) (hxa := (va_up_self ..)) (bra := (hzz.2 24 (by decide) (by decide)))) (fun  F8 hq => ?_)
          obtain ⟨bh15, bl16, hR17, eF8⟩ := hq
          refine J_eqF (F2 := va_up (va_up (va_up F 98 (oM ad (va_up (va_up f 10 0) 7 mi) v)) 99 (.inl (g 0, 858, .inl (aI bh15)))) 100 (.inl (g 0, 33, .inl (aI bl16)))) (eF8.trans (Eq.trans (congrArg (fun q : Nat → va_E => va_up q 100 (.inl (g 0, 33, .inl (aI bl16)))) (up_in1 (by decide))) (up_in0))) ?_
          have hR20 := reg_w1 (hzz.1 _) hR17
          have hR21 := (congrArg (fun qq : Nat → Nat => reg _ _ _ (qq)) (up_in3 (by decide) (by decide) (by decide))).mp hR20
          refine J_aload_n 0 d_M_turn_71 rfl rfl ?_
          refine J_bipush d_M_turn_72 (i8_ok (by decide)) ?_
          refine J_lconst (v := 1) d_M_turn_74 rfl ?_
          refine J_callVv cw_M_82 nh_M_put pn_M_put rfl rfl (by omega) (by rw [va_up_ne _ _ (by decide), va_up_ne _ _ (by decide), va_up_self]) (As := [.int (iI 21), .long (lI 1)]) (rest := []) rfl (Nat.le_of_ble_eq_true rfl) ⟨by decide, by decide⟩ rfl ⟨by decide, by decide⟩ d_M_turn_75 (k_M_put hfl (a := 21) (n := 1) (hh := bh15) (ll := bl16) (V := va_up (va_up (va_up (va_up (va_up V 21 Y) 20 (U / Y)) 26 j14) 25 (U % Y)) 24 (U / Y)) (br := br) (hN := hN) (hO := (by rw [va_up_ne _ _ (by decide), va_up_ne _ _ (by decide), va_up_self])) (hB := (by rw [va_up_ne _ _ (by decide), va_up_self])) (hL := (by rw [va_up_self])) (hR := hR21) (ha := by omega) (hn := by decide)) (fun  F9 hq => ?_)
          obtain ⟨bh22, bl23, hR24, eF9⟩ := hq
          refine J_eqF (F2 := va_up (va_up (va_up F 98 (oM ad (va_up (va_up f 10 0) 7 mi) v)) 99 (.inl (g 0, 858, .inl (aI bh22)))) 100 (.inl (g 0, 33, .inl (aI bl23)))) (eF9.trans (Eq.trans (congrArg (fun q : Nat → va_E => va_up q 100 (.inl (g 0, 33, .inl (aI bl23)))) (up_in1 (by decide))) (up_in0))) ?_
          have hR27 := reg_w1 (hzz.1 _) hR24
          have hR28 := (congrArg (fun qq : Nat → Nat => reg _ _ _ (qq)) (up_in4 (by decide) (by decide) (by decide) (by decide))).mp hR27
          refine J_iload_n 1 d_M_turn_78 rfl rfl ?_
          refine J_iconst d_M_turn_79 ?_
          refine J_if_icmpne (tgt := 99) d_M_turn_80 (by decide) hw ⟨by omega, by omega⟩ (fun c80 => ?_) (fun c80 => ?_)
          · refine J_iload_n 1 d_M_turn_99 rfl rfl ?_
            refine J_iconst d_M_turn_100 ?_
            refine J_if_icmpne (tgt := 109) d_M_turn_101 (by decide) hw ⟨by omega, by omega⟩ (fun c101 => ?_) (fun c101 => ?_)
            · refine J_aload_n 0 d_M_turn_109 rfl rfl ?_
              refine J_iload_n 1 d_M_turn_110 rfl rfl ?_
              refine J_iconst d_M_turn_111 ?_
              refine J_if_icmpge (tgt := 119) d_M_turn_112 (by decide) hw ⟨by omega, by omega⟩ (fun c112 => ?_) (fun c112 => ?_)
              · exact absurd c112 (by omega)
              · refine J_iload_n 1 d_M_turn_115 rfl rfl ?_
                refine J_goto (tgt := 125) d_M_turn_116 (by decide) ?_
                refine J_iload_n 3 d_M_turn_125 rfl rfl ?_
                refine J_topi (r := ((to.toNat : Nat) : Int)) (congrArg iI (by omega)) ?_
                refine J_iconst d_M_turn_126 ?_
                have hD9 := mstd_3 hD0 (f' := va_up (va_up f 10 0) 7 mi) (v' := v) hR28 hzz (fun k hk => (show (va_up (va_up (va_up (va_up (va_up V 21 1) 20 (U / Y)) 26 j14) 25 (U % Y)) 24 (U / Y)) k = V k from by rw [va_up_ne _ _ (by omega), va_up_ne _ _ (by omega), va_up_ne _ _ (by omega), va_up_ne _ _ (by omega), va_up_ne _ _ (by omega)])) ((va_up_ne _ _ (by decide)).trans (va_up_ne _ _ (by decide))) ((va_up_ne _ _ (by decide)).trans (va_up_ne _ _ (by decide)))
                have hof9 : offM F (va_up (va_up (va_up F 98 (oM ad (va_up (va_up f 10 0) 7 mi) v)) 99 (.inl (g 0, 858, .inl (aI bh22)))) 100 (.inl (g 0, 33, .inl (aI bl23)))) := offM_3
                have hc10 : (va_up (va_up f 10 0) 7 mi) 10 = 0 := ((va_up_ne _ _ (by decide)).trans (va_up_self ..))
                refine J_callVi cw_M_142 nh_M_store pn_M_store rfl rfl (by omega) (by rw [va_up_ne _ _ (by decide), va_up_ne _ _ (by decide), va_up_self]) (As := [.int (iI what), .int (iI ((to.toNat : Nat) : Int)), .int (iI 2)]) (rest := []) rfl (Nat.le_of_ble_eq_true rfl) ⟨by decide, by decide⟩ rfl ⟨by decide, by decide⟩ d_M_turn_127 (c_M_store2 hfl (X := U / Y) (Y := 1) (to := to.toNat) (kd := what) (s := sg) (code := 2) hN hD9 (((va_up_ne _ _ (by decide)).trans ((va_up_ne _ _ (by decide)).trans ((va_up_ne _ _ (by decide)).trans (va_up_self ..))))) (((va_up_ne _ _ (by decide)).trans ((va_up_ne _ _ (by decide)).trans ((va_up_ne _ _ (by decide)).trans ((va_up_ne _ _ (by decide)).trans (va_up_self ..)))))) (by decide) (Nat.le_trans (lnw_154 (Nat.lt_of_le_of_lt (Nat.div_le_self _ _) hUY.2.2.1)) (by decide)) (by decide) (blen_le.mpr (Nat.lt_of_le_of_lt (Nat.div_le_self _ _) (Nat.lt_trans hUY.2.2.1 (by decide)))) (by decide) ⟨by omega, by omega⟩ (((va_up_self ..)).trans hmi) (by omega) (by omega) (fun _ => Nat.one_dvd _) (fun e => by rw [(div_ratio hUY.1 hd0 hUY.2.1).1, hs0.mp e, Nat.zero_div])) (fun z9 F9 hq => ?_)
                obtain ⟨hq9, hoff9⟩ := hq
                replace hoff9 := offM_t hof9 hoff9
                refine J_iret rfl rfl d_M_turn_130 ⟨by decide, by decide⟩ ?_
                have hT : turnF what kd sg x y = fin what sg (U / Y) (1) := by
                  have hw : what = 0 := by omega
                  subst hw
                  rw [(div_ratio hUY.1 hd0 hUY.2.1).1]; rfl
                refine ⟨_, rfl, rfl, rfl, msto_i (by unfold turnO; rw [if_pos ⟨by omega, by rw [hrV]; exact hkn, by omega⟩, hrV, hT]) rfl hc10 hq9, hoff9⟩
            · exact absurd c101 (by omega)
          · exact absurd c80 (by omega)
      · refine J_aload_n 0 d_M_turn_32 rfl rfl ?_
        refine J_iconst d_M_turn_33 ?_
        refine J_callVi cw_M_135 nh_M_fail pn_M_fail rfl rfl (by omega) (by rw [va_up_self]) (As := [.int (iI 1)]) (rest := []) rfl (Nat.le_of_ble_eq_true rfl) ⟨by decide, by decide⟩ rfl ⟨by decide, by decide⟩ d_M_turn_34 (c_M_fail hfl (code := 1) (f := va_up f 10 0) (v := v) hN (by rw [va_up_self])) (fun z29 F10 hq => ?_)
        obtain ⟨hz29, eF10⟩ := hq
        refine J_eqF (F2 := va_up F 98 (oM ad (va_up f 10 1) v)) ((eF10.trans (congrArg (fun qq : Nat → Int => va_up (va_up F 98 (oM ad (va_up f 10 0) v)) 98 (oM ad qq v)) (up_in0))).trans (up_in0)) ?_
        refine J_topi (r := 0) (congrArg iI hz29) ?_
        refine J_eqF (F2 := va_up (va_up F 98 (oM ad (va_up f 10 1) v)) 99 (.inl (g 0, 858, .inl (aI hh)))) (up_same1 (by rw [va_up_ne _ _ (by decide)]; exact hB)) ?_
        refine J_eqF (F2 := va_up (va_up (va_up F 98 (oM ad (va_up f 10 1) v)) 99 (.inl (g 0, 858, .inl (aI hh)))) 100 (.inl (g 0, 33, .inl (aI ll)))) (up_same1 (by rw [va_up_ne _ _ (by decide), va_up_ne _ _ (by decide)]; exact hL)) ?_
        refine J_iret rfl rfl d_M_turn_37 ⟨by decide, by decide⟩ ?_
        exact ⟨_, rfl, rfl, rfl, Or.inl ⟨0, if_neg (fun h => by first | omega | exact h.2.1 (regV_no hmr (by omega))), rfl, mst_3 hD0 hR hzz (fun k hk => (show (V) k = V k from by rfl)) (va_up_ne _ _ (by decide)) (va_up_ne _ _ (by decide)) (va_up_self ..)⟩, offM_3⟩
set_option maxRecDepth 100000 in
set_option maxHeartbeats 4000000 in
theorem c_M_round {l : Launch} (hfl : l.flags = flags0) {D : va_G} {g : Nat → ClassId} {ad : Nat → Nat} {N : Nat} {F : Nat → va_E} {R : Nat → Vn} {ln sh : List Nat} {th0 : Int} {a n to : Int}
    (hN : 109 ≤ N) (hM : mst ad g R ln sh th0 F) (ha : inI a) (hn : inI n) (hto : inI to) :
    JC l y_M_round b_M_round 4 (Option.some Jvm.ClassFile.FieldType.int) rm_M_round (0, 0) D jCl (jTys g) ad N F [.ref (ad 98), .int (iI a), .int (iI n), .int (iI to)] (ji ad N (fun z F' => msto ad g R ln sh (fun k => if k = 0 then 1 else 2) to (roundO R a n to) z F' ∧ offM F F')) := by
  obtain ⟨hh, ll, f, v, V, br, kk, bb, rr, lh, xh, dh, tt, hD0, hth⟩ := hM
  have hD := hD0
  obtain ⟨hO, hB, hL, hR, hzz, hKk, hBb, hRr, hmr, h104, h105, h106, h107, hln, hsh⟩ := hD
  have hkI := mR_kI hmr
  refine JC.go hfl (own := "NumberTowerModel") (lv := [(0, .ref (ad 98)), (1, .int (iI a)), (2, .int (iI n)), (3, .int (iI to))]) rfl (by decide +kernel) (Nat.le_of_ble_eq_true rfl) rfl (fun A => ?_)
  refine J_aload_n 0 d_M_round_0 rfl rfl ?_
  refine J_iconst d_M_round_1 ?_
  refine pm_M_39 (by omega) hO d_M_round_2 ?_
  refine J_aload_n 0 d_M_round_5 rfl rfl ?_
  refine J_iload_n 1 d_M_round_6 rfl rfl ?_
  refine J_callVi cw_M_176 nh_M_isNumber pn_M_isNumber rfl rfl (by omega) (by rw [va_up_self]) (As := [.int (iI a)]) (rest := []) rfl (Nat.le_of_ble_eq_true rfl) ⟨by decide, by decide⟩ rfl ⟨by decide, by decide⟩ d_M_round_7 (c_M_isNumber hfl (r := a) (f := va_up f 10 0) (v := v) (kk := kk) hN (by rw [va_up_self]) (by rw [va_up_ne _ _ (by decide)]; exact hKk) (by omega) (fun j hj => ⟨by have := hkI j hj; omega, by have := hkI j hj; omega⟩)) (fun z30 F1 hq => ?_)
  obtain ⟨hz30, eF1⟩ := hq
  refine J_eqF eF1 ?_
  refine J_ifeq (tgt := 34) d_M_round_10 (by decide) ⟨by omega, by omega⟩ (fun c10 => ?_) (fun c10 => ?_)
  · refine J_aload_n 0 d_M_round_34 rfl rfl ?_
    refine J_iconst d_M_round_35 ?_
    refine J_callVi cw_M_135 nh_M_fail pn_M_fail rfl rfl (by omega) (by rw [va_up_self]) (As := [.int (iI 1)]) (rest := []) rfl (Nat.le_of_ble_eq_true rfl) ⟨by decide, by decide⟩ rfl ⟨by decide, by decide⟩ d_M_round_36 (c_M_fail hfl (code := 1) (f := va_up f 10 0) (v := v) hN (by rw [va_up_self])) (fun z31 F2 hq => ?_)
    obtain ⟨hz31, eF2⟩ := hq
    refine J_eqF (F2 := va_up F 98 (oM ad (va_up f 10 1) v)) ((eF2.trans (congrArg (fun qq : Nat → Int => va_up (va_up F 98 (oM ad (va_up f 10 0) v)) 98 (oM ad qq v)) (up_in0))).trans (up_in0)) ?_
    refine J_topi (r := 0) (congrArg iI hz31) ?_
    refine J_eqF (F2 := va_up (va_up F 98 (oM ad (va_up f 10 1) v)) 99 (.inl (g 0, 858, .inl (aI hh)))) (up_same1 (by rw [va_up_ne _ _ (by decide)]; exact hB)) ?_
    refine J_eqF (F2 := va_up (va_up (va_up F 98 (oM ad (va_up f 10 1) v)) 99 (.inl (g 0, 858, .inl (aI hh)))) 100 (.inl (g 0, 33, .inl (aI ll)))) (up_same1 (by rw [va_up_ne _ _ (by decide), va_up_ne _ _ (by decide)]; exact hL)) ?_
    refine J_iret rfl rfl d_M_round_39 ⟨by decide, by decide⟩ ?_
    exact ⟨_, rfl, rfl, rfl, Or.inl ⟨0, if_neg (fun h => by first | omega | exact h.2.1 (regV_no hmr (by omega))), rfl, mst_3 hD0 hR hzz (fun k hk => (show (V) k = V k from by rfl)) (va_up_ne _ _ (by decide)) (va_up_ne _ _ (by decide)) (va_up_self ..)⟩, offM_3⟩
  · refine J_iload_n 2 d_M_round_13 rfl rfl ?_
    refine J_bipush d_M_round_14 (i8_ok (by decide)) ?_
    refine J_bipush d_M_round_16 (i8_ok (by decide)) ?_
    refine J_callSi cw_M_138 nh_M_in pn_M_in rfl (As := [.int (iI n), .int (iI (-20)), .int (iI 20)]) (rest := []) rfl (Nat.le_of_ble_eq_true rfl) ⟨by decide, by decide⟩ rfl ⟨by decide, by decide⟩ d_M_round_18 (c_M_in hfl (a := n) (b := (-20)) (c := 20) (hn) (by decide) (by decide)) (fun z32 F3 hq => ?_)
    obtain ⟨hz32, eF3⟩ := hq
    refine J_eqF eF3 ?_
    refine J_ifeq (tgt := 34) d_M_round_21 (by decide) ⟨by omega, by omega⟩ (fun c21 => ?_) (fun c21 => ?_)
    · refine J_aload_n 0 d_M_round_34 rfl rfl ?_
      refine J_iconst d_M_round_35 ?_
      refine J_callVi cw_M_135 nh_M_fail pn_M_fail rfl rfl (by omega) (by rw [va_up_self]) (As := [.int (iI 1)]) (rest := []) rfl (Nat.le_of_ble_eq_true rfl) ⟨by decide, by decide⟩ rfl ⟨by decide, by decide⟩ d_M_round_36 (c_M_fail hfl (code := 1) (f := va_up f 10 0) (v := v) hN (by rw [va_up_self])) (fun z33 F4 hq => ?_)
      obtain ⟨hz33, eF4⟩ := hq
      refine J_eqF (F2 := va_up F 98 (oM ad (va_up f 10 1) v)) ((eF4.trans (congrArg (fun qq : Nat → Int => va_up (va_up F 98 (oM ad (va_up f 10 0) v)) 98 (oM ad qq v)) (up_in0))).trans (up_in0)) ?_
      refine J_topi (r := 0) (congrArg iI hz33) ?_
      refine J_eqF (F2 := va_up (va_up F 98 (oM ad (va_up f 10 1) v)) 99 (.inl (g 0, 858, .inl (aI hh)))) (up_same1 (by rw [va_up_ne _ _ (by decide)]; exact hB)) ?_
      refine J_eqF (F2 := va_up (va_up (va_up F 98 (oM ad (va_up f 10 1) v)) 99 (.inl (g 0, 858, .inl (aI hh)))) 100 (.inl (g 0, 33, .inl (aI ll)))) (up_same1 (by rw [va_up_ne _ _ (by decide), va_up_ne _ _ (by decide)]; exact hL)) ?_
      refine J_iret rfl rfl d_M_round_39 ⟨by decide, by decide⟩ ?_
      exact ⟨_, rfl, rfl, rfl, Or.inl ⟨0, if_neg (fun h => by first | omega | exact h.2.1 (regV_no hmr (by omega))), rfl, mst_3 hD0 hR hzz (fun k hk => (show (V) k = V k from by rfl)) (va_up_ne _ _ (by decide)) (va_up_ne _ _ (by decide)) (va_up_self ..)⟩, offM_3⟩
    · refine J_iload_n 3 d_M_round_24 rfl rfl ?_
      refine J_iconst d_M_round_25 ?_
      refine J_bipush d_M_round_26 (i8_ok (by decide)) ?_
      refine J_callSi cw_M_138 nh_M_in pn_M_in rfl (As := [.int (iI to), .int (iI 0), .int (iI 7)]) (rest := []) rfl (Nat.le_of_ble_eq_true rfl) ⟨by decide, by decide⟩ rfl ⟨by decide, by decide⟩ d_M_round_28 (c_M_in hfl (a := to) (b := 0) (c := 7) (hto) (by decide) (by decide)) (fun z34 F5 hq => ?_)
      obtain ⟨hz34, eF5⟩ := hq
      refine J_eqF eF5 ?_
      refine J_ifne (tgt := 40) d_M_round_31 (by decide) ⟨by omega, by omega⟩ (fun c31 => ?_) (fun c31 => ?_)
      · refine J_aload_n 0 d_M_round_40 rfl rfl ?_
        refine J_aload_n 0 d_M_round_41 rfl rfl ?_
        refine J_iload_n 1 d_M_round_42 rfl rfl ?_
        obtain ⟨kd, sg, x, y, hRa, hok, hka, hkn, hmg⟩ := mR_at hmr (r := a.toNat) (by omega) (by omega)
        obtain ⟨hk1, hd0, hs1, hfin, hcop, hk0, hb, hs0, hb2, hre⟩ := okv_b hok hkn
        have hrV : regV R a = (kd, sg, x, y) := (regV_in (by omega)).trans hRa
        refine J_topi (r := ((a.toNat : Nat) : Int)) (congrArg iI (by omega)) ?_
        refine J_bipush d_M_round_43 (i8_ok (by decide)) ?_
        refine J_bipush d_M_round_45 (i8_ok (by decide)) ?_
        refine J_callVi cw_M_182 nh_M_fetch pn_M_fetch rfl rfl (by omega) (by rw [va_up_self]) (As := [.int (iI ((a.toNat : Nat) : Int)), .int (iI 20), .int (iI 21)]) (rest := [.ref (ad 98)]) rfl (Nat.le_of_ble_eq_true rfl) ⟨by decide, by decide⟩ rfl ⟨by decide, by decide⟩ d_M_round_47 (c_M_fetch hfl (r := a.toNat) (u := 20) (d := 21) (x := x) (y := y) (kd := kd) (sg := sg) (kk := kk) (bb := bb) (rr := rr) (hh := hh) (ll := ll) (f := va_up f 10 0) (v := v) (V := V) (br := br) hN (by rw [va_up_self]) (by rw [va_up_ne _ _ (by decide)]; exact hB) (by rw [va_up_ne _ _ (by decide)]; exact hL) hR hzz (by rw [va_up_ne _ _ (by decide)]; exact hKk) (by rw [va_up_ne _ _ (by decide)]; exact hBb) (by rw [va_up_ne _ _ (by decide)]; exact hRr) (by omega) ⟨by omega, by omega⟩ ⟨by omega, by omega⟩ (hzz.2 20 (by decide) (by decide)) (hzz.2 21 (by decide) (by decide)) (by omega) (mreg_fr hmg (by omega) (fun k hk => (show (V) k = V k from by rfl))) hd0 hk1 hb hre) (fun mi F6 hq => ?_)
        obtain ⟨hmi, bh35, bl36, U, Y, hUY, hU9, hR37, eF6⟩ := hq
        refine J_eqF (F2 := va_up (va_up (va_up F 98 (oM ad (va_up f 10 0) v)) 99 (.inl (g 0, 858, .inl (aI bh35)))) 100 (.inl (g 0, 33, .inl (aI bl36)))) eF6 ?_
        obtain ⟨hU9, hU7⟩ := hU9
        have hU8 : powY kd Y := hU7
        clear hU7
        have hmi1 : (mi = 1 ∧ sg < 0) ∨ (mi = 0 ∧ 0 ≤ sg) := by rw [hmi]; split <;> omega
        refine pm_M_129 (by omega) (by rw [va_up_ne _ _ (by decide), va_up_ne _ _ (by decide), va_up_self]) (nb01 (by omega)) d_M_round_50 ?_
        refine J_eqF (F2 := va_up (va_up (va_up F 98 (oM ad (va_up (va_up f 10 0) 7 mi) v)) 99 (.inl (g 0, 858, .inl (aI bh35)))) 100 (.inl (g 0, 33, .inl (aI bl36)))) (up_in2 (by decide) (by decide)) ?_
        have U0 : x = 0 → U = 0 := fun e => by
          have h1 := hUY.2.1
          rw [e, Nat.zero_mul] at h1
          rcases Nat.mul_eq_zero.mp h1 with q | q
          · exact q
          · omega
        have hp10 : 10 ^ n.toNat < 2 ^ 67 := Nat.lt_of_le_of_lt (Nat.pow_le_pow_right (by decide) (show n.toNat ≤ 20 by omega)) (by decide)
        have hp10n : 10 ^ (-n).toNat < 2 ^ 67 := Nat.lt_of_le_of_lt (Nat.pow_le_pow_right (by decide) (show (-n).toNat ≤ 20 by omega)) (by decide)
        refine J_iload_n 2 d_M_round_53 rfl rfl ?_
        refine J_ifle (tgt := 67) d_M_round_54 (by decide) hn (fun c54 => ?_) (fun c54 => ?_)
        · refine J_aload_n 0 d_M_round_67 rfl rfl ?_
          refine J_bipush d_M_round_68 (i8_ok (by decide)) ?_
          refine J_iload_n 2 d_M_round_70 rfl rfl ?_
          refine J_ineg d_M_round_71 ?_
          refine J_callVv cw_M_208 nh_M_tens pn_M_tens rfl rfl (by omega) (by rw [va_up_ne _ _ (by decide), va_up_ne _ _ (by decide), va_up_self]) (As := [.int (iI 21), .int (iI (-n))]) (rest := []) rfl (Nat.le_of_ble_eq_true rfl) ⟨by decide, by decide⟩ rfl ⟨by decide, by decide⟩ d_M_round_72 (k_M_tens hfl (a := 21) (n := (-n)) (hh := bh35) (ll := bl36) (V := va_up (va_up V 21 Y) 20 U) (br := br) (hN := hN) (hO := (by rw [va_up_ne _ _ (by decide), va_up_ne _ _ (by decide), va_up_self])) (hB := (by rw [va_up_ne _ _ (by decide), va_up_self])) (hL := (by rw [va_up_self])) (hR := hR37) (ha := by omega) (hxa := ((va_up_ne _ _ (by decide)).trans (va_up_self ..))) (bra := (hzz.2 21 (by decide) (by decide))) (hn := ⟨by omega, by omega⟩) (hT := (lnw_le (by decide)).mpr (Nat.lt_of_lt_of_le (Nat.mul_lt_mul'' hUY.2.2.2 hp10n) (by decide)))) (fun  F7 hq => ?_)
          obtain ⟨bh38, bl39, hR40, eF7⟩ := hq
          refine J_eqF (F2 := va_up (va_up (va_up F 98 (oM ad (va_up (va_up f 10 0) 7 mi) v)) 99 (.inl (g 0, 858, .inl (aI bh38)))) 100 (.inl (g 0, 33, .inl (aI bl39)))) (eF7.trans (Eq.trans (congrArg (fun q : Nat → va_E => va_up q 100 (.inl (g 0, 33, .inl (aI bl39)))) (up_in1 (by decide))) (up_in0))) ?_
          have hR43 := reg_w1 (hzz.1 _) hR40
          have hR44 := (congrArg (fun qq : Nat → Nat => reg _ _ _ (qq)) (up_in1 (by decide))).mp hR43
          have hA2 : U < 2 ^ 235 := Nat.lt_trans hUY.2.2.1 (by decide)
          have hB2 : Y * 10 ^ ((-n).toNat) < 2 ^ 235 := Nat.lt_of_lt_of_le (Nat.mul_lt_mul'' hUY.2.2.2 hp10n) (by decide)
          have hB0 : 0 < Y * 10 ^ ((-n).toNat) := Nat.mul_pos hUY.1 (Nat.pow_pos (by decide))
          have hAl : lnw 28 (U) ≤ 20 := (lnw_le (by decide)).mpr (Nat.lt_trans hA2 (by decide))
          have hBl : lnw 28 (Y * 10 ^ ((-n).toNat)) ≤ 20 := (lnw_le (by decide)).mpr (Nat.lt_trans hB2 (by decide))
          refine J_aload_n 0 d_M_round_75 rfl rfl ?_
          refine J_bipush d_M_round_76 (i8_ok (by decide)) ?_
          refine J_bipush d_M_round_78 (i8_ok (by decide)) ?_
          refine J_callVv cw_M_211 nh_M_even pn_M_even rfl rfl (by omega) (by rw [va_up_ne _ _ (by decide), va_up_ne _ _ (by decide), va_up_self]) (As := [.int (iI 20), .int (iI 21)]) (rest := []) rfl (Nat.le_of_ble_eq_true rfl) ⟨by decide, by decide⟩ rfl ⟨by decide, by decide⟩ d_M_round_80 (c_M_even hfl (u := 20) (d := 21) (x := U) (y := Y * 10 ^ ((-n).toNat)) (hh := bh38) (ll := bl39) (f := va_up (va_up f 10 0) 7 mi) (v := v) (V := va_up (va_up V 21 (Y * 10 ^ ((-n).toNat))) 20 U) (br := br) hN (by rw [va_up_ne _ _ (by decide), va_up_ne _ _ (by decide), va_up_self]) (by rw [va_up_ne _ _ (by decide), va_up_self]) (by rw [va_up_self]) hR44 hzz (by omega) (by omega) (hzz.2 20 (by decide) (by decide)) (hzz.2 21 (by decide) (by decide)) ((va_up_self ..)) (((va_up_ne _ _ (by decide)).trans (va_up_self ..))) (Nat.ne_of_gt hB0) hAl hBl) (fun  F8 hq => ?_)
          obtain ⟨bh45, bl46, W47, hR48, hf49, hq50, eF8⟩ := hq
          refine J_eqF (F2 := va_up (va_up (va_up F 98 (oM ad (va_up (va_up f 10 0) 7 mi) v)) 99 (.inl (g 0, 858, .inl (aI bh45)))) 100 (.inl (g 0, 33, .inl (aI bl46)))) (eF8.trans (Eq.trans (congrArg (fun q : Nat → va_E => va_up q 100 (.inl (g 0, 33, .inl (aI bl46)))) (up_in1 (by decide))) (up_in0))) ?_
          refine J_aload_n 0 d_M_round_83 rfl rfl ?_
          refine J_bipush d_M_round_84 (i8_ok (by decide)) ?_
          refine J_bipush d_M_round_86 (i8_ok (by decide)) ?_
          refine J_callVv cw_M_58 nh_M_copy pn_M_copy rfl rfl (by omega) (by rw [va_up_ne _ _ (by decide), va_up_ne _ _ (by decide), va_up_self]) (As := [.int (iI 24), .int (iI 20)]) (rest := []) rfl (Nat.le_of_ble_eq_true rfl) ⟨by decide, by decide⟩ rfl ⟨by decide, by decide⟩ d_M_round_88 (k_M_copy hfl (a := 24) (b := 20) (hh := bh45) (ll := bl46) (V := W47) (br := br) (hN := hN) (hO := (by rw [va_up_ne _ _ (by decide), va_up_ne _ _ (by decide), va_up_self])) (hB := (by rw [va_up_ne _ _ (by decide), va_up_self])) (hL := (by rw [va_up_self])) (hR := hR48) (ha := by omega) (hb := by omega) (hxa := hq50) (bra := (hzz.2 24 (by decide) (by decide)))) (fun  F9 hq => ?_)
          obtain ⟨bh51, bl52, hR53, eF9⟩ := hq
          refine J_eqF (F2 := va_up (va_up (va_up F 98 (oM ad (va_up (va_up f 10 0) 7 mi) v)) 99 (.inl (g 0, 858, .inl (aI bh51)))) 100 (.inl (g 0, 33, .inl (aI bl52)))) (eF9.trans (Eq.trans (congrArg (fun q : Nat → va_E => va_up q 100 (.inl (g 0, 33, .inl (aI bl52)))) (up_in1 (by decide))) (up_in0))) ?_
          have hR56 := reg_w1 (hzz.1 _) hR53
          refine J_aload_n 0 d_M_round_91 rfl rfl ?_
          refine J_bipush d_M_round_92 (i8_ok (by decide)) ?_
          refine J_lconst (v := 1) d_M_round_94 rfl ?_
          refine J_callVv cw_M_82 nh_M_put pn_M_put rfl rfl (by omega) (by rw [va_up_ne _ _ (by decide), va_up_ne _ _ (by decide), va_up_self]) (As := [.int (iI 21), .long (lI 1)]) (rest := []) rfl (Nat.le_of_ble_eq_true rfl) ⟨by decide, by decide⟩ rfl ⟨by decide, by decide⟩ d_M_round_95 (k_M_put hfl (a := 21) (n := 1) (hh := bh51) (ll := bl52) (V := va_up W47 20 (rnd (U / (Y * 10 ^ ((-n).toNat))) (U % (Y * 10 ^ ((-n).toNat))) (Y * 10 ^ ((-n).toNat)))) (br := br) (hN := hN) (hO := (by rw [va_up_ne _ _ (by decide), va_up_ne _ _ (by decide), va_up_self])) (hB := (by rw [va_up_ne _ _ (by decide), va_up_self])) (hL := (by rw [va_up_self])) (hR := hR56) (ha := by omega) (hn := by decide)) (fun  F10 hq => ?_)
          obtain ⟨bh57, bl58, hR59, eF10⟩ := hq
          refine J_eqF (F2 := va_up (va_up (va_up F 98 (oM ad (va_up (va_up f 10 0) 7 mi) v)) 99 (.inl (g 0, 858, .inl (aI bh57)))) 100 (.inl (g 0, 33, .inl (aI bl58)))) (eF10.trans (Eq.trans (congrArg (fun q : Nat → va_E => va_up q 100 (.inl (g 0, 33, .inl (aI bl58)))) (up_in1 (by decide))) (up_in0))) ?_
          have hR62 := reg_w1 (hzz.1 _) hR59
          refine J_iload_n 2 d_M_round_98 rfl rfl ?_
          refine J_ifle (tgt := 112) d_M_round_99 (by decide) hn (fun c99 => ?_) (fun c99 => ?_)
          · refine J_aload_n 0 d_M_round_112 rfl rfl ?_
            refine J_bipush d_M_round_113 (i8_ok (by decide)) ?_
            refine J_iload_n 2 d_M_round_115 rfl rfl ?_
            refine J_ineg d_M_round_116 ?_
            refine J_callVv cw_M_208 nh_M_tens pn_M_tens rfl rfl (by omega) (by rw [va_up_ne _ _ (by decide), va_up_ne _ _ (by decide), va_up_self]) (As := [.int (iI 20), .int (iI (-n))]) (rest := []) rfl (Nat.le_of_ble_eq_true rfl) ⟨by decide, by decide⟩ rfl ⟨by decide, by decide⟩ d_M_round_117 (k_M_tens hfl (a := 20) (n := (-n)) (hh := bh57) (ll := bl58) (V := va_up (va_up W47 20 (rnd (U / (Y * 10 ^ ((-n).toNat))) (U % (Y * 10 ^ ((-n).toNat))) (Y * 10 ^ ((-n).toNat)))) 21 1) (br := br) (hN := hN) (hO := (by rw [va_up_ne _ _ (by decide), va_up_ne _ _ (by decide), va_up_self])) (hB := (by rw [va_up_ne _ _ (by decide), va_up_self])) (hL := (by rw [va_up_self])) (hR := hR62) (ha := by omega) (hxa := ((va_up_ne _ _ (by decide)).trans (va_up_self ..))) (bra := (hzz.2 20 (by decide) (by decide))) (hn := ⟨by omega, by omega⟩) (hT := (lnw_le (by decide)).mpr (Nat.lt_of_lt_of_le (Nat.mul_lt_mul'' (Nat.lt_of_le_of_lt (rnd_le _ _ _) (Nat.lt_of_le_of_lt (Nat.succ_le_of_lt (Nat.lt_of_le_of_lt (Nat.div_le_self _ _) hA2)) (by decide : 2 ^ 235 < 2 ^ 236))) hp10n) (by decide)))) (fun  F11 hq => ?_)
            obtain ⟨bh63, bl64, hR65, eF11⟩ := hq
            refine J_eqF (F2 := va_up (va_up (va_up F 98 (oM ad (va_up (va_up f 10 0) 7 mi) v)) 99 (.inl (g 0, 858, .inl (aI bh63)))) 100 (.inl (g 0, 33, .inl (aI bl64)))) (eF11.trans (Eq.trans (congrArg (fun q : Nat → va_E => va_up q 100 (.inl (g 0, 33, .inl (aI bl64)))) (up_in1 (by decide))) (up_in0))) ?_
            have hR68 := reg_w1 (hzz.1 _) hR65
            have hR69 := (congrArg (fun qq : Nat → Nat => reg _ _ _ (qq)) (up_in1 (by decide))).mp hR68
            refine J_aload_n 0 d_M_round_120 rfl rfl ?_
            refine J_aload_n 0 d_M_round_121 rfl rfl ?_
            refine gf_M_16 (by omega) (by rw [va_up_ne _ _ (by decide), va_up_ne _ _ (by decide), va_up_self]) rfl d_M_round_122 ?_
            refine J_iload_n 1 d_M_round_125 rfl rfl ?_
            refine J_iaload 0 rfl (by omega) (by rw [va_up_ne _ _ (by decide), va_up_ne _ _ (by decide), va_up_ne _ _ (by decide)]; exact hKk) (by omega) d_M_round_126 ?_
            refine J_topi (r := kd) (congrArg iI hka) ?_
            refine J_iload_n 3 d_M_round_127 rfl rfl ?_
            refine J_topi (r := ((to.toNat : Nat) : Int)) (congrArg iI (by omega)) ?_
            refine J_iconst d_M_round_128 ?_
            have hX2 : (rnd (U / (Y * 10 ^ ((-n).toNat))) (U % (Y * 10 ^ ((-n).toNat))) (Y * 10 ^ ((-n).toNat))) * 10 ^ ((-n).toNat) < 2 ^ 303 := Nat.lt_of_lt_of_le (Nat.mul_lt_mul'' (Nat.lt_of_le_of_lt (rnd_le _ _ _) (Nat.lt_of_le_of_lt (Nat.succ_le_of_lt (Nat.lt_of_le_of_lt (Nat.div_le_self _ _) hA2)) (by decide : 2 ^ 235 < 2 ^ 236))) hp10n) (by decide)
            have hY2 : 1 < 2 ^ 303 := by decide
            have hD9 := mstd_3 hD0 (f' := va_up (va_up f 10 0) 7 mi) (v' := v) hR69 hzz (fun k hk => ((show (va_up (va_up W47 20 ((rnd (U / (Y * 10 ^ ((-n).toNat))) (U % (Y * 10 ^ ((-n).toNat))) (Y * 10 ^ ((-n).toNat))) * 10 ^ ((-n).toNat))) 21 1) k = W47 k from by rw [va_up_ne _ _ (by omega), va_up_ne _ _ (by omega)]).trans ((hf49 k (by omega) (by omega) (by omega) (by omega)).trans (show (va_up (va_up V 21 (Y * 10 ^ ((-n).toNat))) 20 U) k = V k from by rw [va_up_ne _ _ (by omega), va_up_ne _ _ (by omega)])))) ((va_up_ne _ _ (by decide)).trans (va_up_ne _ _ (by decide))) ((va_up_ne _ _ (by decide)).trans (va_up_ne _ _ (by decide)))
            have hof9 : offM F (va_up (va_up (va_up F 98 (oM ad (va_up (va_up f 10 0) 7 mi) v)) 99 (.inl (g 0, 858, .inl (aI bh63)))) 100 (.inl (g 0, 33, .inl (aI bl64)))) := offM_3
            have hc10 : (va_up (va_up f 10 0) 7 mi) 10 = 0 := ((va_up_ne _ _ (by decide)).trans (va_up_self ..))
            refine J_callVi cw_M_142 nh_M_store pn_M_store rfl rfl (by omega) (by rw [va_up_ne _ _ (by decide), va_up_ne _ _ (by decide), va_up_self]) (As := [.int (iI kd), .int (iI ((to.toNat : Nat) : Int)), .int (iI 2)]) (rest := []) rfl (Nat.le_of_ble_eq_true rfl) ⟨by decide, by decide⟩ rfl ⟨by decide, by decide⟩ d_M_round_129 (c_M_store2 hfl (X := (rnd (U / (Y * 10 ^ ((-n).toNat))) (U % (Y * 10 ^ ((-n).toNat))) (Y * 10 ^ ((-n).toNat))) * 10 ^ ((-n).toNat)) (Y := 1) (to := to.toNat) (kd := kd) (s := sg) (code := 2) hN hD9 (((va_up_ne _ _ (by decide)).trans (va_up_self ..))) ((va_up_self ..)) (by decide) ((lnw_le (by decide)).mpr (Nat.lt_trans hX2 (by decide))) ((lnw_le (by decide)).mpr (Nat.lt_trans hY2 (by decide))) (blen_le.mpr (Nat.lt_trans hX2 (by decide))) (blen_le.mpr (Nat.lt_trans hY2 (by decide))) ⟨by omega, by omega⟩ (((va_up_self ..)).trans hmi) (by omega) (by omega) (fun _ => Nat.one_dvd _) (fun e => by rw [U0 (hs0.mp e)]; rw [rnd_0 hB0, Nat.zero_mul])) (fun z9 F9 hq => ?_)
            obtain ⟨hq9, hoff9⟩ := hq
            replace hoff9 := offM_t hof9 hoff9
            refine J_iret rfl rfl d_M_round_132 ⟨by decide, by decide⟩ ?_
            have hT : rndF kd sg x y n = fin kd sg ((rnd (U / (Y * 10 ^ ((-n).toNat))) (U % (Y * 10 ^ ((-n).toNat))) (Y * 10 ^ ((-n).toNat))) * 10 ^ ((-n).toNat)) (1) := by
              rw [rnd_fin hUY.2.1 hUY.1 hd0 hk0 (p := 0) (q := (-n).toNat) (by omega) rfl]
              simp only [Nat.pow_zero, Nat.mul_one]
            refine ⟨_, rfl, rfl, rfl, msto_i (by unfold roundO; rw [if_pos ⟨by omega, by rw [hrV]; exact hkn, by omega⟩, hrV, hT]) rfl hc10 hq9, hoff9⟩
          · exact absurd c99 (by omega)
        · refine J_aload_n 0 d_M_round_57 rfl rfl ?_
          refine J_bipush d_M_round_58 (i8_ok (by decide)) ?_
          refine J_iload_n 2 d_M_round_60 rfl rfl ?_
          refine J_callVv cw_M_208 nh_M_tens pn_M_tens rfl rfl (by omega) (by rw [va_up_ne _ _ (by decide), va_up_ne _ _ (by decide), va_up_self]) (As := [.int (iI 20), .int (iI n)]) (rest := []) rfl (Nat.le_of_ble_eq_true rfl) ⟨by decide, by decide⟩ rfl ⟨by decide, by decide⟩ d_M_round_61 (k_M_tens hfl (a := 20) (n := n) (hh := bh35) (ll := bl36) (V := va_up (va_up V 21 Y) 20 U) (br := br) (hN := hN) (hO := (by rw [va_up_ne _ _ (by decide), va_up_ne _ _ (by decide), va_up_self])) (hB := (by rw [va_up_ne _ _ (by decide), va_up_self])) (hL := (by rw [va_up_self])) (hR := hR37) (ha := by omega) (hxa := (va_up_self ..)) (bra := (hzz.2 20 (by decide) (by decide))) (hn := hn) (hT := (lnw_le (by decide)).mpr (Nat.lt_of_lt_of_le (Nat.mul_lt_mul'' hUY.2.2.1 hp10) (by decide)))) (fun  F12 hq => ?_)
          obtain ⟨bh70, bl71, hR72, eF12⟩ := hq
          refine J_eqF (F2 := va_up (va_up (va_up F 98 (oM ad (va_up (va_up f 10 0) 7 mi) v)) 99 (.inl (g 0, 858, .inl (aI bh70)))) 100 (.inl (g 0, 33, .inl (aI bl71)))) (eF12.trans (Eq.trans (congrArg (fun q : Nat → va_E => va_up q 100 (.inl (g 0, 33, .inl (aI bl71)))) (up_in1 (by decide))) (up_in0))) ?_
          have hR75 := reg_w1 (hzz.1 _) hR72
          have hR76 := (congrArg (fun qq : Nat → Nat => reg _ _ _ (qq)) (up_in0)).mp hR75
          refine J_goto (tgt := 75) d_M_round_64 (by decide) ?_
          have hA2 : U * 10 ^ n.toNat < 2 ^ 235 := Nat.lt_of_lt_of_le (Nat.mul_lt_mul'' hUY.2.2.1 hp10) (by decide)
          have hB2 : Y < 2 ^ 235 := Nat.lt_trans hUY.2.2.2 (by decide)
          have hB0 : 0 < Y := hUY.1
          have hAl : lnw 28 (U * 10 ^ n.toNat) ≤ 20 := (lnw_le (by decide)).mpr (Nat.lt_trans hA2 (by decide))
          have hBl : lnw 28 (Y) ≤ 20 := (lnw_le (by decide)).mpr (Nat.lt_trans hB2 (by decide))
          refine J_aload_n 0 d_M_round_75 rfl rfl ?_
          refine J_bipush d_M_round_76 (i8_ok (by decide)) ?_
          refine J_bipush d_M_round_78 (i8_ok (by decide)) ?_
          refine J_callVv cw_M_211 nh_M_even pn_M_even rfl rfl (by omega) (by rw [va_up_ne _ _ (by decide), va_up_ne _ _ (by decide), va_up_self]) (As := [.int (iI 20), .int (iI 21)]) (rest := []) rfl (Nat.le_of_ble_eq_true rfl) ⟨by decide, by decide⟩ rfl ⟨by decide, by decide⟩ d_M_round_80 (c_M_even hfl (u := 20) (d := 21) (x := U * 10 ^ n.toNat) (y := Y) (hh := bh70) (ll := bl71) (f := va_up (va_up f 10 0) 7 mi) (v := v) (V := va_up (va_up V 21 Y) 20 (U * 10 ^ n.toNat)) (br := br) hN (by rw [va_up_ne _ _ (by decide), va_up_ne _ _ (by decide), va_up_self]) (by rw [va_up_ne _ _ (by decide), va_up_self]) (by rw [va_up_self]) hR76 hzz (by omega) (by omega) (hzz.2 20 (by decide) (by decide)) (hzz.2 21 (by decide) (by decide)) ((va_up_self ..)) (((va_up_ne _ _ (by decide)).trans (va_up_self ..))) (Nat.ne_of_gt hB0) hAl hBl) (fun  F13 hq => ?_)
          obtain ⟨bh77, bl78, W79, hR80, hf81, hq82, eF13⟩ := hq
          refine J_eqF (F2 := va_up (va_up (va_up F 98 (oM ad (va_up (va_up f 10 0) 7 mi) v)) 99 (.inl (g 0, 858, .inl (aI bh77)))) 100 (.inl (g 0, 33, .inl (aI bl78)))) (eF13.trans (Eq.trans (congrArg (fun q : Nat → va_E => va_up q 100 (.inl (g 0, 33, .inl (aI bl78)))) (up_in1 (by decide))) (up_in0))) ?_
          refine J_aload_n 0 d_M_round_83 rfl rfl ?_
          refine J_bipush d_M_round_84 (i8_ok (by decide)) ?_
          refine J_bipush d_M_round_86 (i8_ok (by decide)) ?_
          refine J_callVv cw_M_58 nh_M_copy pn_M_copy rfl rfl (by omega) (by rw [va_up_ne _ _ (by decide), va_up_ne _ _ (by decide), va_up_self]) (As := [.int (iI 24), .int (iI 20)]) (rest := []) rfl (Nat.le_of_ble_eq_true rfl) ⟨by decide, by decide⟩ rfl ⟨by decide, by decide⟩ d_M_round_88 (k_M_copy hfl (a := 24) (b := 20) (hh := bh77) (ll := bl78) (V := W79) (br := br) (hN := hN) (hO := (by rw [va_up_ne _ _ (by decide), va_up_ne _ _ (by decide), va_up_self])) (hB := (by rw [va_up_ne _ _ (by decide), va_up_self])) (hL := (by rw [va_up_self])) (hR := hR80) (ha := by omega) (hb := by omega) (hxa := hq82) (bra := (hzz.2 24 (by decide) (by decide)))) (fun  F14 hq => ?_)
          obtain ⟨bh83, bl84, hR85, eF14⟩ := hq
          refine J_eqF (F2 := va_up (va_up (va_up F 98 (oM ad (va_up (va_up f 10 0) 7 mi) v)) 99 (.inl (g 0, 858, .inl (aI bh83)))) 100 (.inl (g 0, 33, .inl (aI bl84)))) (eF14.trans (Eq.trans (congrArg (fun q : Nat → va_E => va_up q 100 (.inl (g 0, 33, .inl (aI bl84)))) (up_in1 (by decide))) (up_in0))) ?_
          have hR88 := reg_w1 (hzz.1 _) hR85
          refine J_aload_n 0 d_M_round_91 rfl rfl ?_
          refine J_bipush d_M_round_92 (i8_ok (by decide)) ?_
          refine J_lconst (v := 1) d_M_round_94 rfl ?_
          refine J_callVv cw_M_82 nh_M_put pn_M_put rfl rfl (by omega) (by rw [va_up_ne _ _ (by decide), va_up_ne _ _ (by decide), va_up_self]) (As := [.int (iI 21), .long (lI 1)]) (rest := []) rfl (Nat.le_of_ble_eq_true rfl) ⟨by decide, by decide⟩ rfl ⟨by decide, by decide⟩ d_M_round_95 (k_M_put hfl (a := 21) (n := 1) (hh := bh83) (ll := bl84) (V := va_up W79 20 (rnd ((U * 10 ^ n.toNat) / Y) ((U * 10 ^ n.toNat) % Y) Y)) (br := br) (hN := hN) (hO := (by rw [va_up_ne _ _ (by decide), va_up_ne _ _ (by decide), va_up_self])) (hB := (by rw [va_up_ne _ _ (by decide), va_up_self])) (hL := (by rw [va_up_self])) (hR := hR88) (ha := by omega) (hn := by decide)) (fun  F15 hq => ?_)
          obtain ⟨bh89, bl90, hR91, eF15⟩ := hq
          refine J_eqF (F2 := va_up (va_up (va_up F 98 (oM ad (va_up (va_up f 10 0) 7 mi) v)) 99 (.inl (g 0, 858, .inl (aI bh89)))) 100 (.inl (g 0, 33, .inl (aI bl90)))) (eF15.trans (Eq.trans (congrArg (fun q : Nat → va_E => va_up q 100 (.inl (g 0, 33, .inl (aI bl90)))) (up_in1 (by decide))) (up_in0))) ?_
          have hR94 := reg_w1 (hzz.1 _) hR91
          refine J_iload_n 2 d_M_round_98 rfl rfl ?_
          refine J_ifle (tgt := 112) d_M_round_99 (by decide) hn (fun c99 => ?_) (fun c99 => ?_)
          · exact absurd c99 (by omega)
          · refine J_aload_n 0 d_M_round_102 rfl rfl ?_
            refine J_bipush d_M_round_103 (i8_ok (by decide)) ?_
            refine J_iload_n 2 d_M_round_105 rfl rfl ?_
            refine J_callVv cw_M_208 nh_M_tens pn_M_tens rfl rfl (by omega) (by rw [va_up_ne _ _ (by decide), va_up_ne _ _ (by decide), va_up_self]) (As := [.int (iI 21), .int (iI n)]) (rest := []) rfl (Nat.le_of_ble_eq_true rfl) ⟨by decide, by decide⟩ rfl ⟨by decide, by decide⟩ d_M_round_106 (k_M_tens hfl (a := 21) (n := n) (hh := bh89) (ll := bl90) (V := va_up (va_up W79 20 (rnd ((U * 10 ^ n.toNat) / Y) ((U * 10 ^ n.toNat) % Y) Y)) 21 1) (br := br) (hN := hN) (hO := (by rw [va_up_ne _ _ (by decide), va_up_ne _ _ (by decide), va_up_self])) (hB := (by rw [va_up_ne _ _ (by decide), va_up_self])) (hL := (by rw [va_up_self])) (hR := hR94) (ha := by omega) (hxa := (va_up_self ..)) (bra := (hzz.2 21 (by decide) (by decide))) (hn := hn) (hT := (lnw_le (by decide)).mpr (Nat.lt_of_lt_of_le (Nat.mul_lt_mul'' (by decide : 1 < 2) hp10) (by decide)))) (fun  F16 hq => ?_)
            obtain ⟨bh95, bl96, hR97, eF16⟩ := hq
            refine J_eqF (F2 := va_up (va_up (va_up F 98 (oM ad (va_up (va_up f 10 0) 7 mi) v)) 99 (.inl (g 0, 858, .inl (aI bh95)))) 100 (.inl (g 0, 33, .inl (aI bl96)))) (eF16.trans (Eq.trans (congrArg (fun q : Nat → va_E => va_up q 100 (.inl (g 0, 33, .inl (aI bl96)))) (up_in1 (by decide))) (up_in0))) ?_
            have hR100 := reg_w1 (hzz.1 _) hR97
            have hR101 := (congrArg (fun qq : Nat → Nat => reg _ _ _ (qq)) (up_in0)).mp hR100
            refine J_goto (tgt := 120) d_M_round_109 (by decide) ?_
            refine J_aload_n 0 d_M_round_120 rfl rfl ?_
            refine J_aload_n 0 d_M_round_121 rfl rfl ?_
            refine gf_M_16 (by omega) (by rw [va_up_ne _ _ (by decide), va_up_ne _ _ (by decide), va_up_self]) rfl d_M_round_122 ?_
            refine J_iload_n 1 d_M_round_125 rfl rfl ?_
            refine J_iaload 0 rfl (by omega) (by rw [va_up_ne _ _ (by decide), va_up_ne _ _ (by decide), va_up_ne _ _ (by decide)]; exact hKk) (by omega) d_M_round_126 ?_
            refine J_topi (r := kd) (congrArg iI hka) ?_
            refine J_iload_n 3 d_M_round_127 rfl rfl ?_
            refine J_topi (r := ((to.toNat : Nat) : Int)) (congrArg iI (by omega)) ?_
            refine J_iconst d_M_round_128 ?_
            have hX2 : rnd ((U * 10 ^ n.toNat) / Y) ((U * 10 ^ n.toNat) % Y) Y < 2 ^ 303 := Nat.lt_of_le_of_lt (rnd_le _ _ _) (Nat.lt_of_le_of_lt (Nat.succ_le_of_lt (Nat.lt_of_le_of_lt (Nat.div_le_self _ _) hA2)) (by decide))
            have hY2 : 1 * 10 ^ n.toNat < 2 ^ 303 := Nat.lt_of_lt_of_le (Nat.mul_lt_mul'' (by decide : 1 < 2) hp10) (by decide)
            have hD9 := mstd_3 hD0 (f' := va_up (va_up f 10 0) 7 mi) (v' := v) hR101 hzz (fun k hk => ((show (va_up (va_up W79 20 (rnd ((U * 10 ^ n.toNat) / Y) ((U * 10 ^ n.toNat) % Y) Y)) 21 (1 * 10 ^ n.toNat)) k = W79 k from by rw [va_up_ne _ _ (by omega), va_up_ne _ _ (by omega)]).trans ((hf81 k (by omega) (by omega) (by omega) (by omega)).trans (show (va_up (va_up V 21 Y) 20 (U * 10 ^ n.toNat)) k = V k from by rw [va_up_ne _ _ (by omega), va_up_ne _ _ (by omega)])))) ((va_up_ne _ _ (by decide)).trans (va_up_ne _ _ (by decide))) ((va_up_ne _ _ (by decide)).trans (va_up_ne _ _ (by decide)))
            have hof9 : offM F (va_up (va_up (va_up F 98 (oM ad (va_up (va_up f 10 0) 7 mi) v)) 99 (.inl (g 0, 858, .inl (aI bh95)))) 100 (.inl (g 0, 33, .inl (aI bl96)))) := offM_3
            have hc10 : (va_up (va_up f 10 0) 7 mi) 10 = 0 := ((va_up_ne _ _ (by decide)).trans (va_up_self ..))
            refine J_callVi cw_M_142 nh_M_store pn_M_store rfl rfl (by omega) (by rw [va_up_ne _ _ (by decide), va_up_ne _ _ (by decide), va_up_self]) (As := [.int (iI kd), .int (iI ((to.toNat : Nat) : Int)), .int (iI 2)]) (rest := []) rfl (Nat.le_of_ble_eq_true rfl) ⟨by decide, by decide⟩ rfl ⟨by decide, by decide⟩ d_M_round_129 (c_M_store2 hfl (X := rnd ((U * 10 ^ n.toNat) / Y) ((U * 10 ^ n.toNat) % Y) Y) (Y := 1 * 10 ^ n.toNat) (to := to.toNat) (kd := kd) (s := sg) (code := 2) hN hD9 (((va_up_ne _ _ (by decide)).trans (va_up_self ..))) ((va_up_self ..)) (Nat.mul_pos (by decide) (Nat.pow_pos (by decide))) ((lnw_le (by decide)).mpr (Nat.lt_trans hX2 (by decide))) ((lnw_le (by decide)).mpr (Nat.lt_trans hY2 (by decide))) (blen_le.mpr (Nat.lt_trans hX2 (by decide))) (blen_le.mpr (Nat.lt_trans hY2 (by decide))) ⟨by omega, by omega⟩ (((va_up_self ..)).trans hmi) (by omega) (by omega) (fun e => by rw [show Y = 1 from (hU9 (by omega)).2.trans (hk0 e), rnd_1, Nat.one_mul]; exact Nat.dvd_mul_left _ _) (fun e => by rw [U0 (hs0.mp e)]; rw [Nat.zero_mul]; exact rnd_0 hUY.1)) (fun z9 F9 hq => ?_)
            obtain ⟨hq9, hoff9⟩ := hq
            replace hoff9 := offM_t hof9 hoff9
            refine J_iret rfl rfl d_M_round_132 ⟨by decide, by decide⟩ ?_
            have hT : rndF kd sg x y n = fin kd sg (rnd ((U * 10 ^ n.toNat) / Y) ((U * 10 ^ n.toNat) % Y) Y) (1 * 10 ^ n.toNat) := by
              rw [rnd_fin hUY.2.1 hUY.1 hd0 hk0 (p := n.toNat) (q := 0) rfl (by omega)]
              simp only [Nat.pow_zero, Nat.mul_one]
            refine ⟨_, rfl, rfl, rfl, msto_i (by unfold roundO; rw [if_pos ⟨by omega, by rw [hrV]; exact hkn, by omega⟩, hrV, hT]) rfl hc10 hq9, hoff9⟩
      · refine J_aload_n 0 d_M_round_34 rfl rfl ?_
        refine J_iconst d_M_round_35 ?_
        refine J_callVi cw_M_135 nh_M_fail pn_M_fail rfl rfl (by omega) (by rw [va_up_self]) (As := [.int (iI 1)]) (rest := []) rfl (Nat.le_of_ble_eq_true rfl) ⟨by decide, by decide⟩ rfl ⟨by decide, by decide⟩ d_M_round_36 (c_M_fail hfl (code := 1) (f := va_up f 10 0) (v := v) hN (by rw [va_up_self])) (fun z102 F17 hq => ?_)
        obtain ⟨hz102, eF17⟩ := hq
        refine J_eqF (F2 := va_up F 98 (oM ad (va_up f 10 1) v)) ((eF17.trans (congrArg (fun qq : Nat → Int => va_up (va_up F 98 (oM ad (va_up f 10 0) v)) 98 (oM ad qq v)) (up_in0))).trans (up_in0)) ?_
        refine J_topi (r := 0) (congrArg iI hz102) ?_
        refine J_eqF (F2 := va_up (va_up F 98 (oM ad (va_up f 10 1) v)) 99 (.inl (g 0, 858, .inl (aI hh)))) (up_same1 (by rw [va_up_ne _ _ (by decide)]; exact hB)) ?_
        refine J_eqF (F2 := va_up (va_up (va_up F 98 (oM ad (va_up f 10 1) v)) 99 (.inl (g 0, 858, .inl (aI hh)))) 100 (.inl (g 0, 33, .inl (aI ll)))) (up_same1 (by rw [va_up_ne _ _ (by decide), va_up_ne _ _ (by decide)]; exact hL)) ?_
        refine J_iret rfl rfl d_M_round_39 ⟨by decide, by decide⟩ ?_
        exact ⟨_, rfl, rfl, rfl, Or.inl ⟨0, if_neg (fun h => by first | omega | exact h.2.1 (regV_no hmr (by omega))), rfl, mst_3 hD0 hR hzz (fun k hk => (show (V) k = V k from by rfl)) (va_up_ne _ _ (by decide)) (va_up_ne _ _ (by decide)) (va_up_self ..)⟩, offM_3⟩
set_option maxRecDepth 100000 in
set_option maxHeartbeats 4000000 in
theorem c_M_compare {l : Launch} (hfl : l.flags = flags0) {D : va_G} {g : Nat → ClassId} {ad : Nat → Nat} {N : Nat} {F : Nat → va_E} {R : Nat → Vn} {ln sh : List Nat} {th0 : Int} {a b : Int}
    (hN : 109 ≤ N) (hM : mst ad g R ln sh th0 F) (ha : inI a) (hb : inI b) :
    JC l y_M_compare b_M_compare 3 (Option.some Jvm.ClassFile.FieldType.int) rm_M_compare (0, 0) D jCl (jTys g) ad N F [.ref (ad 98), .int (iI a), .int (iI b)] (ji ad N (fun z F' => z = cmpQ (regV R a) (regV R b) ∧ mst ad g R ln sh 0 F' ∧ offM F F')) := by
  obtain ⟨hh, ll, f, v, V, br, kk, bb, rr, lh, xh, dh, tt, hD0, hth⟩ := hM
  have hD := hD0
  obtain ⟨hO, hB, hL, hR, hzz, hKk, hBb, hRr, hmr, h104, h105, h106, h107, hln, hsh⟩ := hD
  have hkI := mR_kI hmr
  refine JC.go hfl (own := "NumberTowerModel") (lv := [(0, .ref (ad 98)), (1, .int (iI a)), (2, .int (iI b))]) rfl (by decide +kernel) (Nat.le_of_ble_eq_true rfl) rfl (fun A => ?_)
  refine J_aload_n 0 d_M_compare_0 rfl rfl ?_
  refine J_iconst d_M_compare_1 ?_
  refine pm_M_39 (by omega) hO d_M_compare_2 ?_
  refine J_aload_n 0 d_M_compare_5 rfl rfl ?_
  refine J_iload_n 1 d_M_compare_6 rfl rfl ?_
  refine J_callVi cw_M_176 nh_M_isNumber pn_M_isNumber rfl rfl (by omega) (by rw [va_up_self]) (As := [.int (iI a)]) (rest := []) rfl (Nat.le_of_ble_eq_true rfl) ⟨by decide, by decide⟩ rfl ⟨by decide, by decide⟩ d_M_compare_7 (c_M_isNumber hfl (r := a) (f := va_up f 10 0) (v := v) (kk := kk) hN (by rw [va_up_self]) (by rw [va_up_ne _ _ (by decide)]; exact hKk) (by omega) (fun j hj => ⟨by have := hkI j hj; omega, by have := hkI j hj; omega⟩)) (fun z103 F1 hq => ?_)
  obtain ⟨hz103, eF1⟩ := hq
  refine J_eqF eF1 ?_
  refine J_ifeq (tgt := 21) d_M_compare_10 (by decide) ⟨by omega, by omega⟩ (fun c10 => ?_) (fun c10 => ?_)
  · refine J_iconst d_M_compare_21 ?_
    refine J_eqF (F2 := va_up (va_up F 98 (oM ad (va_up f 10 0) v)) 99 (.inl (g 0, 858, .inl (aI hh)))) (up_same1 (by rw [va_up_ne _ _ (by decide)]; exact hB)) ?_
    refine J_eqF (F2 := va_up (va_up (va_up F 98 (oM ad (va_up f 10 0) v)) 99 (.inl (g 0, 858, .inl (aI hh)))) 100 (.inl (g 0, 33, .inl (aI ll)))) (up_same1 (by rw [va_up_ne _ _ (by decide), va_up_ne _ _ (by decide)]; exact hL)) ?_
    refine J_iret rfl rfl d_M_compare_22 ⟨by decide, by decide⟩ ?_
    exact ⟨_, rfl, rfl, rfl, by unfold cmpQ; rw [if_pos (by first | exact Or.inl (regV_no hmr (by omega)) | exact Or.inr (regV_no hmr (by omega)))], mst_3 hD0 hR hzz (fun k hk => (show (V) k = V k from by rfl)) (va_up_ne _ _ (by decide)) (va_up_ne _ _ (by decide)) (va_up_self ..), offM_3⟩
  · refine J_aload_n 0 d_M_compare_13 rfl rfl ?_
    refine J_iload_n 2 d_M_compare_14 rfl rfl ?_
    refine J_callVi cw_M_176 nh_M_isNumber pn_M_isNumber rfl rfl (by omega) (by rw [va_up_self]) (As := [.int (iI b)]) (rest := []) rfl (Nat.le_of_ble_eq_true rfl) ⟨by decide, by decide⟩ rfl ⟨by decide, by decide⟩ d_M_compare_15 (c_M_isNumber hfl (r := b) (f := va_up f 10 0) (v := v) (kk := kk) hN (by rw [va_up_self]) (by rw [va_up_ne _ _ (by decide)]; exact hKk) (hb) (fun j hj => ⟨by have := hkI j hj; omega, by have := hkI j hj; omega⟩)) (fun z104 F2 hq => ?_)
    obtain ⟨hz104, eF2⟩ := hq
    refine J_eqF eF2 ?_
    refine J_ifne (tgt := 23) d_M_compare_18 (by decide) ⟨by omega, by omega⟩ (fun c18 => ?_) (fun c18 => ?_)
    · refine J_aload_n 0 d_M_compare_23 rfl rfl ?_
      refine J_aload_n 0 d_M_compare_24 rfl rfl ?_
      refine J_iload_n 1 d_M_compare_25 rfl rfl ?_
      obtain ⟨kd1, sg1, x1, y1, hRa1, hok1, hka1, hkn1, hmg1⟩ := mR_at hmr (r := a.toNat) (by omega) (by omega)
      obtain ⟨hk11, hd01, hs11, hfin1, hcop1, hk01, hb1, hs01, hb21, hre1⟩ := okv_b hok1 hkn1
      have hrV1 : regV R a = (kd1, sg1, x1, y1) := (regV_in (by omega)).trans hRa1
      obtain ⟨kd2, sg2, x2, y2, hRa2, hok2, hka2, hkn2, hmg2⟩ := mR_at hmr (r := b.toNat) (by omega) (by omega)
      obtain ⟨hk12, hd02, hs12, hfin2, hcop2, hk02, hb2, hs02, hb22, hre2⟩ := okv_b hok2 hkn2
      have hrV2 : regV R b = (kd2, sg2, x2, y2) := (regV_in (by omega)).trans hRa2
      refine J_topi (r := ((a.toNat : Nat) : Int)) (congrArg iI (by omega)) ?_
      refine J_bipush d_M_compare_26 (i8_ok (by decide)) ?_
      refine J_bipush d_M_compare_28 (i8_ok (by decide)) ?_
      refine J_callVi cw_M_182 nh_M_fetch pn_M_fetch rfl rfl (by omega) (by rw [va_up_self]) (As := [.int (iI ((a.toNat : Nat) : Int)), .int (iI 16), .int (iI 17)]) (rest := [.ref (ad 98)]) rfl (Nat.le_of_ble_eq_true rfl) ⟨by decide, by decide⟩ rfl ⟨by decide, by decide⟩ d_M_compare_30 (c_M_fetch hfl (r := a.toNat) (u := 16) (d := 17) (x := x1) (y := y1) (kd := kd1) (sg := sg1) (kk := kk) (bb := bb) (rr := rr) (hh := hh) (ll := ll) (f := va_up f 10 0) (v := v) (V := V) (br := br) hN (by rw [va_up_self]) (by rw [va_up_ne _ _ (by decide)]; exact hB) (by rw [va_up_ne _ _ (by decide)]; exact hL) hR hzz (by rw [va_up_ne _ _ (by decide)]; exact hKk) (by rw [va_up_ne _ _ (by decide)]; exact hBb) (by rw [va_up_ne _ _ (by decide)]; exact hRr) (by omega) ⟨by omega, by omega⟩ ⟨by omega, by omega⟩ (hzz.2 16 (by decide) (by decide)) (hzz.2 17 (by decide) (by decide)) (by omega) (mreg_fr hmg1 (by omega) (fun k hk => (show (V) k = V k from by rfl))) hd01 hk11 hb1 hre1) (fun mi1 F3 hq => ?_)
      obtain ⟨hmi1, bh105, bl106, U1, Y1, hUY1, hU91, hR107, eF3⟩ := hq
      refine J_eqF (F2 := va_up (va_up (va_up F 98 (oM ad (va_up f 10 0) v)) 99 (.inl (g 0, 858, .inl (aI bh105)))) 100 (.inl (g 0, 33, .inl (aI bl106)))) eF3 ?_
      obtain ⟨hU91, hU71⟩ := hU91
      have hU81 : powY kd1 Y1 := hU71
      clear hU71
      have hmi11 : (mi1 = 1 ∧ sg1 < 0) ∨ (mi1 = 0 ∧ 0 ≤ sg1) := by rw [hmi1]; split <;> omega
      refine pm_M_149 (by omega) (by rw [va_up_ne _ _ (by decide), va_up_ne _ _ (by decide), va_up_self]) (nb01 (by omega)) d_M_compare_33 ?_
      refine J_eqF (F2 := va_up (va_up (va_up F 98 (oM ad (va_up (va_up f 10 0) 5 mi1) v)) 99 (.inl (g 0, 858, .inl (aI bh105)))) 100 (.inl (g 0, 33, .inl (aI bl106)))) (up_in2 (by decide) (by decide)) ?_
      refine J_aload_n 0 d_M_compare_36 rfl rfl ?_
      refine J_aload_n 0 d_M_compare_37 rfl rfl ?_
      refine J_iload_n 2 d_M_compare_38 rfl rfl ?_
      refine J_topi (r := ((b.toNat : Nat) : Int)) (congrArg iI (by omega)) ?_
      refine J_bipush d_M_compare_39 (i8_ok (by decide)) ?_
      refine J_bipush d_M_compare_41 (i8_ok (by decide)) ?_
      refine J_callVi cw_M_182 nh_M_fetch pn_M_fetch rfl rfl (by omega) (by rw [va_up_ne _ _ (by decide), va_up_ne _ _ (by decide), va_up_self]) (As := [.int (iI ((b.toNat : Nat) : Int)), .int (iI 18), .int (iI 19)]) (rest := [.ref (ad 98)]) rfl (Nat.le_of_ble_eq_true rfl) ⟨by decide, by decide⟩ rfl ⟨by decide, by decide⟩ d_M_compare_43 (c_M_fetch hfl (r := b.toNat) (u := 18) (d := 19) (x := x2) (y := y2) (kd := kd2) (sg := sg2) (kk := kk) (bb := bb) (rr := rr) (hh := bh105) (ll := bl106) (f := va_up (va_up f 10 0) 5 mi1) (v := v) (V := va_up (va_up V 17 Y1) 16 U1) (br := br) hN (by rw [va_up_ne _ _ (by decide), va_up_ne _ _ (by decide), va_up_self]) (by rw [va_up_ne _ _ (by decide), va_up_self]) (by rw [va_up_self]) hR107 hzz (by rw [va_up_ne _ _ (by decide), va_up_ne _ _ (by decide), va_up_ne _ _ (by decide)]; exact hKk) (by rw [va_up_ne _ _ (by decide), va_up_ne _ _ (by decide), va_up_ne _ _ (by decide)]; exact hBb) (by rw [va_up_ne _ _ (by decide), va_up_ne _ _ (by decide), va_up_ne _ _ (by decide)]; exact hRr) (by omega) ⟨by omega, by omega⟩ ⟨by omega, by omega⟩ (hzz.2 18 (by decide) (by decide)) (hzz.2 19 (by decide) (by decide)) (by omega) (mreg_fr hmg2 (by omega) (fun k hk => (show (va_up (va_up V 17 Y1) 16 U1) k = V k from by rw [va_up_ne _ _ (by omega), va_up_ne _ _ (by omega)]))) hd02 hk12 hb2 hre2) (fun mi2 F4 hq => ?_)
      obtain ⟨hmi2, bh108, bl109, U2, Y2, hUY2, hU92, hR110, eF4⟩ := hq
      refine J_eqF (F2 := va_up (va_up (va_up F 98 (oM ad (va_up (va_up f 10 0) 5 mi1) v)) 99 (.inl (g 0, 858, .inl (aI bh108)))) 100 (.inl (g 0, 33, .inl (aI bl109)))) (eF4.trans (Eq.trans (congrArg (fun q : Nat → va_E => va_up q 100 (.inl (g 0, 33, .inl (aI bl109)))) (up_in1 (by decide))) (up_in0))) ?_
      obtain ⟨hU92, hU72⟩ := hU92
      have hU82 : powY kd2 Y2 := hU72
      clear hU72
      have hmi21 : (mi2 = 1 ∧ sg2 < 0) ∨ (mi2 = 0 ∧ 0 ≤ sg2) := by rw [hmi2]; split <;> omega
      refine J_ifne (tgt := 53) d_M_compare_46 (by decide) ⟨by omega, by omega⟩ (fun c46 => ?_) (fun c46 => ?_)
      · refine J_iconst d_M_compare_53 ?_
        refine pm_M_152 (by omega) (by rw [va_up_ne _ _ (by decide), va_up_ne _ _ (by decide), va_up_self]) (nb01 (by omega)) d_M_compare_54 ?_
        refine J_eqF (F2 := va_up (va_up (va_up F 98 (oM ad (va_up (va_up (va_up f 10 0) 5 mi1) 6 0) v)) 99 (.inl (g 0, 858, .inl (aI bh108)))) 100 (.inl (g 0, 33, .inl (aI bl109)))) (up_in2 (by decide) (by decide)) ?_
        have hl1 := lnw_154 hUY1.2.2.1
        have hl2 := lnw_154 hUY1.2.2.2
        have hl3 := lnw_154 hUY2.2.2.1
        have hl4 := lnw_154 hUY2.2.2.2
        refine J_aload_n 0 d_M_compare_57 rfl rfl ?_
        refine J_callVv cw_M_170 nh_M_plus pn_M_plus rfl rfl (by omega) (by rw [va_up_ne _ _ (by decide), va_up_ne _ _ (by decide), va_up_self]) (As := []) (rest := []) rfl (Nat.le_of_ble_eq_true rfl) ⟨by decide, by decide⟩ rfl ⟨by decide, by decide⟩ d_M_compare_58 (c_M_plus hfl (a := U1) (b := Y1) (c := U2) (d := Y2) (xs := mi1) (ys := 0) (hh := bh108) (ll := bl109) (f := va_up (va_up (va_up f 10 0) 5 mi1) 6 0) (v := v) (V := va_up (va_up (va_up (va_up V 17 Y1) 16 U1) 19 Y2) 18 U2) (br := br) hN (by rw [va_up_ne _ _ (by decide), va_up_ne _ _ (by decide), va_up_self]) (by rw [va_up_ne _ _ (by decide), va_up_self]) (by rw [va_up_self]) hR110 hzz (((va_up_ne _ _ (by decide)).trans ((va_up_ne _ _ (by decide)).trans (va_up_self ..)))) (((va_up_ne _ _ (by decide)).trans ((va_up_ne _ _ (by decide)).trans ((va_up_ne _ _ (by decide)).trans (va_up_self ..))))) ((va_up_self ..)) (((va_up_ne _ _ (by decide)).trans (va_up_self ..))) (((va_up_ne _ _ (by decide)).trans (va_up_self ..))) ((va_up_self ..)) (by omega) (by omega) ⟨by omega, by omega, by omega⟩) (fun  F5 hq => ?_)
        obtain ⟨bh111, bl112, hR113, eF5⟩ := hq
        refine J_eqF (F2 := va_up (va_up (va_up F 98 (oM ad (va_up (va_up (va_up (va_up f 10 0) 5 mi1) 6 0) 7 (plS mi1 0 (U1 * Y2) (U2 * Y1))) v)) 99 (.inl (g 0, 858, .inl (aI bh111)))) 100 (.inl (g 0, 33, .inl (aI bl112)))) (eF5.trans (Eq.trans (Eq.trans (congrArg (fun q : Nat → va_E => va_up q 100 (.inl (g 0, 33, .inl (aI bl112)))) (congrArg (fun q : Nat → va_E => va_up q 99 (.inl (g 0, 858, .inl (aI bh111)))) (up_in2 (by decide) (by decide)))) (congrArg (fun q : Nat → va_E => va_up q 100 (.inl (g 0, 33, .inl (aI bl112)))) (up_in1 (by decide)))) (up_in0))) ?_
        refine J_aload_n 0 d_M_compare_61 rfl rfl ?_
        refine gf_M_129 (by omega) (by rw [va_up_ne _ _ (by decide), va_up_ne _ _ (by decide), va_up_self]) rfl d_M_compare_62 ?_
        refine J_topi (r := plS mi1 0 (U1 * Y2) (U2 * Y1)) (congrArg iI (va_up_self ..)) ?_
        have hps := plS_b (xs := mi1) (ys := 0) (A := U1 * Y2) (B := U2 * Y1) (by omega) (by omega)
        refine J_ifeq (tgt := 72) d_M_compare_65 (by decide) ⟨by omega, by omega⟩ (fun c65 => ?_) (fun c65 => ?_)
        · refine J_aload_n 0 d_M_compare_72 rfl rfl ?_
          refine J_bipush d_M_compare_73 (i8_ok (by decide)) ?_
          refine J_callVi cw_M_75 nh_M_zero pn_M_zero rfl rfl (by omega) (by rw [va_up_ne _ _ (by decide), va_up_ne _ _ (by decide), va_up_self]) (As := [.int (iI 20)]) (rest := []) rfl (Nat.le_of_ble_eq_true rfl) ⟨by decide, by decide⟩ rfl ⟨by decide, by decide⟩ d_M_compare_75 (k_M_zero hfl (a := 20) (hh := bh111) (ll := bl112) (V := va_up (va_up (va_up (va_up (va_up (va_up (va_up (va_up V 17 Y1) 16 U1) 19 Y2) 18 U2) 22 (U1 * Y2)) 23 (U2 * Y1)) 21 (Y1 * Y2)) 20 (plM mi1 0 (U1 * Y2) (U2 * Y1))) (br := br) (hN := hN) (hO := (by rw [va_up_ne _ _ (by decide), va_up_ne _ _ (by decide), va_up_self])) (hB := (by rw [va_up_ne _ _ (by decide), va_up_self])) (hL := (by rw [va_up_self])) (hR := hR113) (ha := by omega) (hxa := (va_up_self ..)) (bra := (hzz.2 20 (by decide) (by decide)))) (fun z114 F6 hq => ?_)
          obtain ⟨hz114, eF6⟩ := hq
          refine J_eqF eF6 ?_
          refine J_ifeq (tgt := 85) d_M_compare_78 (by decide) ⟨by omega, by omega⟩ (fun c78 => ?_) (fun c78 => ?_)
          · refine J_iconst d_M_compare_85 ?_
            refine J_iret rfl rfl d_M_compare_86 ⟨by decide, by decide⟩ ?_
            refine ⟨_, rfl, rfl, rfl, ?_, mst_3 hD0 hR113 hzz (fun k hk => (show (va_up (va_up (va_up (va_up (va_up (va_up (va_up (va_up V 17 Y1) 16 U1) 19 Y2) 18 U2) 22 (U1 * Y2)) 23 (U2 * Y1)) 21 (Y1 * Y2)) 20 (plM mi1 0 (U1 * Y2) (U2 * Y1))) k = V k from by rw [va_up_ne _ _ (by omega), va_up_ne _ _ (by omega), va_up_ne _ _ (by omega), va_up_ne _ _ (by omega), va_up_ne _ _ (by omega), va_up_ne _ _ (by omega), va_up_ne _ _ (by omega), va_up_ne _ _ (by omega)])) ((va_up_ne _ _ (by decide)).trans ((va_up_ne _ _ (by decide)).trans ((va_up_ne _ _ (by decide)).trans (va_up_ne _ _ (by decide))))) ((va_up_ne _ _ (by decide)).trans ((va_up_ne _ _ (by decide)).trans ((va_up_ne _ _ (by decide)).trans (va_up_ne _ _ (by decide))))) ((va_up_ne _ _ (by decide)).trans ((va_up_ne _ _ (by decide)).trans ((va_up_ne _ _ (by decide)).trans (va_up_self ..)))), offM_3⟩
            unfold cmpQ
            rw [if_neg (by rw [hrV1, hrV2]; exact fun e => e.elim hkn1 hkn2), hrV1, hrV2]
            show _ = if sg1 = sg2 then cmpN (x1 * y2) (x2 * y1) * sg1 else if sg1 < sg2 then -1 else 1
            obtain ⟨k1, k2⟩ := cross_lt hUY1.1 hUY2.1 hd01 hd02 hUY1.2.1 hUY2.2.1
            rw [← cmp_fin (m1 := mi1) (m2 := 0) hs11 hs12 hmi11 (by omega) (hs01.trans (zz hUY1.1 hd01 hUY2.1 hUY1.2.1)) (hs02.trans (zz hUY2.1 hd02 hUY1.1 hUY2.2.1)) k1 k2]
            rw [if_neg (by omega), if_neg (by omega)]
          · refine J_iconst d_M_compare_81 ?_
            refine J_goto (tgt := 86) d_M_compare_82 (by decide) ?_
            refine J_iret rfl rfl d_M_compare_86 ⟨by decide, by decide⟩ ?_
            refine ⟨_, rfl, rfl, rfl, ?_, mst_3 hD0 hR113 hzz (fun k hk => (show (va_up (va_up (va_up (va_up (va_up (va_up (va_up (va_up V 17 Y1) 16 U1) 19 Y2) 18 U2) 22 (U1 * Y2)) 23 (U2 * Y1)) 21 (Y1 * Y2)) 20 (plM mi1 0 (U1 * Y2) (U2 * Y1))) k = V k from by rw [va_up_ne _ _ (by omega), va_up_ne _ _ (by omega), va_up_ne _ _ (by omega), va_up_ne _ _ (by omega), va_up_ne _ _ (by omega), va_up_ne _ _ (by omega), va_up_ne _ _ (by omega), va_up_ne _ _ (by omega)])) ((va_up_ne _ _ (by decide)).trans ((va_up_ne _ _ (by decide)).trans ((va_up_ne _ _ (by decide)).trans (va_up_ne _ _ (by decide))))) ((va_up_ne _ _ (by decide)).trans ((va_up_ne _ _ (by decide)).trans ((va_up_ne _ _ (by decide)).trans (va_up_ne _ _ (by decide))))) ((va_up_ne _ _ (by decide)).trans ((va_up_ne _ _ (by decide)).trans ((va_up_ne _ _ (by decide)).trans (va_up_self ..)))), offM_3⟩
            unfold cmpQ
            rw [if_neg (by rw [hrV1, hrV2]; exact fun e => e.elim hkn1 hkn2), hrV1, hrV2]
            show _ = if sg1 = sg2 then cmpN (x1 * y2) (x2 * y1) * sg1 else if sg1 < sg2 then -1 else 1
            obtain ⟨k1, k2⟩ := cross_lt hUY1.1 hUY2.1 hd01 hd02 hUY1.2.1 hUY2.2.1
            rw [← cmp_fin (m1 := mi1) (m2 := 0) hs11 hs12 hmi11 (by omega) (hs01.trans (zz hUY1.1 hd01 hUY2.1 hUY1.2.1)) (hs02.trans (zz hUY2.1 hd02 hUY1.1 hUY2.2.1)) k1 k2]
            rw [if_neg (by omega), if_pos (by omega)]
        · refine J_iconst d_M_compare_68 ?_
          refine J_goto (tgt := 86) d_M_compare_69 (by decide) ?_
          refine J_iret rfl rfl d_M_compare_86 ⟨by decide, by decide⟩ ?_
          refine ⟨_, rfl, rfl, rfl, ?_, mst_3 hD0 hR113 hzz (fun k hk => (show (va_up (va_up (va_up (va_up (va_up (va_up (va_up (va_up V 17 Y1) 16 U1) 19 Y2) 18 U2) 22 (U1 * Y2)) 23 (U2 * Y1)) 21 (Y1 * Y2)) 20 (plM mi1 0 (U1 * Y2) (U2 * Y1))) k = V k from by rw [va_up_ne _ _ (by omega), va_up_ne _ _ (by omega), va_up_ne _ _ (by omega), va_up_ne _ _ (by omega), va_up_ne _ _ (by omega), va_up_ne _ _ (by omega), va_up_ne _ _ (by omega), va_up_ne _ _ (by omega)])) ((va_up_ne _ _ (by decide)).trans ((va_up_ne _ _ (by decide)).trans ((va_up_ne _ _ (by decide)).trans (va_up_ne _ _ (by decide))))) ((va_up_ne _ _ (by decide)).trans ((va_up_ne _ _ (by decide)).trans ((va_up_ne _ _ (by decide)).trans (va_up_ne _ _ (by decide))))) ((va_up_ne _ _ (by decide)).trans ((va_up_ne _ _ (by decide)).trans ((va_up_ne _ _ (by decide)).trans (va_up_self ..)))), offM_3⟩
          unfold cmpQ
          rw [if_neg (by rw [hrV1, hrV2]; exact fun e => e.elim hkn1 hkn2), hrV1, hrV2]
          show _ = if sg1 = sg2 then cmpN (x1 * y2) (x2 * y1) * sg1 else if sg1 < sg2 then -1 else 1
          obtain ⟨k1, k2⟩ := cross_lt hUY1.1 hUY2.1 hd01 hd02 hUY1.2.1 hUY2.2.1
          rw [← cmp_fin (m1 := mi1) (m2 := 0) hs11 hs12 hmi11 (by omega) (hs01.trans (zz hUY1.1 hd01 hUY2.1 hUY1.2.1)) (hs02.trans (zz hUY2.1 hd02 hUY1.1 hUY2.2.1)) k1 k2]
          rw [if_pos (by exact c65)]
      · refine J_iconst d_M_compare_49 ?_
        refine J_goto (tgt := 54) d_M_compare_50 (by decide) ?_
        refine pm_M_152 (by omega) (by rw [va_up_ne _ _ (by decide), va_up_ne _ _ (by decide), va_up_self]) (nb01 (by omega)) d_M_compare_54 ?_
        refine J_eqF (F2 := va_up (va_up (va_up F 98 (oM ad (va_up (va_up (va_up f 10 0) 5 mi1) 6 1) v)) 99 (.inl (g 0, 858, .inl (aI bh108)))) 100 (.inl (g 0, 33, .inl (aI bl109)))) (up_in2 (by decide) (by decide)) ?_
        have hl1 := lnw_154 hUY1.2.2.1
        have hl2 := lnw_154 hUY1.2.2.2
        have hl3 := lnw_154 hUY2.2.2.1
        have hl4 := lnw_154 hUY2.2.2.2
        refine J_aload_n 0 d_M_compare_57 rfl rfl ?_
        refine J_callVv cw_M_170 nh_M_plus pn_M_plus rfl rfl (by omega) (by rw [va_up_ne _ _ (by decide), va_up_ne _ _ (by decide), va_up_self]) (As := []) (rest := []) rfl (Nat.le_of_ble_eq_true rfl) ⟨by decide, by decide⟩ rfl ⟨by decide, by decide⟩ d_M_compare_58 (c_M_plus hfl (a := U1) (b := Y1) (c := U2) (d := Y2) (xs := mi1) (ys := 1) (hh := bh108) (ll := bl109) (f := va_up (va_up (va_up f 10 0) 5 mi1) 6 1) (v := v) (V := va_up (va_up (va_up (va_up V 17 Y1) 16 U1) 19 Y2) 18 U2) (br := br) hN (by rw [va_up_ne _ _ (by decide), va_up_ne _ _ (by decide), va_up_self]) (by rw [va_up_ne _ _ (by decide), va_up_self]) (by rw [va_up_self]) hR110 hzz (((va_up_ne _ _ (by decide)).trans ((va_up_ne _ _ (by decide)).trans (va_up_self ..)))) (((va_up_ne _ _ (by decide)).trans ((va_up_ne _ _ (by decide)).trans ((va_up_ne _ _ (by decide)).trans (va_up_self ..))))) ((va_up_self ..)) (((va_up_ne _ _ (by decide)).trans (va_up_self ..))) (((va_up_ne _ _ (by decide)).trans (va_up_self ..))) ((va_up_self ..)) (by omega) (by omega) ⟨by omega, by omega, by omega⟩) (fun  F7 hq => ?_)
        obtain ⟨bh115, bl116, hR117, eF7⟩ := hq
        refine J_eqF (F2 := va_up (va_up (va_up F 98 (oM ad (va_up (va_up (va_up (va_up f 10 0) 5 mi1) 6 1) 7 (plS mi1 1 (U1 * Y2) (U2 * Y1))) v)) 99 (.inl (g 0, 858, .inl (aI bh115)))) 100 (.inl (g 0, 33, .inl (aI bl116)))) (eF7.trans (Eq.trans (Eq.trans (congrArg (fun q : Nat → va_E => va_up q 100 (.inl (g 0, 33, .inl (aI bl116)))) (congrArg (fun q : Nat → va_E => va_up q 99 (.inl (g 0, 858, .inl (aI bh115)))) (up_in2 (by decide) (by decide)))) (congrArg (fun q : Nat → va_E => va_up q 100 (.inl (g 0, 33, .inl (aI bl116)))) (up_in1 (by decide)))) (up_in0))) ?_
        refine J_aload_n 0 d_M_compare_61 rfl rfl ?_
        refine gf_M_129 (by omega) (by rw [va_up_ne _ _ (by decide), va_up_ne _ _ (by decide), va_up_self]) rfl d_M_compare_62 ?_
        refine J_topi (r := plS mi1 1 (U1 * Y2) (U2 * Y1)) (congrArg iI (va_up_self ..)) ?_
        have hps := plS_b (xs := mi1) (ys := 1) (A := U1 * Y2) (B := U2 * Y1) (by omega) (by omega)
        refine J_ifeq (tgt := 72) d_M_compare_65 (by decide) ⟨by omega, by omega⟩ (fun c65 => ?_) (fun c65 => ?_)
        · refine J_aload_n 0 d_M_compare_72 rfl rfl ?_
          refine J_bipush d_M_compare_73 (i8_ok (by decide)) ?_
          refine J_callVi cw_M_75 nh_M_zero pn_M_zero rfl rfl (by omega) (by rw [va_up_ne _ _ (by decide), va_up_ne _ _ (by decide), va_up_self]) (As := [.int (iI 20)]) (rest := []) rfl (Nat.le_of_ble_eq_true rfl) ⟨by decide, by decide⟩ rfl ⟨by decide, by decide⟩ d_M_compare_75 (k_M_zero hfl (a := 20) (hh := bh115) (ll := bl116) (V := va_up (va_up (va_up (va_up (va_up (va_up (va_up (va_up V 17 Y1) 16 U1) 19 Y2) 18 U2) 22 (U1 * Y2)) 23 (U2 * Y1)) 21 (Y1 * Y2)) 20 (plM mi1 1 (U1 * Y2) (U2 * Y1))) (br := br) (hN := hN) (hO := (by rw [va_up_ne _ _ (by decide), va_up_ne _ _ (by decide), va_up_self])) (hB := (by rw [va_up_ne _ _ (by decide), va_up_self])) (hL := (by rw [va_up_self])) (hR := hR117) (ha := by omega) (hxa := (va_up_self ..)) (bra := (hzz.2 20 (by decide) (by decide)))) (fun z118 F8 hq => ?_)
          obtain ⟨hz118, eF8⟩ := hq
          refine J_eqF eF8 ?_
          refine J_ifeq (tgt := 85) d_M_compare_78 (by decide) ⟨by omega, by omega⟩ (fun c78 => ?_) (fun c78 => ?_)
          · refine J_iconst d_M_compare_85 ?_
            refine J_iret rfl rfl d_M_compare_86 ⟨by decide, by decide⟩ ?_
            refine ⟨_, rfl, rfl, rfl, ?_, mst_3 hD0 hR117 hzz (fun k hk => (show (va_up (va_up (va_up (va_up (va_up (va_up (va_up (va_up V 17 Y1) 16 U1) 19 Y2) 18 U2) 22 (U1 * Y2)) 23 (U2 * Y1)) 21 (Y1 * Y2)) 20 (plM mi1 1 (U1 * Y2) (U2 * Y1))) k = V k from by rw [va_up_ne _ _ (by omega), va_up_ne _ _ (by omega), va_up_ne _ _ (by omega), va_up_ne _ _ (by omega), va_up_ne _ _ (by omega), va_up_ne _ _ (by omega), va_up_ne _ _ (by omega), va_up_ne _ _ (by omega)])) ((va_up_ne _ _ (by decide)).trans ((va_up_ne _ _ (by decide)).trans ((va_up_ne _ _ (by decide)).trans (va_up_ne _ _ (by decide))))) ((va_up_ne _ _ (by decide)).trans ((va_up_ne _ _ (by decide)).trans ((va_up_ne _ _ (by decide)).trans (va_up_ne _ _ (by decide))))) ((va_up_ne _ _ (by decide)).trans ((va_up_ne _ _ (by decide)).trans ((va_up_ne _ _ (by decide)).trans (va_up_self ..)))), offM_3⟩
            unfold cmpQ
            rw [if_neg (by rw [hrV1, hrV2]; exact fun e => e.elim hkn1 hkn2), hrV1, hrV2]
            show _ = if sg1 = sg2 then cmpN (x1 * y2) (x2 * y1) * sg1 else if sg1 < sg2 then -1 else 1
            obtain ⟨k1, k2⟩ := cross_lt hUY1.1 hUY2.1 hd01 hd02 hUY1.2.1 hUY2.2.1
            rw [← cmp_fin (m1 := mi1) (m2 := 1) hs11 hs12 hmi11 (by omega) (hs01.trans (zz hUY1.1 hd01 hUY2.1 hUY1.2.1)) (hs02.trans (zz hUY2.1 hd02 hUY1.1 hUY2.2.1)) k1 k2]
            rw [if_neg (by omega), if_neg (by omega)]
          · refine J_iconst d_M_compare_81 ?_
            refine J_goto (tgt := 86) d_M_compare_82 (by decide) ?_
            refine J_iret rfl rfl d_M_compare_86 ⟨by decide, by decide⟩ ?_
            refine ⟨_, rfl, rfl, rfl, ?_, mst_3 hD0 hR117 hzz (fun k hk => (show (va_up (va_up (va_up (va_up (va_up (va_up (va_up (va_up V 17 Y1) 16 U1) 19 Y2) 18 U2) 22 (U1 * Y2)) 23 (U2 * Y1)) 21 (Y1 * Y2)) 20 (plM mi1 1 (U1 * Y2) (U2 * Y1))) k = V k from by rw [va_up_ne _ _ (by omega), va_up_ne _ _ (by omega), va_up_ne _ _ (by omega), va_up_ne _ _ (by omega), va_up_ne _ _ (by omega), va_up_ne _ _ (by omega), va_up_ne _ _ (by omega), va_up_ne _ _ (by omega)])) ((va_up_ne _ _ (by decide)).trans ((va_up_ne _ _ (by decide)).trans ((va_up_ne _ _ (by decide)).trans (va_up_ne _ _ (by decide))))) ((va_up_ne _ _ (by decide)).trans ((va_up_ne _ _ (by decide)).trans ((va_up_ne _ _ (by decide)).trans (va_up_ne _ _ (by decide))))) ((va_up_ne _ _ (by decide)).trans ((va_up_ne _ _ (by decide)).trans ((va_up_ne _ _ (by decide)).trans (va_up_self ..)))), offM_3⟩
            unfold cmpQ
            rw [if_neg (by rw [hrV1, hrV2]; exact fun e => e.elim hkn1 hkn2), hrV1, hrV2]
            show _ = if sg1 = sg2 then cmpN (x1 * y2) (x2 * y1) * sg1 else if sg1 < sg2 then -1 else 1
            obtain ⟨k1, k2⟩ := cross_lt hUY1.1 hUY2.1 hd01 hd02 hUY1.2.1 hUY2.2.1
            rw [← cmp_fin (m1 := mi1) (m2 := 1) hs11 hs12 hmi11 (by omega) (hs01.trans (zz hUY1.1 hd01 hUY2.1 hUY1.2.1)) (hs02.trans (zz hUY2.1 hd02 hUY1.1 hUY2.2.1)) k1 k2]
            rw [if_neg (by omega), if_pos (by omega)]
        · refine J_iconst d_M_compare_68 ?_
          refine J_goto (tgt := 86) d_M_compare_69 (by decide) ?_
          refine J_iret rfl rfl d_M_compare_86 ⟨by decide, by decide⟩ ?_
          refine ⟨_, rfl, rfl, rfl, ?_, mst_3 hD0 hR117 hzz (fun k hk => (show (va_up (va_up (va_up (va_up (va_up (va_up (va_up (va_up V 17 Y1) 16 U1) 19 Y2) 18 U2) 22 (U1 * Y2)) 23 (U2 * Y1)) 21 (Y1 * Y2)) 20 (plM mi1 1 (U1 * Y2) (U2 * Y1))) k = V k from by rw [va_up_ne _ _ (by omega), va_up_ne _ _ (by omega), va_up_ne _ _ (by omega), va_up_ne _ _ (by omega), va_up_ne _ _ (by omega), va_up_ne _ _ (by omega), va_up_ne _ _ (by omega), va_up_ne _ _ (by omega)])) ((va_up_ne _ _ (by decide)).trans ((va_up_ne _ _ (by decide)).trans ((va_up_ne _ _ (by decide)).trans (va_up_ne _ _ (by decide))))) ((va_up_ne _ _ (by decide)).trans ((va_up_ne _ _ (by decide)).trans ((va_up_ne _ _ (by decide)).trans (va_up_ne _ _ (by decide))))) ((va_up_ne _ _ (by decide)).trans ((va_up_ne _ _ (by decide)).trans ((va_up_ne _ _ (by decide)).trans (va_up_self ..)))), offM_3⟩
          unfold cmpQ
          rw [if_neg (by rw [hrV1, hrV2]; exact fun e => e.elim hkn1 hkn2), hrV1, hrV2]
          show _ = if sg1 = sg2 then cmpN (x1 * y2) (x2 * y1) * sg1 else if sg1 < sg2 then -1 else 1
          obtain ⟨k1, k2⟩ := cross_lt hUY1.1 hUY2.1 hd01 hd02 hUY1.2.1 hUY2.2.1
          rw [← cmp_fin (m1 := mi1) (m2 := 1) hs11 hs12 hmi11 (by omega) (hs01.trans (zz hUY1.1 hd01 hUY2.1 hUY1.2.1)) (hs02.trans (zz hUY2.1 hd02 hUY1.1 hUY2.2.1)) k1 k2]
          rw [if_pos (by exact c65)]
    · refine J_iconst d_M_compare_21 ?_
      refine J_eqF (F2 := va_up (va_up F 98 (oM ad (va_up f 10 0) v)) 99 (.inl (g 0, 858, .inl (aI hh)))) (up_same1 (by rw [va_up_ne _ _ (by decide)]; exact hB)) ?_
      refine J_eqF (F2 := va_up (va_up (va_up F 98 (oM ad (va_up f 10 0) v)) 99 (.inl (g 0, 858, .inl (aI hh)))) 100 (.inl (g 0, 33, .inl (aI ll)))) (up_same1 (by rw [va_up_ne _ _ (by decide), va_up_ne _ _ (by decide)]; exact hL)) ?_
      refine J_iret rfl rfl d_M_compare_22 ⟨by decide, by decide⟩ ?_
      exact ⟨_, rfl, rfl, rfl, by unfold cmpQ; rw [if_pos (by first | exact Or.inl (regV_no hmr (by omega)) | exact Or.inr (regV_no hmr (by omega)))], mst_3 hD0 hR hzz (fun k hk => (show (V) k = V k from by rfl)) (va_up_ne _ _ (by decide)) (va_up_ne _ _ (by decide)) (va_up_self ..), offM_3⟩
