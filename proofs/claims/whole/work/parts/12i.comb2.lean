/-! the Model: combine -/
set_option maxRecDepth 100000 in
set_option maxHeartbeats 4000000 in
theorem c_M_combine {l : Launch} (hfl : l.flags = flags0) {D : va_G} {g : Nat → ClassId} {ad : Nat → Nat} {N : Nat} {F : Nat → va_E} {R : Nat → Vn} {ln sh : List Nat} {th0 : Int} {op a b to : Int}
    (hN : 109 ≤ N) (hM : mst ad g R ln sh th0 F) (hop : inI op) (ha : inI a) (hb : inI b) (hto : inI to) :
    JC l y_M_combine b_M_combine 6 (Option.some Jvm.ClassFile.FieldType.int) rm_M_combine (0, 0) D jCl (jTys g) ad N F [.ref (ad 98), .int (iI op), .int (iI a), .int (iI b), .int (iI to)] (ji ad N (fun z F' => msto ad g R ln sh (fun k => k + 1) to (combO R op a b to) z F' ∧ offM F F')) := by
  obtain ⟨hh, ll, f, v, V, br, kk, bb, rr, lh, xh, dh, tt, hD0, hth, hbr22, hbr23⟩ := mst_w hM
  have hD := hD0
  obtain ⟨hO, hB, hL, hR, hzz, hKk, hBb, hRr, hmr, h104, h105, h106, h107, hln, hsh⟩ := hD
  have hkI := mR_kI hmr
  refine JC.go hfl (own := "NumberTowerModel") (lv := [(0, .ref (ad 98)), (1, .int (iI op)), (2, .int (iI a)), (3, .int (iI b)), (4, .int (iI to))]) rfl (by decide +kernel) (Nat.le_of_ble_eq_true rfl) rfl (fun A => ?_)
  refine J_aload_n 0 d_M_combine_0 rfl rfl ?_
  refine J_iconst d_M_combine_1 ?_
  refine pm_M_39 (by omega) hO d_M_combine_2 ?_
  refine J_iload_n 1 d_M_combine_5 rfl rfl ?_
  refine J_iconst d_M_combine_6 ?_
  refine J_bipush d_M_combine_7 (i8_ok (by decide)) ?_
  refine J_callSi cw_M_138 nh_M_in pn_M_in rfl (As := [.int (iI op), .int (iI 0), .int (iI 10)]) (rest := []) rfl (Nat.le_of_ble_eq_true rfl) ⟨by decide, by decide⟩ rfl ⟨by decide, by decide⟩ d_M_combine_9 (c_M_in hfl (a := op) (b := 0) (c := 10) (hop) (by decide) (by decide)) (fun za F1 hq => ?_)
  obtain ⟨hza, eF1⟩ := hq
  refine J_eqF eF1 ?_
  refine J_ifeq (tgt := 52) d_M_combine_12 (by decide) ⟨by omega, by omega⟩ (fun c12 => ?_) (fun c12 => ?_)
  · refine J_aload_n 0 d_M_combine_52 rfl rfl ?_
    refine J_iconst d_M_combine_53 ?_
    refine J_callVi cw_M_135 nh_M_fail pn_M_fail rfl rfl (by omega) (by rw [va_up_self]) (As := [.int (iI 1)]) (rest := []) rfl (Nat.le_of_ble_eq_true rfl) ⟨by decide, by decide⟩ rfl ⟨by decide, by decide⟩ d_M_combine_54 (c_M_fail hfl (code := 1) (f := va_up f 10 0) (v := v) hN (by rw [va_up_self])) (fun z1 F2 hq => ?_)
    obtain ⟨hz1, eF2⟩ := hq
    refine J_eqF (F2 := va_up F 98 (oM ad (va_up f 10 1) v)) ((eF2.trans (congrArg (fun qq : Nat → Int => va_up (va_up F 98 (oM ad (va_up f 10 0) v)) 98 (oM ad qq v)) (up_in0))).trans (up_in0)) ?_
    refine J_topi (r := 0) (congrArg iI hz1) ?_
    refine J_eqF (F2 := va_up (va_up F 98 (oM ad (va_up f 10 1) v)) 99 (.inl (g 0, 858, .inl (aI hh)))) (up_same1 (by rw [va_up_ne _ _ (by decide)]; exact hB)) ?_
    refine J_eqF (F2 := va_up (va_up (va_up F 98 (oM ad (va_up f 10 1) v)) 99 (.inl (g 0, 858, .inl (aI hh)))) 100 (.inl (g 0, 33, .inl (aI ll)))) (up_same1 (by rw [va_up_ne _ _ (by decide), va_up_ne _ _ (by decide)]; exact hL)) ?_
    refine J_iret rfl rfl d_M_combine_57 ⟨by decide, by decide⟩ ?_
    exact ⟨_, rfl, rfl, rfl, Or.inl ⟨0, if_neg (fun h => by exact ((hza.resolve_left (fun w => by rw [c12] at w; exact absurd w.1 (by decide))).2) h.1.1), rfl, mst_3 hD0 hR hzz (fun k hk => (show (V) k = V k from by rfl)) (va_up_ne _ _ (by decide)) (va_up_ne _ _ (by decide)) (va_up_self ..)⟩, offM_3⟩
  · refine J_aload_n 0 d_M_combine_15 rfl rfl ?_
    refine J_iload_n 2 d_M_combine_16 rfl rfl ?_
    refine J_callVi cw_M_176 nh_M_isNumber pn_M_isNumber rfl rfl (by omega) (by rw [va_up_self]) (As := [.int (iI a)]) (rest := []) rfl (Nat.le_of_ble_eq_true rfl) ⟨by decide, by decide⟩ rfl ⟨by decide, by decide⟩ d_M_combine_17 (c_M_isNumber hfl (r := a) (f := va_up f 10 0) (v := v) (kk := kk) hN (by rw [va_up_self]) (by rw [va_up_ne _ _ (by decide)]; exact hKk) (ha) (fun j hj => ⟨by have := hkI j hj; omega, by have := hkI j hj; omega⟩)) (fun zb F3 hq => ?_)
    obtain ⟨hzb, eF3⟩ := hq
    refine J_eqF eF3 ?_
    refine J_ifeq (tgt := 52) d_M_combine_20 (by decide) ⟨by omega, by omega⟩ (fun c20 => ?_) (fun c20 => ?_)
    · refine J_aload_n 0 d_M_combine_52 rfl rfl ?_
      refine J_iconst d_M_combine_53 ?_
      refine J_callVi cw_M_135 nh_M_fail pn_M_fail rfl rfl (by omega) (by rw [va_up_self]) (As := [.int (iI 1)]) (rest := []) rfl (Nat.le_of_ble_eq_true rfl) ⟨by decide, by decide⟩ rfl ⟨by decide, by decide⟩ d_M_combine_54 (c_M_fail hfl (code := 1) (f := va_up f 10 0) (v := v) hN (by rw [va_up_self])) (fun z2 F4 hq => ?_)
      obtain ⟨hz2, eF4⟩ := hq
      refine J_eqF (F2 := va_up F 98 (oM ad (va_up f 10 1) v)) ((eF4.trans (congrArg (fun qq : Nat → Int => va_up (va_up F 98 (oM ad (va_up f 10 0) v)) 98 (oM ad qq v)) (up_in0))).trans (up_in0)) ?_
      refine J_topi (r := 0) (congrArg iI hz2) ?_
      refine J_eqF (F2 := va_up (va_up F 98 (oM ad (va_up f 10 1) v)) 99 (.inl (g 0, 858, .inl (aI hh)))) (up_same1 (by rw [va_up_ne _ _ (by decide)]; exact hB)) ?_
      refine J_eqF (F2 := va_up (va_up (va_up F 98 (oM ad (va_up f 10 1) v)) 99 (.inl (g 0, 858, .inl (aI hh)))) 100 (.inl (g 0, 33, .inl (aI ll)))) (up_same1 (by rw [va_up_ne _ _ (by decide), va_up_ne _ _ (by decide)]; exact hL)) ?_
      refine J_iret rfl rfl d_M_combine_57 ⟨by decide, by decide⟩ ?_
      exact ⟨_, rfl, rfl, rfl, Or.inl ⟨0, if_neg (fun h => by exact h.2.1 (regV_no hmr ((hzb.resolve_left (fun w => by rw [c20] at w; exact absurd w.1 (by decide))).2))), rfl, mst_3 hD0 hR hzz (fun k hk => (show (V) k = V k from by rfl)) (va_up_ne _ _ (by decide)) (va_up_ne _ _ (by decide)) (va_up_self ..)⟩, offM_3⟩
    · refine J_aload_n 0 d_M_combine_23 rfl rfl ?_
      refine J_iload_n 3 d_M_combine_24 rfl rfl ?_
      refine J_callVi cw_M_176 nh_M_isNumber pn_M_isNumber rfl rfl (by omega) (by rw [va_up_self]) (As := [.int (iI b)]) (rest := []) rfl (Nat.le_of_ble_eq_true rfl) ⟨by decide, by decide⟩ rfl ⟨by decide, by decide⟩ d_M_combine_25 (c_M_isNumber hfl (r := b) (f := va_up f 10 0) (v := v) (kk := kk) hN (by rw [va_up_self]) (by rw [va_up_ne _ _ (by decide)]; exact hKk) (hb) (fun j hj => ⟨by have := hkI j hj; omega, by have := hkI j hj; omega⟩)) (fun zc F5 hq => ?_)
      obtain ⟨hzc, eF5⟩ := hq
      refine J_eqF eF5 ?_
      refine J_ifeq (tgt := 52) d_M_combine_28 (by decide) ⟨by omega, by omega⟩ (fun c28 => ?_) (fun c28 => ?_)
      · refine J_aload_n 0 d_M_combine_52 rfl rfl ?_
        refine J_iconst d_M_combine_53 ?_
        refine J_callVi cw_M_135 nh_M_fail pn_M_fail rfl rfl (by omega) (by rw [va_up_self]) (As := [.int (iI 1)]) (rest := []) rfl (Nat.le_of_ble_eq_true rfl) ⟨by decide, by decide⟩ rfl ⟨by decide, by decide⟩ d_M_combine_54 (c_M_fail hfl (code := 1) (f := va_up f 10 0) (v := v) hN (by rw [va_up_self])) (fun z3 F6 hq => ?_)
        obtain ⟨hz3, eF6⟩ := hq
        refine J_eqF (F2 := va_up F 98 (oM ad (va_up f 10 1) v)) ((eF6.trans (congrArg (fun qq : Nat → Int => va_up (va_up F 98 (oM ad (va_up f 10 0) v)) 98 (oM ad qq v)) (up_in0))).trans (up_in0)) ?_
        refine J_topi (r := 0) (congrArg iI hz3) ?_
        refine J_eqF (F2 := va_up (va_up F 98 (oM ad (va_up f 10 1) v)) 99 (.inl (g 0, 858, .inl (aI hh)))) (up_same1 (by rw [va_up_ne _ _ (by decide)]; exact hB)) ?_
        refine J_eqF (F2 := va_up (va_up (va_up F 98 (oM ad (va_up f 10 1) v)) 99 (.inl (g 0, 858, .inl (aI hh)))) 100 (.inl (g 0, 33, .inl (aI ll)))) (up_same1 (by rw [va_up_ne _ _ (by decide), va_up_ne _ _ (by decide)]; exact hL)) ?_
        refine J_iret rfl rfl d_M_combine_57 ⟨by decide, by decide⟩ ?_
        exact ⟨_, rfl, rfl, rfl, Or.inl ⟨0, if_neg (fun h => by exact h.2.2.1 (regV_no hmr ((hzc.resolve_left (fun w => by rw [c28] at w; exact absurd w.1 (by decide))).2))), rfl, mst_3 hD0 hR hzz (fun k hk => (show (V) k = V k from by rfl)) (va_up_ne _ _ (by decide)) (va_up_ne _ _ (by decide)) (va_up_self ..)⟩, offM_3⟩
      · refine J_iload 4 d_M_combine_31 rfl ?_
        refine J_iconst d_M_combine_33 ?_
        refine J_bipush d_M_combine_34 (i8_ok (by decide)) ?_
        refine J_callSi cw_M_138 nh_M_in pn_M_in rfl (As := [.int (iI to), .int (iI 0), .int (iI 7)]) (rest := []) rfl (Nat.le_of_ble_eq_true rfl) ⟨by decide, by decide⟩ rfl ⟨by decide, by decide⟩ d_M_combine_36 (c_M_in hfl (a := to) (b := 0) (c := 7) (hto) (by decide) (by decide)) (fun zd F7 hq => ?_)
        obtain ⟨hzd, eF7⟩ := hq
        refine J_eqF eF7 ?_
        refine J_ifeq (tgt := 52) d_M_combine_39 (by decide) ⟨by omega, by omega⟩ (fun c39 => ?_) (fun c39 => ?_)
        · refine J_aload_n 0 d_M_combine_52 rfl rfl ?_
          refine J_iconst d_M_combine_53 ?_
          refine J_callVi cw_M_135 nh_M_fail pn_M_fail rfl rfl (by omega) (by rw [va_up_self]) (As := [.int (iI 1)]) (rest := []) rfl (Nat.le_of_ble_eq_true rfl) ⟨by decide, by decide⟩ rfl ⟨by decide, by decide⟩ d_M_combine_54 (c_M_fail hfl (code := 1) (f := va_up f 10 0) (v := v) hN (by rw [va_up_self])) (fun z4 F8 hq => ?_)
          obtain ⟨hz4, eF8⟩ := hq
          refine J_eqF (F2 := va_up F 98 (oM ad (va_up f 10 1) v)) ((eF8.trans (congrArg (fun qq : Nat → Int => va_up (va_up F 98 (oM ad (va_up f 10 0) v)) 98 (oM ad qq v)) (up_in0))).trans (up_in0)) ?_
          refine J_topi (r := 0) (congrArg iI hz4) ?_
          refine J_eqF (F2 := va_up (va_up F 98 (oM ad (va_up f 10 1) v)) 99 (.inl (g 0, 858, .inl (aI hh)))) (up_same1 (by rw [va_up_ne _ _ (by decide)]; exact hB)) ?_
          refine J_eqF (F2 := va_up (va_up (va_up F 98 (oM ad (va_up f 10 1) v)) 99 (.inl (g 0, 858, .inl (aI hh)))) 100 (.inl (g 0, 33, .inl (aI ll)))) (up_same1 (by rw [va_up_ne _ _ (by decide), va_up_ne _ _ (by decide)]; exact hL)) ?_
          refine J_iret rfl rfl d_M_combine_57 ⟨by decide, by decide⟩ ?_
          exact ⟨_, rfl, rfl, rfl, Or.inl ⟨0, if_neg (fun h => by exact ((hzd.resolve_left (fun w => by rw [c39] at w; exact absurd w.1 (by decide))).2) h.2.2.2), rfl, mst_3 hD0 hR hzz (fun k hk => (show (V) k = V k from by rfl)) (va_up_ne _ _ (by decide)) (va_up_ne _ _ (by decide)) (va_up_self ..)⟩, offM_3⟩
        · refine J_aload_n 0 d_M_combine_42 rfl rfl ?_
          refine J_iload_n 1 d_M_combine_43 rfl rfl ?_
          refine J_iload_n 2 d_M_combine_44 rfl rfl ?_
          have hrop := (hza.resolve_right (fun w => c12 w.1)).2
          have hra := (hzb.resolve_right (fun w => c20 w.1)).2
          have hrb := (hzc.resolve_right (fun w => c28 w.1)).2
          have hrto := (hzd.resolve_right (fun w => c39 w.1)).2
          clear hza hzb hzc hzd
          have ha8 : a.toNat < 8 := by omega
          have hb8 : b.toNat < 8 := by omega
          obtain ⟨kd1, sg1, x1, y1, hRa1, hok1, hka1, hkn1, hmg1⟩ := mR_at hmr (r := a.toNat) ha8 hra.2
          obtain ⟨hk11, hd01, hs11, hfin1, hcop1, hk01, hb1, hs01, hb21, hre1⟩ := okv_b hok1 hkn1
          have hrV1 : regV R a = (kd1, sg1, x1, y1) := (regV_in hra.1).trans hRa1
          replace hk01 : hold _ := hk01
          replace hs01 : hold _ := hs01
          replace hb21 : hold _ := hb21
          replace hre1 : hold _ := hre1
          obtain ⟨kd2, sg2, x2, y2, hRa2, hok2, hka2, hkn2, hmg2⟩ := mR_at hmr (r := b.toNat) hb8 hrb.2
          obtain ⟨hk12, hd02, hs12, hfin2, hcop2, hk02, hb2, hs02, hb22, hre2⟩ := okv_b hok2 hkn2
          have hrV2 : regV R b = (kd2, sg2, x2, y2) := (regV_in hrb.1).trans hRa2
          replace hk02 : hold _ := hk02
          replace hs02 : hold _ := hs02
          replace hb22 : hold _ := hb22
          replace hre2 : hold _ := hre2
          have hbbit : (bb b.toNat = 1 ∧ sg2 < 0) ∨ (bb b.toNat = 0 ∧ 0 ≤ sg2) := by have := hmg2.2.1; rw [this]; split <;> omega
          have hVb : kd2 = 0 → V (2 * b.toNat) = x2 := fun e => (hmg2.2.2.1 (by omega)).1
          have hVl : blen (V (2 * b.toNat)) ≤ 504 := by
            by_cases q : kd2 = 2
            · rw [(hmg2.2.2.2 q).1]; exact blen_le.mpr (by decide)
            · rw [(hmg2.2.2.1 q).1]; exact blen_le.mpr (Nat.lt_trans hb2.1 (by decide))
          obtain ⟨SM, hSM⟩ : ∃ z : Int, z = smV (bb b.toNat) (V (2 * b.toNat)) := ⟨_, rfl⟩
          have hsm : hold (kd2 = 0 → (SM = sg2 * (x2 : Int) ∧ -999 ≤ sg2 * (x2 : Int) ∧ sg2 * (x2 : Int) ≤ 999) ∨ (SM = 1000 ∧ (sg2 * (x2 : Int) < -999 ∨ 999 < sg2 * (x2 : Int)))) := fun e => by rw [hSM, hVb e]; exact smV_v hbbit hs12 hs02
          have hbb9 : bb b.toNat = 0 ∨ bb b.toNat = 1 := by omega
          have hkb9 : inI (kk b.toNat) := ⟨by omega, by omega⟩
          have hka9 : inI (kk a.toNat) := ⟨by omega, by omega⟩
          refine J_topi (r := ((a.toNat : Nat) : Int)) (congrArg iI (by omega)) ?_
          refine J_iload_n 3 d_M_combine_45 rfl rfl ?_
          refine J_topi (r := ((b.toNat : Nat) : Int)) (congrArg iI (by omega)) ?_
          refine J_callVi cw_M_179 nh_M_takes pn_M_takes rfl rfl (by omega) (by rw [va_up_self]) (As := [.int (iI op), .int (iI ((a.toNat : Nat) : Int)), .int (iI ((b.toNat : Nat) : Int))]) (rest := []) rfl (Nat.le_of_ble_eq_true rfl) ⟨by decide, by decide⟩ rfl ⟨by decide, by decide⟩ d_M_combine_46 (c_M_takes hfl (a := a.toNat) (b := b.toNat) (x := V (2 * b.toNat)) (op := op) (kk := kk) (bb := bb) (rr := rr) (hh := hh) (ll := ll) (f := va_up f 10 0) (v := v) (V := V) (br := br) hN (by rw [va_up_self]) (by rw [va_up_ne _ _ (by decide)]; exact hB) (by rw [va_up_ne _ _ (by decide)]; exact hL) hR hzz (by rw [va_up_ne _ _ (by decide)]; exact hKk) (by rw [va_up_ne _ _ (by decide)]; exact hBb) (by rw [va_up_ne _ _ (by decide)]; exact hRr) ha8 hb8 rfl hVl hbb9 hop hka9 hkb9) (fun ztk F9 hq => ?_)
          obtain ⟨htk, eF9⟩ := hq
          refine J_eqF eF9 ?_
          rw [← hSM, hka1, hka2] at htk
          refine J_ifne (tgt := 58) d_M_combine_49 (by decide) ⟨by omega, by omega⟩ (fun c49 => ?_) (fun c49 => ?_)
          · have hTK := (tk_iff hsm).mp (htk.resolve_right (fun w => c49 w.1)).2
            clear htk
            have hC : takesP op (regV R a) (regV R b) ∧ (regV R a).1 ≠ -1 ∧ (regV R b).1 ≠ -1 ∧ (0 ≤ to ∧ to ≤ 7) := ⟨by rw [hrV1, hrV2]; exact ⟨hrop, hTK⟩, by rw [hrV1]; exact hkn1, by rw [hrV2]; exact hkn2, hrto⟩
            have hTh : hold (((op = 6 ∧ kd2 = 0 ∧ 0 ≤ sg2 * (x2 : Int) ∧ sg2 * (x2 : Int) ≤ 40) ∨ op < 6 ∨ (6 < op ∧ kd1 = 0 ∧ kd2 = 0 ∧ (op < 10 ∨ (-120 ≤ sg2 * (x2 : Int) ∧ sg2 * (x2 : Int) ≤ 120)))) ∧ (kd2 = 0 → (SM = sg2 * (x2 : Int) ∧ -999 ≤ sg2 * (x2 : Int) ∧ sg2 * (x2 : Int) ≤ 999) ∨ (SM = 1000 ∧ (sg2 * (x2 : Int) < -999 ∨ 999 < sg2 * (x2 : Int)))) ∧ ((bb b.toNat = 1 ∧ sg2 < 0) ∨ (bb b.toNat = 0 ∧ 0 ≤ sg2))) := ⟨hTK, hsm, hbbit⟩
            clear hTK hsm hbbit c12 c20 c28 c39 c49
            obtain ⟨K, hK1, hK2⟩ : ∃ K : Int, (5 < op → K = kd1) ∧ (op ≤ 5 → K = max kd1 kd2) := ⟨if 5 < op then kd1 else max kd1 kd2, fun e => if_pos e, fun e => if_neg (by omega)⟩
            have hKr : 0 ≤ K ∧ K ≤ 2 := by omega
            have hKab : (op ≤ 5 → K = max (kk a.toNat) (kk b.toNat)) ∧ (5 < op → K = kk a.toNat) := ⟨fun e => by rw [hka1, hka2]; exact hK2 e, fun e => by rw [hka1]; exact hK1 e⟩
            replace hK1 : hold _ := hK1
            replace hK2 : hold _ := hK2
            replace hKab : hold _ := hKab
            refine J_aload_n 0 d_M_combine_58 rfl rfl ?_
            refine J_aload_n 0 d_M_combine_59 rfl rfl ?_
            refine J_iload_n 2 d_M_combine_60 rfl rfl ?_
            refine J_topi (r := ((a.toNat : Nat) : Int)) (congrArg iI (by omega)) ?_
            refine J_bipush d_M_combine_61 (i8_ok (by decide)) ?_
            refine J_bipush d_M_combine_63 (i8_ok (by decide)) ?_
            refine J_callVi cw_M_182 nh_M_fetch pn_M_fetch rfl rfl (by omega) (by rw [va_up_self]) (As := [.int (iI ((a.toNat : Nat) : Int)), .int (iI 16), .int (iI 17)]) (rest := [.ref (ad 98)]) rfl (Nat.le_of_ble_eq_true rfl) ⟨by decide, by decide⟩ rfl ⟨by decide, by decide⟩ d_M_combine_65 (c_M_fetch hfl (r := a.toNat) (u := 16) (d := 17) (x := x1) (y := y1) (kd := kd1) (sg := sg1) (kk := kk) (bb := bb) (rr := rr) (hh := hh) (ll := ll) (f := va_up f 10 0) (v := v) (V := V) (br := br) hN (by rw [va_up_self]) (by rw [va_up_ne _ _ (by decide)]; exact hB) (by rw [va_up_ne _ _ (by decide)]; exact hL) hR hzz (by rw [va_up_ne _ _ (by decide)]; exact hKk) (by rw [va_up_ne _ _ (by decide)]; exact hBb) (by rw [va_up_ne _ _ (by decide)]; exact hRr) ha8 ⟨by omega, by omega⟩ ⟨by omega, by omega⟩ (hzz.2 16 (by decide) (by decide)) (hzz.2 17 (by decide) (by decide)) (by omega) (mreg_fr hmg1 ha8 (fun k hk => (show (V) k = V k from by rfl))) hd01 hk11 hb1 hre1) (fun mi1 F10 hq => ?_)
            obtain ⟨hmi1, bh5, bl6, U1, Y1, hUY1, hU91, hR7, eF10⟩ := hq
            refine J_eqF (F2 := va_up (va_up (va_up F 98 (oM ad (va_up f 10 0) v)) 99 (.inl (g 0, 858, .inl (aI bh5)))) 100 (.inl (g 0, 33, .inl (aI bl6)))) eF10 ?_
            obtain ⟨hU91, hU71⟩ := hU91
            have hU81 : powY kd1 Y1 := hU71
            clear hU71
            have hmi11 : (mi1 = 1 ∧ sg1 < 0) ∨ (mi1 = 0 ∧ 0 ≤ sg1) := by rw [hmi1]; split <;> omega
            have hmi1b : mi1 = 0 ∨ mi1 = 1 := by rcases hmi11 with w | w; exact Or.inr w.1; exact Or.inl w.1
            replace hmi11 : hold _ := hmi11
            replace hU91 : hold _ := hU91
            replace hmi1 : hold _ := hmi1
            refine pm_M_149 (by omega) (by rw [va_up_ne _ _ (by decide), va_up_ne _ _ (by decide), va_up_self]) (nb01 hmi1b) d_M_combine_68 ?_
            refine J_eqF (F2 := va_up (va_up (va_up F 98 (oM ad (va_up (va_up f 10 0) 5 mi1) v)) 99 (.inl (g 0, 858, .inl (aI bh5)))) 100 (.inl (g 0, 33, .inl (aI bl6)))) (up_in2 (by decide) (by decide)) ?_
            refine J_aload_n 0 d_M_combine_71 rfl rfl ?_
            refine J_aload_n 0 d_M_combine_72 rfl rfl ?_
            refine J_iload_n 3 d_M_combine_73 rfl rfl ?_
            refine J_topi (r := ((b.toNat : Nat) : Int)) (congrArg iI (by omega)) ?_
            refine J_bipush d_M_combine_74 (i8_ok (by decide)) ?_
            refine J_bipush d_M_combine_76 (i8_ok (by decide)) ?_
            refine J_callVi cw_M_182 nh_M_fetch pn_M_fetch rfl rfl (by omega) (by rw [va_up_ne _ _ (by decide), va_up_ne _ _ (by decide), va_up_self]) (As := [.int (iI ((b.toNat : Nat) : Int)), .int (iI 18), .int (iI 19)]) (rest := [.ref (ad 98)]) rfl (Nat.le_of_ble_eq_true rfl) ⟨by decide, by decide⟩ rfl ⟨by decide, by decide⟩ d_M_combine_78 (c_M_fetch hfl (r := b.toNat) (u := 18) (d := 19) (x := x2) (y := y2) (kd := kd2) (sg := sg2) (kk := kk) (bb := bb) (rr := rr) (hh := bh5) (ll := bl6) (f := va_up (va_up f 10 0) 5 mi1) (v := v) (V := va_up (va_up V 17 Y1) 16 U1) (br := br) hN (by rw [va_up_ne _ _ (by decide), va_up_ne _ _ (by decide), va_up_self]) (by rw [va_up_ne _ _ (by decide), va_up_self]) (by rw [va_up_self]) hR7 hzz (by rw [va_up_ne _ _ (by decide), va_up_ne _ _ (by decide), va_up_ne _ _ (by decide)]; exact hKk) (by rw [va_up_ne _ _ (by decide), va_up_ne _ _ (by decide), va_up_ne _ _ (by decide)]; exact hBb) (by rw [va_up_ne _ _ (by decide), va_up_ne _ _ (by decide), va_up_ne _ _ (by decide)]; exact hRr) hb8 ⟨by omega, by omega⟩ ⟨by omega, by omega⟩ (hzz.2 18 (by decide) (by decide)) (hzz.2 19 (by decide) (by decide)) (by omega) (mreg_fr hmg2 hb8 (fun k hk => (show (va_up (va_up V 17 Y1) 16 U1) k = V k from by rw [va_up_ne _ _ (by omega), va_up_ne _ _ (by omega)]))) hd02 hk12 hb2 hre2) (fun mi2 F11 hq => ?_)
            obtain ⟨hmi2, bh8, bl9, U2, Y2, hUY2, hU92, hR10, eF11⟩ := hq
            refine J_eqF (F2 := va_up (va_up (va_up F 98 (oM ad (va_up (va_up f 10 0) 5 mi1) v)) 99 (.inl (g 0, 858, .inl (aI bh8)))) 100 (.inl (g 0, 33, .inl (aI bl9)))) (eF11.trans (Eq.trans (congrArg (fun q : Nat → va_E => va_up q 100 (.inl (g 0, 33, .inl (aI bl9)))) (up_in1 (by decide))) (up_in0))) ?_
            obtain ⟨hU92, hU72⟩ := hU92
            have hU82 : powY kd2 Y2 := hU72
            clear hU72
            have hmi21 : (mi2 = 1 ∧ sg2 < 0) ∨ (mi2 = 0 ∧ 0 ≤ sg2) := by rw [hmi2]; split <;> omega
            have hmi2b : mi2 = 0 ∨ mi2 = 1 := by rcases hmi21 with w | w; exact Or.inr w.1; exact Or.inl w.1
            replace hmi21 : hold _ := hmi21
            replace hU92 : hold _ := hU92
            replace hmi2 : hold _ := hmi2
            refine pm_M_152 (by omega) (by rw [va_up_ne _ _ (by decide), va_up_ne _ _ (by decide), va_up_self]) (nb01 hmi2b) d_M_combine_81 ?_
            refine J_eqF (F2 := va_up (va_up (va_up F 98 (oM ad (va_up (va_up (va_up f 10 0) 5 mi1) 6 mi2) v)) 99 (.inl (g 0, 858, .inl (aI bh8)))) 100 (.inl (g 0, 33, .inl (aI bl9)))) (up_in2 (by decide) (by decide)) ?_
            have hU20 : x2 = 0 ↔ U2 = 0 := zero_iff (a := 0) (b := 0) (x := 0) (y := 0) (s := 0) hUY2.1 hd02 hUY2.2.1
            have hU10 : x1 = 0 ↔ U1 = 0 := zero_iff (a := 0) (b := 0) (x := 0) (y := 0) (s := 0) hUY1.1 hd01 hUY1.2.1
            have hl1 := lnw_154 hUY1.2.2.1
            have hl2 := lnw_154 hUY1.2.2.2
            have hl3 := lnw_154 hUY2.2.2.1
            have hl4 := lnw_154 hUY2.2.2.2
            refine J_iload_n 1 d_M_combine_84 rfl rfl ?_
            have lab108 : ∀  (hdv : 3 ≤ op ∧ op ≤ 5 → x2 ≠ 0) , J l rm_M_combine (0, 0) "NumberTowerModel" b_M_combine 6 (Option.some Jvm.ClassFile.FieldType.int) D jCl (jTys g) A (fun _ me => me.name = y_M_combine.name) (ji ad N (fun z F' => msto ad g R ln sh (fun k => k + 1) to (combO R op a b to) z F' ∧ offM F F')) ad N 0 0 108 [(0, .ref (ad 98)), (1, .int (iI op)), (2, .int (iI a)), (3, .int (iI b)), (4, .int (iI to))] [] (va_up (va_up (va_up F 98 (oM ad (va_up (va_up (va_up f 10 0) 5 mi1) 6 mi2) v)) 99 (.inl (g 0, 858, .inl (aI bh8)))) 100 (.inl (g 0, 33, .inl (aI bl9)))) := by
              intro  hdv
              have lab154 : J l rm_M_combine (0, 0) "NumberTowerModel" b_M_combine 6 (Option.some Jvm.ClassFile.FieldType.int) D jCl (jTys g) A (fun _ me => me.name = y_M_combine.name) (ji ad N (fun z F' => msto ad g R ln sh (fun k => k + 1) to (combO R op a b to) z F' ∧ offM F F')) ad N 0 0 154 [(0, .ref (ad 98)), (1, .int (iI op)), (2, .int (iI a)), (3, .int (iI b)), (4, .int (iI to)), (5, .int (iI K))] [] (va_up (va_up (va_up F 98 (oM ad (va_up (va_up (va_up f 10 0) 5 mi1) 6 mi2) v)) 99 (.inl (g 0, 858, .inl (aI bh8)))) 100 (.inl (g 0, 33, .inl (aI bl9)))) := by
                refine J_iload_n 1 d_M_combine_154 rfl rfl ?_
                refine J_bipush d_M_combine_155 (i8_ok (by decide)) ?_
                refine J_if_icmpge (tgt := 166) d_M_combine_157 (by decide) hop ⟨by omega, by omega⟩ (fun c157 => ?_) (fun c157 => ?_)
                · refine J_iload_n 1 d_M_combine_166 rfl rfl ?_
                  refine J_bipush d_M_combine_167 (i8_ok (by decide)) ?_
                  refine J_if_icmpge (tgt := 185) d_M_combine_169 (by decide) hop ⟨by omega, by omega⟩ (fun c169 => ?_) (fun c169 => ?_)
                  · obtain ⟨hTK, hsm, hbbit⟩ := hTh
                    refine J_iload_n 1 d_M_combine_185 rfl rfl ?_
                    refine J_iconst d_M_combine_186 ?_
                    refine J_if_icmpne (tgt := 206) d_M_combine_187 (by decide) hop ⟨by omega, by omega⟩ (fun c187 => ?_) (fun c187 => ?_)
                    · refine J_iload_n 1 d_M_combine_206 rfl rfl ?_
                      by_cases sw207_6 : op = 6
                      · refine J_tableIn (off := 113) (tgt := 320) d_M_combine_207 ⟨by omega, by omega⟩ (by omega) (by omega) (by rw [show (op - 0).toNat = 6 by omega]; rfl) (by decide) ?_
                        refine J_aload_n 0 d_M_combine_320 rfl rfl ?_
                        refine J_iload 5 d_M_combine_321 rfl ?_
                        refine J_aload_n 0 d_M_combine_323 rfl rfl ?_
                        refine J_iload_n 3 d_M_combine_324 rfl rfl ?_
                        refine J_topi (r := ((b.toNat : Nat) : Int)) (congrArg iI (by omega)) ?_
                        refine J_callVi cw_M_173 nh_M_small pn_M_small rfl rfl (by omega) (by rw [va_up_ne _ _ (by decide), va_up_ne _ _ (by decide), va_up_self]) (As := [.int (iI ((b.toNat : Nat) : Int))]) (rest := [.int (iI K), .ref (ad 98)]) rfl (Nat.le_of_ble_eq_true rfl) ⟨by decide, by decide⟩ rfl ⟨by decide, by decide⟩ d_M_combine_325 (c_M_small hfl (r := b.toNat) (x := V (2 * b.toNat)) (kk := kk) (bb := bb) (rr := rr) (hh := bh8) (ll := bl9) (f := va_up (va_up (va_up f 10 0) 5 mi1) 6 mi2) (v := v) (V := va_up (va_up (va_up (va_up V 17 Y1) 16 U1) 19 Y2) 18 U2) (br := br) hN (by rw [va_up_ne _ _ (by decide), va_up_ne _ _ (by decide), va_up_self]) (by rw [va_up_ne _ _ (by decide), va_up_self]) (by rw [va_up_self]) hR10 hzz (by rw [va_up_ne _ _ (by decide), va_up_ne _ _ (by decide), va_up_ne _ _ (by decide)]; exact hKk) (by rw [va_up_ne _ _ (by decide), va_up_ne _ _ (by decide), va_up_ne _ _ (by decide)]; exact hBb) (by rw [va_up_ne _ _ (by decide), va_up_ne _ _ (by decide), va_up_ne _ _ (by decide)]; exact hRr) (by omega) (show (va_up (va_up (va_up (va_up V 17 Y1) 16 U1) 19 Y2) 18 U2) (2 * b.toNat) = _ from by rw [va_up_ne _ _ (by omega), va_up_ne _ _ (by omega), va_up_ne _ _ (by omega), va_up_ne _ _ (by omega)]) hVl (by omega)) (fun sm9 F12 hq => ?_)
                        obtain ⟨hsm9, eF12⟩ := hq
                        refine J_eqF eF12 ?_
                        refine J_topi (r := SM) (congrArg iI (hsm9.trans hSM.symm)) ?_
                        have hK9 : K = kd1 := hK1 (by omega)
                        refine J_callVi cw_M_194 nh_M_powered pn_M_powered rfl rfl (by omega) (by rw [va_up_ne _ _ (by decide), va_up_ne _ _ (by decide), va_up_self]) (As := [.int (iI K), .int (iI SM)]) (rest := []) rfl (Nat.le_of_ble_eq_true rfl) ⟨by decide, by decide⟩ rfl ⟨by decide, by decide⟩ d_M_combine_328 (c_M_powered hfl (a := U1) (b := Y1) (ux := x1) (dx := y1) (kd := K) (sx := sg1) (xs := mi1) (n := SM) (hh := bh8) (ll := bl9) (f := va_up (va_up (va_up f 10 0) 5 mi1) 6 mi2) (v := v) (V := va_up (va_up (va_up (va_up V 17 Y1) 16 U1) 19 Y2) 18 U2) (br := br) hN (by rw [va_up_ne _ _ (by decide), va_up_ne _ _ (by decide), va_up_self]) (by rw [va_up_ne _ _ (by decide), va_up_self]) (by rw [va_up_self]) hR10 hzz ((va_up_ne _ _ (by decide)).trans ((va_up_ne _ _ (by decide)).trans (va_up_self ..))) ((va_up_ne _ _ (by decide)).trans ((va_up_ne _ _ (by decide)).trans ((va_up_ne _ _ (by decide)).trans (va_up_self ..)))) (((va_up_ne _ _ (by decide)).trans (va_up_self ..))) hKr (by omega) hUY1.1 hd01 hUY1.2.1 hUY1.2.2 hmi1 hs01 hs11) (fun zpw F13 hq => ?_)
                        obtain ⟨bh11, bl12, f9, W9, v9, hR13, hfW9, hf99, hpw, eF13⟩ := hq
                        refine J_eqF (F2 := va_up (va_up (va_up F 98 (oM ad f9 v9)) 99 (.inl (g 0, 858, .inl (aI bh11)))) 100 (.inl (g 0, 33, .inl (aI bl12)))) (eF13.trans (Eq.trans (Eq.trans (congrArg (fun q : Nat → va_E => va_up q 100 (.inl (g 0, 33, .inl (aI bl12)))) (congrArg (fun q : Nat → va_E => va_up q 99 (.inl (g 0, 858, .inl (aI bh11)))) (up_in2 (by decide) (by decide)))) (congrArg (fun q : Nat → va_E => va_up q 100 (.inl (g 0, 33, .inl (aI bl12)))) (up_in1 (by decide)))) (up_in0))) ?_
                        have hpw2 : powQ zpw K sg1 x1 y1 SM.toNat W9 f9 := hpw
                        replace hpw := hpw2
                        clear hpw2
                        have hpz : zpw = 0 ∨ zpw = 1 := by
                          rcases hpw with w | w
                          · exact Or.inl w.1
                          · exact Or.inr w.1
                        refine J_ifne (tgt := 357) d_M_combine_331 (by decide) ⟨by omega, by omega⟩ (fun c331 => ?_) (fun c331 => ?_)
                        · refine J_aload_n 0 d_M_combine_357 rfl rfl ?_
                          refine J_iload 5 d_M_combine_358 rfl ?_
                          refine J_iload 4 d_M_combine_360 rfl ?_
                          refine J_topi (r := ((to.toNat : Nat) : Int)) (congrArg iI (by omega)) ?_
                          refine J_iconst d_M_combine_362 ?_
                          obtain ⟨s9, p1, p2, p3, p4, p5, p6, p7, p8⟩ := powQ_1 hpw (by omega) hKr hs11 hs01.mp hd01 (fun e => hk01 (by omega))
                          have hX2 : (W9 20) < 2 ^ 500 := Nat.lt_trans p3 (by decide)
                          have hY2 : (W9 21) < 2 ^ 500 := Nat.lt_trans p4 (by decide)
                          have hD9 := mstd_3 hD0 (f' := f9) (v' := v9) hR13 hzz (fun k hk => ((show (W9) k = W9 k from by rfl).trans ((hfW9 k (by omega)).trans (show (va_up (va_up (va_up (va_up V 17 Y1) 16 U1) 19 Y2) 18 U2) k = V k from by rw [va_up_ne _ _ (by omega), va_up_ne _ _ (by omega), va_up_ne _ _ (by omega), va_up_ne _ _ (by omega)])))) (((hf99 12 (by omega))).trans ((va_up_ne _ _ (by decide)).trans ((va_up_ne _ _ (by decide)).trans (va_up_ne _ _ (by decide))))) (((hf99 14 (by omega))).trans ((va_up_ne _ _ (by decide)).trans ((va_up_ne _ _ (by decide)).trans (va_up_ne _ _ (by decide)))))
                          have hof9 : offM F (va_up (va_up (va_up F 98 (oM ad f9 v9)) 99 (.inl (g 0, 858, .inl (aI bh11)))) 100 (.inl (g 0, 33, .inl (aI bl12)))) := offM_3
                          have hc10 : (f9) 10 = 0 := (((hf99 10 (by omega))).trans ((va_up_ne _ _ (by decide)).trans ((va_up_ne _ _ (by decide)).trans (va_up_self ..))))
                          refine J_callVi cw_M_142 nh_M_store pn_M_store rfl rfl (by omega) (by rw [va_up_ne _ _ (by decide), va_up_ne _ _ (by decide), va_up_self]) (As := [.int (iI K), .int (iI ((to.toNat : Nat) : Int)), .int (iI 3)]) (rest := []) rfl (Nat.le_of_ble_eq_true rfl) ⟨by decide, by decide⟩ rfl ⟨by decide, by decide⟩ d_M_combine_363 (c_M_store2 hfl (X := (W9 20)) (Y := (W9 21)) (to := to.toNat) (kd := K) (s := s9) (code := 3) hN hD9 (rfl) (rfl) p2 ((lnw_le (by decide)).mpr (Nat.lt_trans hX2 (by decide))) ((lnw_le (by decide)).mpr (Nat.lt_trans hY2 (by decide))) (blen_le.mpr (Nat.lt_trans hX2 (by decide))) (blen_le.mpr (Nat.lt_trans hY2 (by decide))) ⟨by omega, by omega⟩ ((rfl).trans p5) p6 (by omega) p8 p7) (fun z9 F9 hq => ?_)
                          obtain ⟨hq9, hoff9⟩ := hq
                          replace hoff9 := offM_t hof9 hoff9
                          refine J_iret rfl rfl d_M_combine_366 ⟨by decide, by decide⟩ ?_
                          have hT : opV op (kd1, sg1, x1, y1) (kd2, sg2, x2, y2) = fin K s9 ((W9 20)) ((W9 21)) := by
                            have hnn : (sg2 * (x2 : Int)).toNat = SM.toNat := by omega
                            unfold opV
                            rw [if_pos sw207_6]
                            show powF kd1 sg1 x1 y1 (sg2 * (x2 : Int)).toNat = _
                            rw [hnn, ← hK1 (by omega)]
                            exact p1
                          refine ⟨_, rfl, rfl, rfl, msto_i (by unfold combO; rw [if_pos hC, if_neg (fun h => hdv ⟨h.1, h.2.1⟩ (by rw [hrV2] at h; exact h.2.2)), hrV1, hrV2, hT]) rfl hc10 hq9, hoff9⟩
                        · refine J_aload_n 0 d_M_combine_334 rfl rfl ?_
                          refine J_iconst d_M_combine_335 ?_
                          refine J_callVi cw_M_135 nh_M_fail pn_M_fail rfl rfl (by omega) (by rw [va_up_ne _ _ (by decide), va_up_ne _ _ (by decide), va_up_self]) (As := [.int (iI 3)]) (rest := []) rfl (Nat.le_of_ble_eq_true rfl) ⟨by decide, by decide⟩ rfl ⟨by decide, by decide⟩ d_M_combine_336 (c_M_fail hfl (code := 3) (f := f9) (v := v9) hN (by rw [va_up_ne _ _ (by decide), va_up_ne _ _ (by decide), va_up_self])) (fun z14 F14 hq => ?_)
                          obtain ⟨hz14, eF14⟩ := hq
                          refine J_eqF (F2 := va_up (va_up (va_up F 98 (oM ad (va_up f9 10 3) v9)) 99 (.inl (g 0, 858, .inl (aI bh11)))) 100 (.inl (g 0, 33, .inl (aI bl12)))) (eF14.trans (up_in2 (by decide) (by decide))) ?_
                          refine J_topi (r := 0) (congrArg iI hz14) ?_
                          refine J_iret rfl rfl d_M_combine_339 ⟨by decide, by decide⟩ ?_
                          have hnn : (sg2 * (x2 : Int)).toNat = SM.toNat := by omega
                          have hno : opV op (kd1, sg1, x1, y1) (kd2, sg2, x2, y2) = none := by
                            unfold opV
                            rw [if_pos sw207_6]
                            show powF kd1 sg1 x1 y1 (sg2 * (x2 : Int)).toNat = _
                            rw [hnn, ← hK9]
                            exact powQ_0 hpw (by omega)
                          exact ⟨_, rfl, rfl, rfl, Or.inl ⟨2, by unfold combO; rw [if_pos hC, if_neg (fun h => hdv ⟨h.1, h.2.1⟩ (by rw [hrV2] at h; exact h.2.2)), hrV1, hrV2, hno]; rfl, rfl, mst_3 hD0 hR13 hzz (fun k hk => ((show (W9) k = W9 k from by rfl).trans ((hfW9 k (by omega)).trans (show (va_up (va_up (va_up (va_up V 17 Y1) 16 U1) 19 Y2) 18 U2) k = V k from by rw [va_up_ne _ _ (by omega), va_up_ne _ _ (by omega), va_up_ne _ _ (by omega), va_up_ne _ _ (by omega)])))) ((va_up_ne _ _ (by decide)).trans (((hf99 12 (by omega))).trans ((va_up_ne _ _ (by decide)).trans ((va_up_ne _ _ (by decide)).trans (va_up_ne _ _ (by decide)))))) ((va_up_ne _ _ (by decide)).trans (((hf99 14 (by omega))).trans ((va_up_ne _ _ (by decide)).trans ((va_up_ne _ _ (by decide)).trans (va_up_ne _ _ (by decide)))))) (va_up_self ..)⟩, offM_3⟩
                      by_cases sw207_7 : op = 7
                      · refine J_tableIn (off := 145) (tgt := 352) d_M_combine_207 ⟨by omega, by omega⟩ (by omega) (by omega) (by rw [show (op - 0).toNat = 7 by omega]; rfl) (by decide) ?_
                        refine J_aload_n 0 d_M_combine_352 rfl rfl ?_
                        refine J_iload_n 1 d_M_combine_353 rfl rfl ?_
                        have hmx1 : (mi1 = 1 ∧ sg1 < 0) ∨ (mi1 = 0 ∧ 0 ≤ sg1) := hmi11
                        have hmx2 : (mi2 = 1 ∧ sg2 < 0) ∨ (mi2 = 0 ∧ 0 ≤ sg2) := hmi21
                        have hsz1 : sg1 = 0 ↔ x1 = 0 := hs01
                        have hsz2 : sg2 = 0 ↔ x2 = 0 := hs02
                        have hk10 : kd1 = 0 := by omega
                        have hk20 : kd2 = 0 := by omega
                        have hUx : U1 = x1 := (hU91 (by omega)).1
                        have hUx2 : U2 = x2 := (hU92 (by omega)).1
                        have hx120 := (hb21 (by omega)).1
                        have hx220 := (hb22 (by omega)).1
                        refine J_callVv cw_M_201 nh_M_mixed pn_M_mixed rfl rfl (by omega) (by rw [va_up_ne _ _ (by decide), va_up_ne _ _ (by decide), va_up_self]) (As := [.int (iI op)]) (rest := []) rfl (Nat.le_of_ble_eq_true rfl) ⟨by decide, by decide⟩ rfl ⟨by decide, by decide⟩ d_M_combine_354 (c_M_mixed hfl (a := U1) (c := U2) (xs := mi1) (ys := mi2) (op := op) (hh := bh8) (ll := bl9) (f := va_up (va_up (va_up f 10 0) 5 mi1) 6 mi2) (v := v) (V := va_up (va_up (va_up (va_up V 17 Y1) 16 U1) 19 Y2) 18 U2) (br := br) hN (by rw [va_up_ne _ _ (by decide), va_up_ne _ _ (by decide), va_up_self]) (by rw [va_up_ne _ _ (by decide), va_up_self]) (by rw [va_up_self]) hR10 hzz ((va_up_ne _ _ (by decide)).trans ((va_up_ne _ _ (by decide)).trans (va_up_self ..))) (va_up_self ..) (((va_up_ne _ _ (by decide)).trans (va_up_self ..))) ((va_up_self ..)) (by omega) (by omega) (by omega) (by omega) (by omega) ⟨by rw [hUx]; exact hx120, by rw [hUx2]; exact hx220⟩ hbr22 hbr23) (fun  F15 hq => ?_)
                        obtain ⟨bh15, bl16, W9, hR17, hfW9, hW209, hW219, eF15⟩ := hq
                        refine J_eqF (F2 := va_up (va_up (va_up F 98 (oM ad (va_up (va_up (va_up (va_up f 10 0) 5 mi1) 6 mi2) 7 (if bopB op (decide (mi1 = 1)) (decide (mi2 = 1)) = true then 1 else 0)) v)) 99 (.inl (g 0, 858, .inl (aI bh15)))) 100 (.inl (g 0, 33, .inl (aI bl16)))) (eF15.trans (Eq.trans (Eq.trans (congrArg (fun q : Nat → va_E => va_up q 100 (.inl (g 0, 33, .inl (aI bl16)))) (congrArg (fun q : Nat → va_E => va_up q 99 (.inl (g 0, 858, .inl (aI bh15)))) (up_in2 (by decide) (by decide)))) (congrArg (fun q : Nat → va_E => va_up q 100 (.inl (g 0, 33, .inl (aI bl16)))) (up_in1 (by decide)))) (up_in0))) ?_
                        rw [hUx, hUx2] at hW209
                        have hd1 : decide (mi1 = 1) = decide (sg1 < 0) := decide_eq_decide.mpr (by omega)
                        have hd2 : decide (mi2 = 1) = decide (sg2 < 0) := decide_eq_decide.mpr (by omega)
                        have hi1 : (if mi1 = 1 then x1 - 1 else x1) = if sg1 < 0 then x1 - 1 else x1 := by split <;> split <;> omega
                        have hi2 : (if mi2 = 1 then x2 - 1 else x2) = if sg2 < 0 then x2 - 1 else x2 := by split <;> split <;> omega
                        have hmx9 : mixF op sg1 x1 sg2 x2 = fin 0 (if bopB op (decide (mi1 = 1)) (decide (mi2 = 1)) = true then -1 else 1) (W9 20) 1 := by
                          unfold mixF
                          simp only []
                          rw [hW209, hi1, hi2, hd1, hd2]
                        have hmb9 : W9 20 < 2 ^ 500 := by
                          rw [hW209]
                          have hz := mixZ_lt (op := op) (nx := decide (mi1 = 1)) (ny := decide (mi2 = 1)) (X := if mi1 = 1 then x1 - 1 else x1) (Y := if mi2 = 1 then x2 - 1 else x2) (n := 120) (by split <;> omega) (by split <;> omega)
                          split
                          · exact Nat.lt_of_le_of_lt (Nat.succ_le_of_lt hz) (by decide)
                          · exact Nat.lt_trans hz (by decide)
                        have hf79 : (if bopB op (decide (mi1 = 1)) (decide (mi2 = 1)) = true then (1 : Int) else 0) = if (if bopB op (decide (mi1 = 1)) (decide (mi2 = 1)) = true then (-1 : Int) else 1) < 0 then 1 else 0 := by split <;> rfl
                        refine J_aload_n 0 d_M_combine_357 rfl rfl ?_
                        refine J_iload 5 d_M_combine_358 rfl ?_
                        refine J_iload 4 d_M_combine_360 rfl ?_
                        refine J_topi (r := ((to.toNat : Nat) : Int)) (congrArg iI (by omega)) ?_
                        refine J_iconst d_M_combine_362 ?_
                        have hX2 : (W9 20) < 2 ^ 500 := hmb9
                        have hY2 : 1 < 2 ^ 500 := by decide
                        have hD9 := mstd_3 hD0 (f' := va_up (va_up (va_up (va_up f 10 0) 5 mi1) 6 mi2) 7 (if bopB op (decide (mi1 = 1)) (decide (mi2 = 1)) = true then 1 else 0)) (v' := v) hR17 hzz (fun k hk => ((show (W9) k = W9 k from by rfl).trans ((hfW9 k (by omega)).trans (show (va_up (va_up (va_up (va_up V 17 Y1) 16 U1) 19 Y2) 18 U2) k = V k from by rw [va_up_ne _ _ (by omega), va_up_ne _ _ (by omega), va_up_ne _ _ (by omega), va_up_ne _ _ (by omega)])))) ((va_up_ne _ _ (by decide)).trans ((va_up_ne _ _ (by decide)).trans ((va_up_ne _ _ (by decide)).trans (va_up_ne _ _ (by decide))))) ((va_up_ne _ _ (by decide)).trans ((va_up_ne _ _ (by decide)).trans ((va_up_ne _ _ (by decide)).trans (va_up_ne _ _ (by decide)))))
                        have hof9 : offM F (va_up (va_up (va_up F 98 (oM ad (va_up (va_up (va_up (va_up f 10 0) 5 mi1) 6 mi2) 7 (if bopB op (decide (mi1 = 1)) (decide (mi2 = 1)) = true then 1 else 0)) v)) 99 (.inl (g 0, 858, .inl (aI bh15)))) 100 (.inl (g 0, 33, .inl (aI bl16)))) := offM_3
                        have hc10 : (va_up (va_up (va_up (va_up f 10 0) 5 mi1) 6 mi2) 7 (if bopB op (decide (mi1 = 1)) (decide (mi2 = 1)) = true then 1 else 0)) 10 = 0 := ((va_up_ne _ _ (by decide)).trans ((va_up_ne _ _ (by decide)).trans ((va_up_ne _ _ (by decide)).trans (va_up_self ..))))
                        refine J_callVi cw_M_142 nh_M_store pn_M_store rfl rfl (by omega) (by rw [va_up_ne _ _ (by decide), va_up_ne _ _ (by decide), va_up_self]) (As := [.int (iI K), .int (iI ((to.toNat : Nat) : Int)), .int (iI 3)]) (rest := []) rfl (Nat.le_of_ble_eq_true rfl) ⟨by decide, by decide⟩ rfl ⟨by decide, by decide⟩ d_M_combine_363 (c_M_store2 hfl (X := (W9 20)) (Y := 1) (to := to.toNat) (kd := K) (s := (if bopB op (decide (mi1 = 1)) (decide (mi2 = 1)) = true then -1 else 1)) (code := 3) hN hD9 (rfl) (hW219) (by decide) ((lnw_le (by decide)).mpr (Nat.lt_trans hX2 (by decide))) ((lnw_le (by decide)).mpr (Nat.lt_trans hY2 (by decide))) (blen_le.mpr (Nat.lt_trans hX2 (by decide))) (blen_le.mpr (Nat.lt_trans hY2 (by decide))) ⟨by omega, by omega⟩ (((va_up_self ..)).trans hf79) ⟨by split <;> decide, by split <;> decide⟩ (by omega) (fun _ => Nat.one_dvd _) (fun e => absurd e (by split at e <;> omega))) (fun z9 F9 hq => ?_)
                        obtain ⟨hq9, hoff9⟩ := hq
                        replace hoff9 := offM_t hof9 hoff9
                        refine J_iret rfl rfl d_M_combine_366 ⟨by decide, by decide⟩ ?_
                        have hT : opV op (kd1, sg1, x1, y1) (kd2, sg2, x2, y2) = fin K (if bopB op (decide (mi1 = 1)) (decide (mi2 = 1)) = true then -1 else 1) ((W9 20)) (1) := by
                          unfold opV
                          rw [if_neg (by omega), if_neg (by omega), if_pos (by omega)]
                          rw [hK1 (by omega), show kd1 = 0 by omega]
                          exact hmx9
                        refine ⟨_, rfl, rfl, rfl, msto_i (by unfold combO; rw [if_pos hC, if_neg (fun h => hdv ⟨h.1, h.2.1⟩ (by rw [hrV2] at h; exact h.2.2)), hrV1, hrV2, hT]) rfl hc10 hq9, hoff9⟩
                      by_cases sw207_8 : op = 8
                      · refine J_tableIn (off := 145) (tgt := 352) d_M_combine_207 ⟨by omega, by omega⟩ (by omega) (by omega) (by rw [show (op - 0).toNat = 8 by omega]; rfl) (by decide) ?_
                        refine J_aload_n 0 d_M_combine_352 rfl rfl ?_
                        refine J_iload_n 1 d_M_combine_353 rfl rfl ?_
                        have hmx1 : (mi1 = 1 ∧ sg1 < 0) ∨ (mi1 = 0 ∧ 0 ≤ sg1) := hmi11
                        have hmx2 : (mi2 = 1 ∧ sg2 < 0) ∨ (mi2 = 0 ∧ 0 ≤ sg2) := hmi21
                        have hsz1 : sg1 = 0 ↔ x1 = 0 := hs01
                        have hsz2 : sg2 = 0 ↔ x2 = 0 := hs02
                        have hk10 : kd1 = 0 := by omega
                        have hk20 : kd2 = 0 := by omega
                        have hUx : U1 = x1 := (hU91 (by omega)).1
                        have hUx2 : U2 = x2 := (hU92 (by omega)).1
                        have hx120 := (hb21 (by omega)).1
                        have hx220 := (hb22 (by omega)).1
                        refine J_callVv cw_M_201 nh_M_mixed pn_M_mixed rfl rfl (by omega) (by rw [va_up_ne _ _ (by decide), va_up_ne _ _ (by decide), va_up_self]) (As := [.int (iI op)]) (rest := []) rfl (Nat.le_of_ble_eq_true rfl) ⟨by decide, by decide⟩ rfl ⟨by decide, by decide⟩ d_M_combine_354 (c_M_mixed hfl (a := U1) (c := U2) (xs := mi1) (ys := mi2) (op := op) (hh := bh8) (ll := bl9) (f := va_up (va_up (va_up f 10 0) 5 mi1) 6 mi2) (v := v) (V := va_up (va_up (va_up (va_up V 17 Y1) 16 U1) 19 Y2) 18 U2) (br := br) hN (by rw [va_up_ne _ _ (by decide), va_up_ne _ _ (by decide), va_up_self]) (by rw [va_up_ne _ _ (by decide), va_up_self]) (by rw [va_up_self]) hR10 hzz ((va_up_ne _ _ (by decide)).trans ((va_up_ne _ _ (by decide)).trans (va_up_self ..))) (va_up_self ..) (((va_up_ne _ _ (by decide)).trans (va_up_self ..))) ((va_up_self ..)) (by omega) (by omega) (by omega) (by omega) (by omega) ⟨by rw [hUx]; exact hx120, by rw [hUx2]; exact hx220⟩ hbr22 hbr23) (fun  F16 hq => ?_)
                        obtain ⟨bh18, bl19, W9, hR20, hfW9, hW209, hW219, eF16⟩ := hq
                        refine J_eqF (F2 := va_up (va_up (va_up F 98 (oM ad (va_up (va_up (va_up (va_up f 10 0) 5 mi1) 6 mi2) 7 (if bopB op (decide (mi1 = 1)) (decide (mi2 = 1)) = true then 1 else 0)) v)) 99 (.inl (g 0, 858, .inl (aI bh18)))) 100 (.inl (g 0, 33, .inl (aI bl19)))) (eF16.trans (Eq.trans (Eq.trans (congrArg (fun q : Nat → va_E => va_up q 100 (.inl (g 0, 33, .inl (aI bl19)))) (congrArg (fun q : Nat → va_E => va_up q 99 (.inl (g 0, 858, .inl (aI bh18)))) (up_in2 (by decide) (by decide)))) (congrArg (fun q : Nat → va_E => va_up q 100 (.inl (g 0, 33, .inl (aI bl19)))) (up_in1 (by decide)))) (up_in0))) ?_
                        rw [hUx, hUx2] at hW209
                        have hd1 : decide (mi1 = 1) = decide (sg1 < 0) := decide_eq_decide.mpr (by omega)
                        have hd2 : decide (mi2 = 1) = decide (sg2 < 0) := decide_eq_decide.mpr (by omega)
                        have hi1 : (if mi1 = 1 then x1 - 1 else x1) = if sg1 < 0 then x1 - 1 else x1 := by split <;> split <;> omega
                        have hi2 : (if mi2 = 1 then x2 - 1 else x2) = if sg2 < 0 then x2 - 1 else x2 := by split <;> split <;> omega
                        have hmx9 : mixF op sg1 x1 sg2 x2 = fin 0 (if bopB op (decide (mi1 = 1)) (decide (mi2 = 1)) = true then -1 else 1) (W9 20) 1 := by
                          unfold mixF
                          simp only []
                          rw [hW209, hi1, hi2, hd1, hd2]
                        have hmb9 : W9 20 < 2 ^ 500 := by
                          rw [hW209]
                          have hz := mixZ_lt (op := op) (nx := decide (mi1 = 1)) (ny := decide (mi2 = 1)) (X := if mi1 = 1 then x1 - 1 else x1) (Y := if mi2 = 1 then x2 - 1 else x2) (n := 120) (by split <;> omega) (by split <;> omega)
                          split
                          · exact Nat.lt_of_le_of_lt (Nat.succ_le_of_lt hz) (by decide)
                          · exact Nat.lt_trans hz (by decide)
                        have hf79 : (if bopB op (decide (mi1 = 1)) (decide (mi2 = 1)) = true then (1 : Int) else 0) = if (if bopB op (decide (mi1 = 1)) (decide (mi2 = 1)) = true then (-1 : Int) else 1) < 0 then 1 else 0 := by split <;> rfl
                        refine J_aload_n 0 d_M_combine_357 rfl rfl ?_
                        refine J_iload 5 d_M_combine_358 rfl ?_
                        refine J_iload 4 d_M_combine_360 rfl ?_
                        refine J_topi (r := ((to.toNat : Nat) : Int)) (congrArg iI (by omega)) ?_
                        refine J_iconst d_M_combine_362 ?_
                        have hX2 : (W9 20) < 2 ^ 500 := hmb9
                        have hY2 : 1 < 2 ^ 500 := by decide
                        have hD9 := mstd_3 hD0 (f' := va_up (va_up (va_up (va_up f 10 0) 5 mi1) 6 mi2) 7 (if bopB op (decide (mi1 = 1)) (decide (mi2 = 1)) = true then 1 else 0)) (v' := v) hR20 hzz (fun k hk => ((show (W9) k = W9 k from by rfl).trans ((hfW9 k (by omega)).trans (show (va_up (va_up (va_up (va_up V 17 Y1) 16 U1) 19 Y2) 18 U2) k = V k from by rw [va_up_ne _ _ (by omega), va_up_ne _ _ (by omega), va_up_ne _ _ (by omega), va_up_ne _ _ (by omega)])))) ((va_up_ne _ _ (by decide)).trans ((va_up_ne _ _ (by decide)).trans ((va_up_ne _ _ (by decide)).trans (va_up_ne _ _ (by decide))))) ((va_up_ne _ _ (by decide)).trans ((va_up_ne _ _ (by decide)).trans ((va_up_ne _ _ (by decide)).trans (va_up_ne _ _ (by decide)))))
                        have hof9 : offM F (va_up (va_up (va_up F 98 (oM ad (va_up (va_up (va_up (va_up f 10 0) 5 mi1) 6 mi2) 7 (if bopB op (decide (mi1 = 1)) (decide (mi2 = 1)) = true then 1 else 0)) v)) 99 (.inl (g 0, 858, .inl (aI bh18)))) 100 (.inl (g 0, 33, .inl (aI bl19)))) := offM_3
                        have hc10 : (va_up (va_up (va_up (va_up f 10 0) 5 mi1) 6 mi2) 7 (if bopB op (decide (mi1 = 1)) (decide (mi2 = 1)) = true then 1 else 0)) 10 = 0 := ((va_up_ne _ _ (by decide)).trans ((va_up_ne _ _ (by decide)).trans ((va_up_ne _ _ (by decide)).trans (va_up_self ..))))
                        refine J_callVi cw_M_142 nh_M_store pn_M_store rfl rfl (by omega) (by rw [va_up_ne _ _ (by decide), va_up_ne _ _ (by decide), va_up_self]) (As := [.int (iI K), .int (iI ((to.toNat : Nat) : Int)), .int (iI 3)]) (rest := []) rfl (Nat.le_of_ble_eq_true rfl) ⟨by decide, by decide⟩ rfl ⟨by decide, by decide⟩ d_M_combine_363 (c_M_store2 hfl (X := (W9 20)) (Y := 1) (to := to.toNat) (kd := K) (s := (if bopB op (decide (mi1 = 1)) (decide (mi2 = 1)) = true then -1 else 1)) (code := 3) hN hD9 (rfl) (hW219) (by decide) ((lnw_le (by decide)).mpr (Nat.lt_trans hX2 (by decide))) ((lnw_le (by decide)).mpr (Nat.lt_trans hY2 (by decide))) (blen_le.mpr (Nat.lt_trans hX2 (by decide))) (blen_le.mpr (Nat.lt_trans hY2 (by decide))) ⟨by omega, by omega⟩ (((va_up_self ..)).trans hf79) ⟨by split <;> decide, by split <;> decide⟩ (by omega) (fun _ => Nat.one_dvd _) (fun e => absurd e (by split at e <;> omega))) (fun z9 F9 hq => ?_)
                        obtain ⟨hq9, hoff9⟩ := hq
                        replace hoff9 := offM_t hof9 hoff9
                        refine J_iret rfl rfl d_M_combine_366 ⟨by decide, by decide⟩ ?_
                        have hT : opV op (kd1, sg1, x1, y1) (kd2, sg2, x2, y2) = fin K (if bopB op (decide (mi1 = 1)) (decide (mi2 = 1)) = true then -1 else 1) ((W9 20)) (1) := by
                          unfold opV
                          rw [if_neg (by omega), if_neg (by omega), if_pos (by omega)]
                          rw [hK1 (by omega), show kd1 = 0 by omega]
                          exact hmx9
                        refine ⟨_, rfl, rfl, rfl, msto_i (by unfold combO; rw [if_pos hC, if_neg (fun h => hdv ⟨h.1, h.2.1⟩ (by rw [hrV2] at h; exact h.2.2)), hrV1, hrV2, hT]) rfl hc10 hq9, hoff9⟩
                      by_cases sw207_9 : op = 9
                      · refine J_tableIn (off := 145) (tgt := 352) d_M_combine_207 ⟨by omega, by omega⟩ (by omega) (by omega) (by rw [show (op - 0).toNat = 9 by omega]; rfl) (by decide) ?_
                        refine J_aload_n 0 d_M_combine_352 rfl rfl ?_
                        refine J_iload_n 1 d_M_combine_353 rfl rfl ?_
                        have hmx1 : (mi1 = 1 ∧ sg1 < 0) ∨ (mi1 = 0 ∧ 0 ≤ sg1) := hmi11
                        have hmx2 : (mi2 = 1 ∧ sg2 < 0) ∨ (mi2 = 0 ∧ 0 ≤ sg2) := hmi21
                        have hsz1 : sg1 = 0 ↔ x1 = 0 := hs01
                        have hsz2 : sg2 = 0 ↔ x2 = 0 := hs02
                        have hk10 : kd1 = 0 := by omega
                        have hk20 : kd2 = 0 := by omega
                        have hUx : U1 = x1 := (hU91 (by omega)).1
                        have hUx2 : U2 = x2 := (hU92 (by omega)).1
                        have hx120 := (hb21 (by omega)).1
                        have hx220 := (hb22 (by omega)).1
                        refine J_callVv cw_M_201 nh_M_mixed pn_M_mixed rfl rfl (by omega) (by rw [va_up_ne _ _ (by decide), va_up_ne _ _ (by decide), va_up_self]) (As := [.int (iI op)]) (rest := []) rfl (Nat.le_of_ble_eq_true rfl) ⟨by decide, by decide⟩ rfl ⟨by decide, by decide⟩ d_M_combine_354 (c_M_mixed hfl (a := U1) (c := U2) (xs := mi1) (ys := mi2) (op := op) (hh := bh8) (ll := bl9) (f := va_up (va_up (va_up f 10 0) 5 mi1) 6 mi2) (v := v) (V := va_up (va_up (va_up (va_up V 17 Y1) 16 U1) 19 Y2) 18 U2) (br := br) hN (by rw [va_up_ne _ _ (by decide), va_up_ne _ _ (by decide), va_up_self]) (by rw [va_up_ne _ _ (by decide), va_up_self]) (by rw [va_up_self]) hR10 hzz ((va_up_ne _ _ (by decide)).trans ((va_up_ne _ _ (by decide)).trans (va_up_self ..))) (va_up_self ..) (((va_up_ne _ _ (by decide)).trans (va_up_self ..))) ((va_up_self ..)) (by omega) (by omega) (by omega) (by omega) (by omega) ⟨by rw [hUx]; exact hx120, by rw [hUx2]; exact hx220⟩ hbr22 hbr23) (fun  F17 hq => ?_)
                        obtain ⟨bh21, bl22, W9, hR23, hfW9, hW209, hW219, eF17⟩ := hq
                        refine J_eqF (F2 := va_up (va_up (va_up F 98 (oM ad (va_up (va_up (va_up (va_up f 10 0) 5 mi1) 6 mi2) 7 (if bopB op (decide (mi1 = 1)) (decide (mi2 = 1)) = true then 1 else 0)) v)) 99 (.inl (g 0, 858, .inl (aI bh21)))) 100 (.inl (g 0, 33, .inl (aI bl22)))) (eF17.trans (Eq.trans (Eq.trans (congrArg (fun q : Nat → va_E => va_up q 100 (.inl (g 0, 33, .inl (aI bl22)))) (congrArg (fun q : Nat → va_E => va_up q 99 (.inl (g 0, 858, .inl (aI bh21)))) (up_in2 (by decide) (by decide)))) (congrArg (fun q : Nat → va_E => va_up q 100 (.inl (g 0, 33, .inl (aI bl22)))) (up_in1 (by decide)))) (up_in0))) ?_
                        rw [hUx, hUx2] at hW209
                        have hd1 : decide (mi1 = 1) = decide (sg1 < 0) := decide_eq_decide.mpr (by omega)
                        have hd2 : decide (mi2 = 1) = decide (sg2 < 0) := decide_eq_decide.mpr (by omega)
                        have hi1 : (if mi1 = 1 then x1 - 1 else x1) = if sg1 < 0 then x1 - 1 else x1 := by split <;> split <;> omega
                        have hi2 : (if mi2 = 1 then x2 - 1 else x2) = if sg2 < 0 then x2 - 1 else x2 := by split <;> split <;> omega
                        have hmx9 : mixF op sg1 x1 sg2 x2 = fin 0 (if bopB op (decide (mi1 = 1)) (decide (mi2 = 1)) = true then -1 else 1) (W9 20) 1 := by
                          unfold mixF
                          simp only []
                          rw [hW209, hi1, hi2, hd1, hd2]
                        have hmb9 : W9 20 < 2 ^ 500 := by
                          rw [hW209]
                          have hz := mixZ_lt (op := op) (nx := decide (mi1 = 1)) (ny := decide (mi2 = 1)) (X := if mi1 = 1 then x1 - 1 else x1) (Y := if mi2 = 1 then x2 - 1 else x2) (n := 120) (by split <;> omega) (by split <;> omega)
                          split
                          · exact Nat.lt_of_le_of_lt (Nat.succ_le_of_lt hz) (by decide)
                          · exact Nat.lt_trans hz (by decide)
                        have hf79 : (if bopB op (decide (mi1 = 1)) (decide (mi2 = 1)) = true then (1 : Int) else 0) = if (if bopB op (decide (mi1 = 1)) (decide (mi2 = 1)) = true then (-1 : Int) else 1) < 0 then 1 else 0 := by split <;> rfl
                        refine J_aload_n 0 d_M_combine_357 rfl rfl ?_
                        refine J_iload 5 d_M_combine_358 rfl ?_
                        refine J_iload 4 d_M_combine_360 rfl ?_
                        refine J_topi (r := ((to.toNat : Nat) : Int)) (congrArg iI (by omega)) ?_
                        refine J_iconst d_M_combine_362 ?_
                        have hX2 : (W9 20) < 2 ^ 500 := hmb9
                        have hY2 : 1 < 2 ^ 500 := by decide
                        have hD9 := mstd_3 hD0 (f' := va_up (va_up (va_up (va_up f 10 0) 5 mi1) 6 mi2) 7 (if bopB op (decide (mi1 = 1)) (decide (mi2 = 1)) = true then 1 else 0)) (v' := v) hR23 hzz (fun k hk => ((show (W9) k = W9 k from by rfl).trans ((hfW9 k (by omega)).trans (show (va_up (va_up (va_up (va_up V 17 Y1) 16 U1) 19 Y2) 18 U2) k = V k from by rw [va_up_ne _ _ (by omega), va_up_ne _ _ (by omega), va_up_ne _ _ (by omega), va_up_ne _ _ (by omega)])))) ((va_up_ne _ _ (by decide)).trans ((va_up_ne _ _ (by decide)).trans ((va_up_ne _ _ (by decide)).trans (va_up_ne _ _ (by decide))))) ((va_up_ne _ _ (by decide)).trans ((va_up_ne _ _ (by decide)).trans ((va_up_ne _ _ (by decide)).trans (va_up_ne _ _ (by decide)))))
                        have hof9 : offM F (va_up (va_up (va_up F 98 (oM ad (va_up (va_up (va_up (va_up f 10 0) 5 mi1) 6 mi2) 7 (if bopB op (decide (mi1 = 1)) (decide (mi2 = 1)) = true then 1 else 0)) v)) 99 (.inl (g 0, 858, .inl (aI bh21)))) 100 (.inl (g 0, 33, .inl (aI bl22)))) := offM_3
                        have hc10 : (va_up (va_up (va_up (va_up f 10 0) 5 mi1) 6 mi2) 7 (if bopB op (decide (mi1 = 1)) (decide (mi2 = 1)) = true then 1 else 0)) 10 = 0 := ((va_up_ne _ _ (by decide)).trans ((va_up_ne _ _ (by decide)).trans ((va_up_ne _ _ (by decide)).trans (va_up_self ..))))
                        refine J_callVi cw_M_142 nh_M_store pn_M_store rfl rfl (by omega) (by rw [va_up_ne _ _ (by decide), va_up_ne _ _ (by decide), va_up_self]) (As := [.int (iI K), .int (iI ((to.toNat : Nat) : Int)), .int (iI 3)]) (rest := []) rfl (Nat.le_of_ble_eq_true rfl) ⟨by decide, by decide⟩ rfl ⟨by decide, by decide⟩ d_M_combine_363 (c_M_store2 hfl (X := (W9 20)) (Y := 1) (to := to.toNat) (kd := K) (s := (if bopB op (decide (mi1 = 1)) (decide (mi2 = 1)) = true then -1 else 1)) (code := 3) hN hD9 (rfl) (hW219) (by decide) ((lnw_le (by decide)).mpr (Nat.lt_trans hX2 (by decide))) ((lnw_le (by decide)).mpr (Nat.lt_trans hY2 (by decide))) (blen_le.mpr (Nat.lt_trans hX2 (by decide))) (blen_le.mpr (Nat.lt_trans hY2 (by decide))) ⟨by omega, by omega⟩ (((va_up_self ..)).trans hf79) ⟨by split <;> decide, by split <;> decide⟩ (by omega) (fun _ => Nat.one_dvd _) (fun e => absurd e (by split at e <;> omega))) (fun z9 F9 hq => ?_)
                        obtain ⟨hq9, hoff9⟩ := hq
                        replace hoff9 := offM_t hof9 hoff9
                        refine J_iret rfl rfl d_M_combine_366 ⟨by decide, by decide⟩ ?_
                        have hT : opV op (kd1, sg1, x1, y1) (kd2, sg2, x2, y2) = fin K (if bopB op (decide (mi1 = 1)) (decide (mi2 = 1)) = true then -1 else 1) ((W9 20)) (1) := by
                          unfold opV
                          rw [if_neg (by omega), if_neg (by omega), if_pos (by omega)]
                          rw [hK1 (by omega), show kd1 = 0 by omega]
                          exact hmx9
                        refine ⟨_, rfl, rfl, rfl, msto_i (by unfold combO; rw [if_pos hC, if_neg (fun h => hdv ⟨h.1, h.2.1⟩ (by rw [hrV2] at h; exact h.2.2)), hrV1, hrV2, hT]) rfl hc10 hq9, hoff9⟩
                      by_cases sw207_10 : op = 10
                      · refine J_tableIn (off := 133) (tgt := 340) d_M_combine_207 ⟨by omega, by omega⟩ (by omega) (by omega) (by rw [show (op - 0).toNat = 10 by omega]; rfl) (by decide) ?_
                        refine J_aload_n 0 d_M_combine_340 rfl rfl ?_
                        refine J_aload_n 0 d_M_combine_341 rfl rfl ?_
                        refine J_iload_n 3 d_M_combine_342 rfl rfl ?_
                        refine J_topi (r := ((b.toNat : Nat) : Int)) (congrArg iI (by omega)) ?_
                        refine J_callVi cw_M_173 nh_M_small pn_M_small rfl rfl (by omega) (by rw [va_up_ne _ _ (by decide), va_up_ne _ _ (by decide), va_up_self]) (As := [.int (iI ((b.toNat : Nat) : Int))]) (rest := [.ref (ad 98)]) rfl (Nat.le_of_ble_eq_true rfl) ⟨by decide, by decide⟩ rfl ⟨by decide, by decide⟩ d_M_combine_343 (c_M_small hfl (r := b.toNat) (x := V (2 * b.toNat)) (kk := kk) (bb := bb) (rr := rr) (hh := bh8) (ll := bl9) (f := va_up (va_up (va_up f 10 0) 5 mi1) 6 mi2) (v := v) (V := va_up (va_up (va_up (va_up V 17 Y1) 16 U1) 19 Y2) 18 U2) (br := br) hN (by rw [va_up_ne _ _ (by decide), va_up_ne _ _ (by decide), va_up_self]) (by rw [va_up_ne _ _ (by decide), va_up_self]) (by rw [va_up_self]) hR10 hzz (by rw [va_up_ne _ _ (by decide), va_up_ne _ _ (by decide), va_up_ne _ _ (by decide)]; exact hKk) (by rw [va_up_ne _ _ (by decide), va_up_ne _ _ (by decide), va_up_ne _ _ (by decide)]; exact hBb) (by rw [va_up_ne _ _ (by decide), va_up_ne _ _ (by decide), va_up_ne _ _ (by decide)]; exact hRr) (by omega) (show (va_up (va_up (va_up (va_up V 17 Y1) 16 U1) 19 Y2) 18 U2) (2 * b.toNat) = _ from by rw [va_up_ne _ _ (by omega), va_up_ne _ _ (by omega), va_up_ne _ _ (by omega), va_up_ne _ _ (by omega)]) hVl (by omega)) (fun sm9 F18 hq => ?_)
                        obtain ⟨hsm9, eF18⟩ := hq
                        refine J_eqF eF18 ?_
                        refine J_topi (r := SM) (congrArg iI (hsm9.trans hSM.symm)) ?_
                        have hmx1 : (mi1 = 1 ∧ sg1 < 0) ∨ (mi1 = 0 ∧ 0 ≤ sg1) := hmi11
                        have hmx2 : (mi2 = 1 ∧ sg2 < 0) ∨ (mi2 = 0 ∧ 0 ≤ sg2) := hmi21
                        have hsz1 : sg1 = 0 ↔ x1 = 0 := hs01
                        have hsz2 : sg2 = 0 ↔ x2 = 0 := hs02
                        have hk10 : kd1 = 0 := by omega
                        have hUx : U1 = x1 := (hU91 (by omega)).1
                        have hx120 := (hb21 (by omega)).1
                        have hl9 : lnw 28 U1 ≤ 5 := by rw [hUx]; exact (lnw_le (by decide)).mpr (Nat.lt_trans hx120 (by decide))
                        refine J_callVv cw_M_198 nh_M_shift pn_M_shift rfl rfl (by omega) (by rw [va_up_ne _ _ (by decide), va_up_ne _ _ (by decide), va_up_self]) (As := [.int (iI SM)]) (rest := []) rfl (Nat.le_of_ble_eq_true rfl) ⟨by decide, by decide⟩ rfl ⟨by decide, by decide⟩ d_M_combine_346 (c_M_shift hfl (a := U1) (xs := mi1) (n := SM) (hh := bh8) (ll := bl9) (f := va_up (va_up (va_up f 10 0) 5 mi1) 6 mi2) (v := v) (V := va_up (va_up (va_up (va_up V 17 Y1) 16 U1) 19 Y2) 18 U2) (br := br) hN (by rw [va_up_ne _ _ (by decide), va_up_ne _ _ (by decide), va_up_self]) (by rw [va_up_ne _ _ (by decide), va_up_self]) (by rw [va_up_self]) hR10 hzz ((va_up_ne _ _ (by decide)).trans ((va_up_ne _ _ (by decide)).trans (va_up_self ..))) (((va_up_ne _ _ (by decide)).trans (va_up_self ..))) (by omega) (by omega) hl9) (fun  F19 hq => ?_)
                        obtain ⟨bh24, bl25, f9, W9, hR26, hfW9, hf89, hW209, hW219, hf79, eF19⟩ := hq
                        refine J_eqF (F2 := va_up (va_up (va_up F 98 (oM ad f9 v)) 99 (.inl (g 0, 858, .inl (aI bh24)))) 100 (.inl (g 0, 33, .inl (aI bl25)))) (eF19.trans (Eq.trans (Eq.trans (congrArg (fun q : Nat → va_E => va_up q 100 (.inl (g 0, 33, .inl (aI bl25)))) (congrArg (fun q : Nat → va_E => va_up q 99 (.inl (g 0, 858, .inl (aI bh24)))) (up_in2 (by decide) (by decide)))) (congrArg (fun q : Nat → va_E => va_up q 100 (.inl (g 0, 33, .inl (aI bl25)))) (up_in1 (by decide)))) (up_in0))) ?_
                        have hne9 : mi1 = 1 → U1 ≠ 0 := fun e => by omega
                        have hp9 := Nat.two_pow_pos (-SM).toNat
                        rw [Nat.one_mul] at hW209 hf79
                        rw [sh_flS hp9 (by omega) hne9, ite_self] at hf79
                        rw [sh_flM hp9 (by omega : (mi1 = 1 ∧ sg1 < 0) ∨ (mi1 = 0 ∧ 0 ≤ sg1)) hne9, hUx] at hW209
                        have hSMe : SM = sg2 * (x2 : Int) := by omega
                        have hsh9 : shF sg1 x1 (sg2 * (x2 : Int)) = fin 0 sg1 (W9 20) 1 := by unfold shF; rw [hW209, hSMe]
                        have hpb : ∀ e : Nat, e ≤ 120 → 2 ^ e ≤ 2 ^ 120 := fun e he => Nat.pow_le_pow_right (by decide) he
                        have hsb9 : W9 20 < 2 ^ 500 := by
                          rw [hW209]
                          split
                          · exact Nat.lt_of_lt_of_le (Nat.mul_lt_mul_of_lt_of_le hx120 (hpb _ (by omega)) (by decide)) (by decide)
                          · split
                            · exact Nat.lt_of_le_of_lt (Nat.div_le_self _ _) (Nat.lt_trans hx120 (by decide))
                            · exact Nat.lt_of_le_of_lt (Nat.succ_le_succ (Nat.div_le_self _ _)) (Nat.lt_of_lt_of_le (Nat.succ_lt_succ (Nat.lt_of_le_of_lt (Nat.sub_le _ _) hx120)) (by decide))
                        have hs09 : sg1 = 0 → W9 20 = 0 := fun e => by
                          rw [hW209, hs01.mp e, e, Nat.zero_mul, Nat.zero_div]
                          split
                          · rfl
                          · rw [if_pos (by decide)]
                        have hf7s : mi1 = if sg1 < 0 then 1 else 0 := hmi1
                        refine J_goto (tgt := 357) d_M_combine_349 (by decide) ?_
                        refine J_aload_n 0 d_M_combine_357 rfl rfl ?_
                        refine J_iload 5 d_M_combine_358 rfl ?_
                        refine J_iload 4 d_M_combine_360 rfl ?_
                        refine J_topi (r := ((to.toNat : Nat) : Int)) (congrArg iI (by omega)) ?_
                        refine J_iconst d_M_combine_362 ?_
                        have hX2 : (W9 20) < 2 ^ 500 := hsb9
                        have hY2 : 1 < 2 ^ 500 := by decide
                        have hD9 := mstd_3 hD0 (f' := f9) (v' := v) hR26 hzz (fun k hk => ((show (W9) k = W9 k from by rfl).trans ((hfW9 k (by omega)).trans (show (va_up (va_up (va_up (va_up V 17 Y1) 16 U1) 19 Y2) 18 U2) k = V k from by rw [va_up_ne _ _ (by omega), va_up_ne _ _ (by omega), va_up_ne _ _ (by omega), va_up_ne _ _ (by omega)])))) (((hf89 12 (by omega))).trans ((va_up_ne _ _ (by decide)).trans ((va_up_ne _ _ (by decide)).trans (va_up_ne _ _ (by decide))))) (((hf89 14 (by omega))).trans ((va_up_ne _ _ (by decide)).trans ((va_up_ne _ _ (by decide)).trans (va_up_ne _ _ (by decide)))))
                        have hof9 : offM F (va_up (va_up (va_up F 98 (oM ad f9 v)) 99 (.inl (g 0, 858, .inl (aI bh24)))) 100 (.inl (g 0, 33, .inl (aI bl25)))) := offM_3
                        have hc10 : (f9) 10 = 0 := (((hf89 10 (by omega))).trans ((va_up_ne _ _ (by decide)).trans ((va_up_ne _ _ (by decide)).trans (va_up_self ..))))
                        refine J_callVi cw_M_142 nh_M_store pn_M_store rfl rfl (by omega) (by rw [va_up_ne _ _ (by decide), va_up_ne _ _ (by decide), va_up_self]) (As := [.int (iI K), .int (iI ((to.toNat : Nat) : Int)), .int (iI 3)]) (rest := []) rfl (Nat.le_of_ble_eq_true rfl) ⟨by decide, by decide⟩ rfl ⟨by decide, by decide⟩ d_M_combine_363 (c_M_store2 hfl (X := (W9 20)) (Y := 1) (to := to.toNat) (kd := K) (s := sg1) (code := 3) hN hD9 (rfl) (hW219) (by decide) ((lnw_le (by decide)).mpr (Nat.lt_trans hX2 (by decide))) ((lnw_le (by decide)).mpr (Nat.lt_trans hY2 (by decide))) (blen_le.mpr (Nat.lt_trans hX2 (by decide))) (blen_le.mpr (Nat.lt_trans hY2 (by decide))) ⟨by omega, by omega⟩ ((hf79).trans hf7s) hs11 (by omega) (fun _ => Nat.one_dvd _) hs09) (fun z9 F9 hq => ?_)
                        obtain ⟨hq9, hoff9⟩ := hq
                        replace hoff9 := offM_t hof9 hoff9
                        refine J_iret rfl rfl d_M_combine_366 ⟨by decide, by decide⟩ ?_
                        have hT : opV op (kd1, sg1, x1, y1) (kd2, sg2, x2, y2) = fin K sg1 ((W9 20)) (1) := by
                          unfold opV
                          rw [if_neg (by omega), if_pos sw207_10]
                          rw [hK1 (by omega), show kd1 = 0 by omega]
                          exact hsh9
                        refine ⟨_, rfl, rfl, rfl, msto_i (by unfold combO; rw [if_pos hC, if_neg (fun h => hdv ⟨h.1, h.2.1⟩ (by rw [hrV2] at h; exact h.2.2)), hrV1, hrV2, hT]) rfl hc10 hq9, hoff9⟩
                      exact (by omega : False).elim
                    · exact absurd c187 (by omega)
                  · exact absurd c169 (by omega)
                · refine J_aload_n 0 d_M_combine_160 rfl rfl ?_
                  refine J_iload_n 2 d_M_combine_161 rfl rfl ?_
                  refine J_topi (r := ((a.toNat : Nat) : Int)) (congrArg iI (by omega)) ?_
                  refine J_iload_n 3 d_M_combine_162 rfl rfl ?_
                  refine J_topi (r := ((b.toNat : Nat) : Int)) (congrArg iI (by omega)) ?_
                  have hKm := hKab.1 (by omega)
                  have hkp9 : 0 ≤ kk a.toNat ∧ kk a.toNat ≤ 2 := by omega
                  have hkq9 : 0 ≤ kk b.toNat ∧ kk b.toNat ≤ 2 := by omega
                  refine J_callVv cw_M_185 nh_M_meet pn_M_meet rfl rfl (by omega) (by rw [va_up_ne _ _ (by decide), va_up_ne _ _ (by decide), va_up_self]) (As := [.int (iI ((a.toNat : Nat) : Int)), .int (iI ((b.toNat : Nat) : Int))]) (rest := []) rfl (Nat.le_of_ble_eq_true rfl) ⟨by decide, by decide⟩ rfl ⟨by decide, by decide⟩ d_M_combine_163 (c_M_meet hfl (p := a.toNat) (q := b.toNat) (a := U1) (b := Y1) (c := U2) (d := Y2) (kk := kk) (bb := bb) (rr := rr) (hh := bh8) (ll := bl9) (f := va_up (va_up (va_up f 10 0) 5 mi1) 6 mi2) (v := v) (V := va_up (va_up (va_up (va_up V 17 Y1) 16 U1) 19 Y2) 18 U2) (br := br) hN (by rw [va_up_ne _ _ (by decide), va_up_ne _ _ (by decide), va_up_self]) (by rw [va_up_ne _ _ (by decide), va_up_self]) (by rw [va_up_self]) hR10 hzz (by rw [va_up_ne _ _ (by decide), va_up_ne _ _ (by decide), va_up_ne _ _ (by decide)]; exact hKk) (by rw [va_up_ne _ _ (by decide), va_up_ne _ _ (by decide), va_up_ne _ _ (by decide)]; exact hBb) (by rw [va_up_ne _ _ (by decide), va_up_ne _ _ (by decide), va_up_ne _ _ (by decide)]; exact hRr) (by omega) (by omega) hkp9 hkq9 ((va_up_ne _ _ (by decide)).trans ((va_up_ne _ _ (by decide)).trans (va_up_self ..))) ((va_up_ne _ _ (by decide)).trans ((va_up_ne _ _ (by decide)).trans ((va_up_ne _ _ (by decide)).trans (va_up_self ..)))) (va_up_self ..) ((va_up_ne _ _ (by decide)).trans (va_up_self ..)) hUY1.1 hUY2.1 ⟨by omega, by omega, by omega, by omega⟩ ⟨blen_le.mpr (Nat.lt_trans hUY1.2.2.1 (by decide)), blen_le.mpr (Nat.lt_trans hUY1.2.2.2 (by decide)), blen_le.mpr (Nat.lt_trans hUY2.2.2.1 (by decide)), blen_le.mpr (Nat.lt_trans hUY2.2.2.2 (by decide))⟩) (fun  F20 hq => ?_)
                  obtain ⟨bh27, bl28, W, b9, hR29, hb9, hfW, hcs, eF20⟩ := hq
                  refine J_eqF (F2 := va_up (va_up (va_up F 98 (oM ad (va_up (va_up (va_up (va_up f 10 0) 5 mi1) 6 mi2) 8 b9) v)) 99 (.inl (g 0, 858, .inl (aI bh27)))) 100 (.inl (g 0, 33, .inl (aI bl28)))) (eF20.trans (Eq.trans (Eq.trans (congrArg (fun q : Nat → va_E => va_up q 100 (.inl (g 0, 33, .inl (aI bl28)))) (congrArg (fun q : Nat → va_E => va_up q 99 (.inl (g 0, 858, .inl (aI bh27)))) (up_in2 (by decide) (by decide)))) (congrArg (fun q : Nat → va_E => va_up q 100 (.inl (g 0, 33, .inl (aI bl28)))) (up_in1 (by decide)))) (up_in0))) ?_
                  replace hcs := meetP_mk (s1 := sg1) (s2 := sg2) hKm hkp9 hkq9 hUY1.1 hd01 hUY1.2.1 hs01 hUY2.1 hd02 hUY2.2.1 hs02 hUY1.2.2 hUY2.2.2 hcs
                  rw [hka1, hka2] at hcs hKm
                  refine J_iload_n 1 d_M_combine_166 rfl rfl ?_
                  refine J_bipush d_M_combine_167 (i8_ok (by decide)) ?_
                  refine J_if_icmpge (tgt := 185) d_M_combine_169 (by decide) hop ⟨by omega, by omega⟩ (fun c169 => ?_) (fun c169 => ?_)
                  · exact absurd c169 (by omega)
                  · refine J_aload_n 0 d_M_combine_172 rfl rfl ?_
                    refine gf_M_94 (by omega) (by rw [va_up_ne _ _ (by decide), va_up_ne _ _ (by decide), va_up_self]) rfl d_M_combine_173 ?_
                    refine J_topi (r := b9) (congrArg iI (va_up_self ..)) ?_
                    refine J_ifeq (tgt := 185) d_M_combine_176 (by decide) ⟨by omega, by omega⟩ (fun c176 => ?_) (fun c176 => ?_)
                    · obtain ⟨u9, d9, v9, e9, hrk, m1, m2, m3⟩ := meetP_0 hcs (by omega) hKm
                      obtain ⟨m11, m12, m13, m14, m15, m16⟩ := m1
                      obtain ⟨m21, m22, m23, m24, m25, m26⟩ := m2
                      have hl5 := lnw_154 m15
                      have hl6 := lnw_154 m16
                      have hl7 := lnw_154 m25
                      have hl8 := lnw_154 m26
                      have hsb1 : sbit mi1 sg1 := sbit_of hmi11
                      have hsb2 : sbit mi2 sg2 := sbit_of hmi21
                      have hu9 : sg1 = 0 ↔ u9 = 0 := hs01.trans m14
                      have hv9 : sg2 = 0 ↔ v9 = 0 := hs02.trans m24
                      have hopr : opV op (kd1, sg1, x1, y1) (kd2, sg2, x2, y2) = opF op K sg1 u9 d9 sg2 v9 e9 := by unfold opV; rw [if_neg (by omega), if_neg (by omega), if_neg (by omega)]; exact hrk op
                      have hd91 : K = 0 → d9 = 1 := fun e => (m3 (by omega)).1.trans (hk01 (by omega))
                      have he91 : K = 0 → e9 = 1 := fun e => (m3 (by omega)).2.trans (hk02 (by omega))
                      have hv0 : 3 ≤ op → v9 ≠ 0 := fun e => by have := hdv ⟨e, by omega⟩; omega
                      refine J_iload_n 1 d_M_combine_185 rfl rfl ?_
                      refine J_iconst d_M_combine_186 ?_
                      refine J_if_icmpne (tgt := 206) d_M_combine_187 (by decide) hop ⟨by omega, by omega⟩ (fun c187 => ?_) (fun c187 => ?_)
                      · refine J_iload_n 1 d_M_combine_206 rfl rfl ?_
                        by_cases sw207_0 : op = 0
                        · refine J_tableIn (off := 57) (tgt := 264) d_M_combine_207 ⟨by omega, by omega⟩ (by omega) (by omega) (by rw [show (op - 0).toNat = 0 by omega]; rfl) (by decide) ?_
                          refine J_aload_n 0 d_M_combine_264 rfl rfl ?_
                          refine J_callVv cw_M_170 nh_M_plus pn_M_plus rfl rfl (by omega) (by rw [va_up_ne _ _ (by decide), va_up_ne _ _ (by decide), va_up_self]) (As := []) (rest := []) rfl (Nat.le_of_ble_eq_true rfl) ⟨by decide, by decide⟩ rfl ⟨by decide, by decide⟩ d_M_combine_265 (c_M_plus hfl (a := (W 16)) (b := (W 17)) (c := (W 18)) (d := (W 19)) (xs := mi1) (ys := mi2) (hh := bh27) (ll := bl28) (f := va_up (va_up (va_up (va_up f 10 0) 5 mi1) 6 mi2) 8 b9) (v := v) (V := W) (br := br) hN (by rw [va_up_ne _ _ (by decide), va_up_ne _ _ (by decide), va_up_self]) (by rw [va_up_ne _ _ (by decide), va_up_self]) (by rw [va_up_self]) hR29 hzz (rfl) (rfl) (rfl) (rfl) (((va_up_ne _ _ (by decide)).trans ((va_up_ne _ _ (by decide)).trans (va_up_self ..)))) (((va_up_ne _ _ (by decide)).trans (va_up_self ..))) (by omega) (by omega) ⟨by omega, by omega, by omega⟩) (fun  F21 hq => ?_)
                          obtain ⟨bh30, bl31, hR32, eF21⟩ := hq
                          refine J_eqF (F2 := va_up (va_up (va_up F 98 (oM ad (va_up (va_up (va_up (va_up (va_up f 10 0) 5 mi1) 6 mi2) 8 b9) 7 (plS mi1 mi2 ((W 16) * (W 19)) ((W 18) * (W 17)))) v)) 99 (.inl (g 0, 858, .inl (aI bh30)))) 100 (.inl (g 0, 33, .inl (aI bl31)))) (eF21.trans (Eq.trans (Eq.trans (congrArg (fun q : Nat → va_E => va_up q 100 (.inl (g 0, 33, .inl (aI bl31)))) (congrArg (fun q : Nat → va_E => va_up q 99 (.inl (g 0, 858, .inl (aI bh30)))) (up_in2 (by decide) (by decide)))) (congrArg (fun q : Nat → va_E => va_up q 100 (.inl (g 0, 33, .inl (aI bl31)))) (up_in1 (by decide)))) (up_in0))) ?_
                          refine J_goto (tgt := 357) d_M_combine_268 (by decide) ?_
                          refine J_aload_n 0 d_M_combine_357 rfl rfl ?_
                          refine J_iload 5 d_M_combine_358 rfl ?_
                          refine J_iload 4 d_M_combine_360 rfl ?_
                          refine J_topi (r := ((to.toNat : Nat) : Int)) (congrArg iI (by omega)) ?_
                          refine J_iconst d_M_combine_362 ?_
                          have hX2 : plM mi1 mi2 ((W 16) * (W 19)) ((W 18) * (W 17)) < 2 ^ 500 := Nat.lt_of_le_of_lt plM_le (Nat.lt_of_lt_of_le (Nat.add_lt_add (Nat.lt_of_lt_of_le (Nat.mul_lt_mul'' m15 m26) (by decide)) (Nat.lt_of_lt_of_le (Nat.mul_lt_mul'' m25 m16) (by decide))) (by decide : 2 ^ 336 + 2 ^ 336 ≤ 2 ^ 500))
                          have hY2 : (W 17) * (W 19) < 2 ^ 500 := (Nat.lt_of_lt_of_le (Nat.mul_lt_mul'' m16 m26) (by decide))
                          have hD9 := mstd_3 hD0 (f' := va_up (va_up (va_up (va_up (va_up f 10 0) 5 mi1) 6 mi2) 8 b9) 7 (plS mi1 mi2 ((W 16) * (W 19)) ((W 18) * (W 17)))) (v' := v) hR32 hzz (fun k hk => ((show (va_up (va_up (va_up (va_up W 22 ((W 16) * (W 19))) 23 ((W 18) * (W 17))) 21 ((W 17) * (W 19))) 20 (plM mi1 mi2 ((W 16) * (W 19)) ((W 18) * (W 17)))) k = W k from by rw [va_up_ne _ _ (by omega), va_up_ne _ _ (by omega), va_up_ne _ _ (by omega), va_up_ne _ _ (by omega)]).trans ((hfW k (by omega)).trans (show (va_up (va_up (va_up (va_up V 17 Y1) 16 U1) 19 Y2) 18 U2) k = V k from by rw [va_up_ne _ _ (by omega), va_up_ne _ _ (by omega), va_up_ne _ _ (by omega), va_up_ne _ _ (by omega)])))) ((va_up_ne _ _ (by decide)).trans ((va_up_ne _ _ (by decide)).trans ((va_up_ne _ _ (by decide)).trans ((va_up_ne _ _ (by decide)).trans (va_up_ne _ _ (by decide)))))) ((va_up_ne _ _ (by decide)).trans ((va_up_ne _ _ (by decide)).trans ((va_up_ne _ _ (by decide)).trans ((va_up_ne _ _ (by decide)).trans (va_up_ne _ _ (by decide))))))
                          have hof9 : offM F (va_up (va_up (va_up F 98 (oM ad (va_up (va_up (va_up (va_up (va_up f 10 0) 5 mi1) 6 mi2) 8 b9) 7 (plS mi1 mi2 ((W 16) * (W 19)) ((W 18) * (W 17)))) v)) 99 (.inl (g 0, 858, .inl (aI bh30)))) 100 (.inl (g 0, 33, .inl (aI bl31)))) := offM_3
                          have hc10 : (va_up (va_up (va_up (va_up (va_up f 10 0) 5 mi1) 6 mi2) 8 b9) 7 (plS mi1 mi2 ((W 16) * (W 19)) ((W 18) * (W 17)))) 10 = 0 := ((va_up_ne _ _ (by decide)).trans ((va_up_ne _ _ (by decide)).trans ((va_up_ne _ _ (by decide)).trans ((va_up_ne _ _ (by decide)).trans (va_up_self ..)))))
                          refine J_callVi cw_M_142 nh_M_store pn_M_store rfl rfl (by omega) (by rw [va_up_ne _ _ (by decide), va_up_ne _ _ (by decide), va_up_self]) (As := [.int (iI K), .int (iI ((to.toNat : Nat) : Int)), .int (iI 3)]) (rest := []) rfl (Nat.le_of_ble_eq_true rfl) ⟨by decide, by decide⟩ rfl ⟨by decide, by decide⟩ d_M_combine_363 (c_M_store2 hfl (X := plM mi1 mi2 ((W 16) * (W 19)) ((W 18) * (W 17))) (Y := (W 17) * (W 19)) (to := to.toNat) (kd := K) (s := (if plS mi1 mi2 (W 16 * W 19) (W 18 * W 17) = 1 then -1 else 1)) (code := 3) hN hD9 ((va_up_self ..)) (((va_up_ne _ _ (by decide)).trans (va_up_self ..))) (Nat.mul_pos m12 m22) ((lnw_le (by decide)).mpr (Nat.lt_trans hX2 (by decide))) ((lnw_le (by decide)).mpr (Nat.lt_trans hY2 (by decide))) (blen_le.mpr (Nat.lt_trans hX2 (by decide))) (blen_le.mpr (Nat.lt_trans hY2 (by decide))) ⟨by omega, by omega⟩ (((va_up_self ..)).trans (hrs_s (plS_b (by omega) (by omega)))) ⟨by split <;> decide, by split <;> decide⟩ (by omega) (fun e => dvd_pl (Nat.mul_dvd_mul (dvd_of m11 (hd91 e)) (Nat.dvd_refl _)) (by rw [Nat.mul_comm (W 18)]; exact Nat.mul_dvd_mul (Nat.dvd_refl _) (dvd_of m21 (he91 e)))) (fun e => absurd e (by split at e <;> omega))) (fun z9 F9 hq => ?_)
                          obtain ⟨hq9, hoff9⟩ := hq
                          replace hoff9 := offM_t hof9 hoff9
                          refine J_iret rfl rfl d_M_combine_366 ⟨by decide, by decide⟩ ?_
                          have hT : opV op (kd1, sg1, x1, y1) (kd2, sg2, x2, y2) = fin K (if plS mi1 mi2 (W 16 * W 19) (W 18 * W 17) = 1 then -1 else 1) (plM mi1 mi2 ((W 16) * (W 19)) ((W 18) * (W 17))) ((W 17) * (W 19)) := by
                            rw [hopr, sw207_0]
                            exact (plus_fin m12 m22 m13 m23 m11 m21 hs11 (by omega) hsb1 hsb2 hu9 (by omega)).symm
                          refine ⟨_, rfl, rfl, rfl, msto_i (by unfold combO; rw [if_pos hC, if_neg (fun h => hdv ⟨h.1, h.2.1⟩ (by rw [hrV2] at h; exact h.2.2)), hrV1, hrV2, hT]) rfl hc10 hq9, hoff9⟩
                        by_cases sw207_2 : op = 2
                        · refine J_tableIn (off := 64) (tgt := 271) d_M_combine_207 ⟨by omega, by omega⟩ (by omega) (by omega) (by rw [show (op - 0).toNat = 2 by omega]; rfl) (by decide) ?_
                          refine J_aload_n 0 d_M_combine_271 rfl rfl ?_
                          refine J_callVv cw_M_188 nh_M_product pn_M_product rfl rfl (by omega) (by rw [va_up_ne _ _ (by decide), va_up_ne _ _ (by decide), va_up_self]) (As := []) (rest := []) rfl (Nat.le_of_ble_eq_true rfl) ⟨by decide, by decide⟩ rfl ⟨by decide, by decide⟩ d_M_combine_272 (c_M_product hfl (a := (W 16)) (b := (W 17)) (c := (W 18)) (d := (W 19)) (xs := mi1) (ys := mi2) (hh := bh27) (ll := bl28) (f := va_up (va_up (va_up (va_up f 10 0) 5 mi1) 6 mi2) 8 b9) (v := v) (V := W) (br := br) hN (by rw [va_up_ne _ _ (by decide), va_up_ne _ _ (by decide), va_up_self]) (by rw [va_up_ne _ _ (by decide), va_up_self]) (by rw [va_up_self]) hR29 hzz (rfl) (rfl) (rfl) (rfl) (((va_up_ne _ _ (by decide)).trans ((va_up_ne _ _ (by decide)).trans (va_up_self ..)))) (((va_up_ne _ _ (by decide)).trans (va_up_self ..))) (by omega) (by omega) ⟨by omega, by omega, by omega, by omega⟩) (fun  F22 hq => ?_)
                          obtain ⟨bh33, bl34, hR35, eF22⟩ := hq
                          refine J_eqF (F2 := va_up (va_up (va_up F 98 (oM ad (va_up (va_up (va_up (va_up (va_up f 10 0) 5 mi1) 6 mi2) 8 b9) 7 (if mi1 = mi2 then 0 else 1)) v)) 99 (.inl (g 0, 858, .inl (aI bh33)))) 100 (.inl (g 0, 33, .inl (aI bl34)))) (eF22.trans (Eq.trans (Eq.trans (congrArg (fun q : Nat → va_E => va_up q 100 (.inl (g 0, 33, .inl (aI bl34)))) (congrArg (fun q : Nat → va_E => va_up q 99 (.inl (g 0, 858, .inl (aI bh33)))) (up_in2 (by decide) (by decide)))) (congrArg (fun q : Nat → va_E => va_up q 100 (.inl (g 0, 33, .inl (aI bl34)))) (up_in1 (by decide)))) (up_in0))) ?_
                          refine J_goto (tgt := 357) d_M_combine_275 (by decide) ?_
                          refine J_aload_n 0 d_M_combine_357 rfl rfl ?_
                          refine J_iload 5 d_M_combine_358 rfl ?_
                          refine J_iload 4 d_M_combine_360 rfl ?_
                          refine J_topi (r := ((to.toNat : Nat) : Int)) (congrArg iI (by omega)) ?_
                          refine J_iconst d_M_combine_362 ?_
                          have hX2 : (W 16) * (W 18) < 2 ^ 500 := (Nat.lt_of_lt_of_le (Nat.mul_lt_mul'' m15 m25) (by decide))
                          have hY2 : (W 17) * (W 19) < 2 ^ 500 := (Nat.lt_of_lt_of_le (Nat.mul_lt_mul'' m16 m26) (by decide))
                          have hD9 := mstd_3 hD0 (f' := va_up (va_up (va_up (va_up (va_up f 10 0) 5 mi1) 6 mi2) 8 b9) 7 (if mi1 = mi2 then 0 else 1)) (v' := v) hR35 hzz (fun k hk => ((show (va_up (va_up W 20 ((W 16) * (W 18))) 21 ((W 17) * (W 19))) k = W k from by rw [va_up_ne _ _ (by omega), va_up_ne _ _ (by omega)]).trans ((hfW k (by omega)).trans (show (va_up (va_up (va_up (va_up V 17 Y1) 16 U1) 19 Y2) 18 U2) k = V k from by rw [va_up_ne _ _ (by omega), va_up_ne _ _ (by omega), va_up_ne _ _ (by omega), va_up_ne _ _ (by omega)])))) ((va_up_ne _ _ (by decide)).trans ((va_up_ne _ _ (by decide)).trans ((va_up_ne _ _ (by decide)).trans ((va_up_ne _ _ (by decide)).trans (va_up_ne _ _ (by decide)))))) ((va_up_ne _ _ (by decide)).trans ((va_up_ne _ _ (by decide)).trans ((va_up_ne _ _ (by decide)).trans ((va_up_ne _ _ (by decide)).trans (va_up_ne _ _ (by decide))))))
                          have hof9 : offM F (va_up (va_up (va_up F 98 (oM ad (va_up (va_up (va_up (va_up (va_up f 10 0) 5 mi1) 6 mi2) 8 b9) 7 (if mi1 = mi2 then 0 else 1)) v)) 99 (.inl (g 0, 858, .inl (aI bh33)))) 100 (.inl (g 0, 33, .inl (aI bl34)))) := offM_3
                          have hc10 : (va_up (va_up (va_up (va_up (va_up f 10 0) 5 mi1) 6 mi2) 8 b9) 7 (if mi1 = mi2 then 0 else 1)) 10 = 0 := ((va_up_ne _ _ (by decide)).trans ((va_up_ne _ _ (by decide)).trans ((va_up_ne _ _ (by decide)).trans ((va_up_ne _ _ (by decide)).trans (va_up_self ..)))))
                          refine J_callVi cw_M_142 nh_M_store pn_M_store rfl rfl (by omega) (by rw [va_up_ne _ _ (by decide), va_up_ne _ _ (by decide), va_up_self]) (As := [.int (iI K), .int (iI ((to.toNat : Nat) : Int)), .int (iI 3)]) (rest := []) rfl (Nat.le_of_ble_eq_true rfl) ⟨by decide, by decide⟩ rfl ⟨by decide, by decide⟩ d_M_combine_363 (c_M_store2 hfl (X := (W 16) * (W 18)) (Y := (W 17) * (W 19)) (to := to.toNat) (kd := K) (s := (if mi1 = mi2 then 1 else -1)) (code := 3) hN hD9 (((va_up_ne _ _ (by decide)).trans (va_up_self ..))) ((va_up_self ..)) (Nat.mul_pos m12 m22) ((lnw_le (by decide)).mpr (Nat.lt_trans hX2 (by decide))) ((lnw_le (by decide)).mpr (Nat.lt_trans hY2 (by decide))) (blen_le.mpr (Nat.lt_trans hX2 (by decide))) (blen_le.mpr (Nat.lt_trans hY2 (by decide))) ⟨by omega, by omega⟩ (((va_up_self ..)).trans hrs_x) ⟨by split <;> decide, by split <;> decide⟩ (by omega) (fun e => Nat.mul_dvd_mul (dvd_of m11 (hd91 e)) (dvd_of m21 (he91 e))) (fun e => absurd e (by split at e <;> omega))) (fun z9 F9 hq => ?_)
                          obtain ⟨hq9, hoff9⟩ := hq
                          replace hoff9 := offM_t hof9 hoff9
                          refine J_iret rfl rfl d_M_combine_366 ⟨by decide, by decide⟩ ?_
                          have hT : opV op (kd1, sg1, x1, y1) (kd2, sg2, x2, y2) = fin K (if mi1 = mi2 then 1 else -1) ((W 16) * (W 18)) ((W 17) * (W 19)) := by
                            rw [hopr, sw207_2]
                            exact (prod_fin m12 m22 m13 m23 m11 m21 hs11 hs12 hsb1 hsb2 hu9 hv9).symm
                          refine ⟨_, rfl, rfl, rfl, msto_i (by unfold combO; rw [if_pos hC, if_neg (fun h => hdv ⟨h.1, h.2.1⟩ (by rw [hrV2] at h; exact h.2.2)), hrV1, hrV2, hT]) rfl hc10 hq9, hoff9⟩
                        by_cases sw207_3 : op = 3
                        · refine J_tableIn (off := 71) (tgt := 278) d_M_combine_207 ⟨by omega, by omega⟩ (by omega) (by omega) (by rw [show (op - 0).toNat = 3 by omega]; rfl) (by decide) ?_
                          have hW18 : 0 < W 18 := Nat.pos_of_ne_zero (fun e => by rw [e, Nat.zero_mul] at m21; rcases Nat.mul_eq_zero.mp m21.symm with w | w; exact hv0 (by omega) w; omega)
                          refine J_aload_n 0 d_M_combine_278 rfl rfl ?_
                          refine J_callVv cw_M_164 nh_M_ratio pn_M_ratio rfl rfl (by omega) (by rw [va_up_ne _ _ (by decide), va_up_ne _ _ (by decide), va_up_self]) (As := []) (rest := []) rfl (Nat.le_of_ble_eq_true rfl) ⟨by decide, by decide⟩ rfl ⟨by decide, by decide⟩ d_M_combine_279 (c_M_ratio hfl (a := (W 16)) (b := (W 17)) (c := (W 18)) (d := (W 19)) (xs := mi1) (ys := mi2) (hh := bh27) (ll := bl28) (f := va_up (va_up (va_up (va_up f 10 0) 5 mi1) 6 mi2) 8 b9) (v := v) (V := W) (br := br) hN (by rw [va_up_ne _ _ (by decide), va_up_ne _ _ (by decide), va_up_self]) (by rw [va_up_ne _ _ (by decide), va_up_self]) (by rw [va_up_self]) hR29 hzz (rfl) (rfl) (rfl) (rfl) (((va_up_ne _ _ (by decide)).trans ((va_up_ne _ _ (by decide)).trans (va_up_self ..)))) (((va_up_ne _ _ (by decide)).trans (va_up_self ..))) (by omega) (by omega) ⟨by omega, by omega, by omega, by omega⟩) (fun  F23 hq => ?_)
                          obtain ⟨bh36, bl37, hR38, eF23⟩ := hq
                          refine J_eqF (F2 := va_up (va_up (va_up F 98 (oM ad (va_up (va_up (va_up (va_up (va_up f 10 0) 5 mi1) 6 mi2) 8 b9) 7 (if mi1 = mi2 then 0 else 1)) v)) 99 (.inl (g 0, 858, .inl (aI bh36)))) 100 (.inl (g 0, 33, .inl (aI bl37)))) (eF23.trans (Eq.trans (Eq.trans (congrArg (fun q : Nat → va_E => va_up q 100 (.inl (g 0, 33, .inl (aI bl37)))) (congrArg (fun q : Nat → va_E => va_up q 99 (.inl (g 0, 858, .inl (aI bh36)))) (up_in2 (by decide) (by decide)))) (congrArg (fun q : Nat → va_E => va_up q 100 (.inl (g 0, 33, .inl (aI bl37)))) (up_in1 (by decide)))) (up_in0))) ?_
                          refine J_iload 5 d_M_combine_282 rfl ?_
                          refine J_ifne (tgt := 357) d_M_combine_284 (by decide) ⟨by omega, by omega⟩ (fun c284 => ?_) (fun c284 => ?_)
                          · refine J_aload_n 0 d_M_combine_357 rfl rfl ?_
                            refine J_iload 5 d_M_combine_358 rfl ?_
                            refine J_iload 4 d_M_combine_360 rfl ?_
                            refine J_topi (r := ((to.toNat : Nat) : Int)) (congrArg iI (by omega)) ?_
                            refine J_iconst d_M_combine_362 ?_
                            have hX2 : (W 16) * (W 19) < 2 ^ 500 := (Nat.lt_of_lt_of_le (Nat.mul_lt_mul'' m15 m26) (by decide))
                            have hY2 : (W 17) * (W 18) < 2 ^ 500 := (Nat.lt_of_lt_of_le (Nat.mul_lt_mul'' m16 m25) (by decide))
                            have hD9 := mstd_3 hD0 (f' := va_up (va_up (va_up (va_up (va_up f 10 0) 5 mi1) 6 mi2) 8 b9) 7 (if mi1 = mi2 then 0 else 1)) (v' := v) hR38 hzz (fun k hk => ((show (va_up (va_up W 20 ((W 16) * (W 19))) 21 ((W 17) * (W 18))) k = W k from by rw [va_up_ne _ _ (by omega), va_up_ne _ _ (by omega)]).trans ((hfW k (by omega)).trans (show (va_up (va_up (va_up (va_up V 17 Y1) 16 U1) 19 Y2) 18 U2) k = V k from by rw [va_up_ne _ _ (by omega), va_up_ne _ _ (by omega), va_up_ne _ _ (by omega), va_up_ne _ _ (by omega)])))) ((va_up_ne _ _ (by decide)).trans ((va_up_ne _ _ (by decide)).trans ((va_up_ne _ _ (by decide)).trans ((va_up_ne _ _ (by decide)).trans (va_up_ne _ _ (by decide)))))) ((va_up_ne _ _ (by decide)).trans ((va_up_ne _ _ (by decide)).trans ((va_up_ne _ _ (by decide)).trans ((va_up_ne _ _ (by decide)).trans (va_up_ne _ _ (by decide))))))
                            have hof9 : offM F (va_up (va_up (va_up F 98 (oM ad (va_up (va_up (va_up (va_up (va_up f 10 0) 5 mi1) 6 mi2) 8 b9) 7 (if mi1 = mi2 then 0 else 1)) v)) 99 (.inl (g 0, 858, .inl (aI bh36)))) 100 (.inl (g 0, 33, .inl (aI bl37)))) := offM_3
                            have hc10 : (va_up (va_up (va_up (va_up (va_up f 10 0) 5 mi1) 6 mi2) 8 b9) 7 (if mi1 = mi2 then 0 else 1)) 10 = 0 := ((va_up_ne _ _ (by decide)).trans ((va_up_ne _ _ (by decide)).trans ((va_up_ne _ _ (by decide)).trans ((va_up_ne _ _ (by decide)).trans (va_up_self ..)))))
                            refine J_callVi cw_M_142 nh_M_store pn_M_store rfl rfl (by omega) (by rw [va_up_ne _ _ (by decide), va_up_ne _ _ (by decide), va_up_self]) (As := [.int (iI K), .int (iI ((to.toNat : Nat) : Int)), .int (iI 3)]) (rest := []) rfl (Nat.le_of_ble_eq_true rfl) ⟨by decide, by decide⟩ rfl ⟨by decide, by decide⟩ d_M_combine_363 (c_M_store2 hfl (X := (W 16) * (W 19)) (Y := (W 17) * (W 18)) (to := to.toNat) (kd := K) (s := (if mi1 = mi2 then 1 else -1)) (code := 3) hN hD9 (((va_up_ne _ _ (by decide)).trans (va_up_self ..))) ((va_up_self ..)) (Nat.mul_pos m12 hW18) ((lnw_le (by decide)).mpr (Nat.lt_trans hX2 (by decide))) ((lnw_le (by decide)).mpr (Nat.lt_trans hY2 (by decide))) (blen_le.mpr (Nat.lt_trans hX2 (by decide))) (blen_le.mpr (Nat.lt_trans hY2 (by decide))) ⟨by omega, by omega⟩ (((va_up_self ..)).trans hrs_x) ⟨by split <;> decide, by split <;> decide⟩ (by omega) (fun e => absurd e (by omega)) (fun e => absurd e (by split at e <;> omega))) (fun z9 F9 hq => ?_)
                            obtain ⟨hq9, hoff9⟩ := hq
                            replace hoff9 := offM_t hof9 hoff9
                            refine J_iret rfl rfl d_M_combine_366 ⟨by decide, by decide⟩ ?_
                            have hT : opV op (kd1, sg1, x1, y1) (kd2, sg2, x2, y2) = fin K (if mi1 = mi2 then 1 else -1) ((W 16) * (W 19)) ((W 17) * (W 18)) := by
                              rw [hopr, sw207_3]
                              have hk9 : (if K = 0 then 2 else K) = K := by split <;> omega
                              rw [rat_fin m12 hW18 m13 (Nat.pos_of_ne_zero (hv0 (by omega))) m11 m21 hs11 hs12 hsb1 hsb2 hu9 hv9]
                              show fin (if K = 0 then 2 else K) _ _ _ = _
                              rw [hk9]
                            refine ⟨_, rfl, rfl, rfl, msto_i (by unfold combO; rw [if_pos hC, if_neg (fun h => hdv ⟨h.1, h.2.1⟩ (by rw [hrV2] at h; exact h.2.2)), hrV1, hrV2, hT]) rfl hc10 hq9, hoff9⟩
                          · refine J_iconst d_M_combine_287 ?_
                            refine J_istore (lv' := [(5, .int (iI 2)), (0, .ref (ad 98)), (1, .int (iI op)), (2, .int (iI a)), (3, .int (iI b)), (4, .int (iI to))]) d_M_combine_288 (by decide) rfl ?_
                            refine J_goto (tgt := 357) d_M_combine_290 (by decide) ?_
                            refine J_aload_n 1 d_M_combine_357 rfl rfl ?_
                            refine J_iload 0 d_M_combine_358 rfl ?_
                            refine J_iload 5 d_M_combine_360 rfl ?_
                            refine J_topi (r := ((to.toNat : Nat) : Int)) (congrArg iI (by omega)) ?_
                            refine J_iconst d_M_combine_362 ?_
                            have hX2 : (W 16) * (W 19) < 2 ^ 500 := (Nat.lt_of_lt_of_le (Nat.mul_lt_mul'' m15 m26) (by decide))
                            have hY2 : (W 17) * (W 18) < 2 ^ 500 := (Nat.lt_of_lt_of_le (Nat.mul_lt_mul'' m16 m25) (by decide))
                            have hD9 := mstd_3 hD0 (f' := va_up (va_up (va_up (va_up (va_up f 10 0) 5 mi1) 6 mi2) 8 b9) 7 (if mi1 = mi2 then 0 else 1)) (v' := v) hR38 hzz (fun k hk => ((show (va_up (va_up W 20 ((W 16) * (W 19))) 21 ((W 17) * (W 18))) k = W k from by rw [va_up_ne _ _ (by omega), va_up_ne _ _ (by omega)]).trans ((hfW k (by omega)).trans (show (va_up (va_up (va_up (va_up V 17 Y1) 16 U1) 19 Y2) 18 U2) k = V k from by rw [va_up_ne _ _ (by omega), va_up_ne _ _ (by omega), va_up_ne _ _ (by omega), va_up_ne _ _ (by omega)])))) ((va_up_ne _ _ (by decide)).trans ((va_up_ne _ _ (by decide)).trans ((va_up_ne _ _ (by decide)).trans ((va_up_ne _ _ (by decide)).trans (va_up_ne _ _ (by decide)))))) ((va_up_ne _ _ (by decide)).trans ((va_up_ne _ _ (by decide)).trans ((va_up_ne _ _ (by decide)).trans ((va_up_ne _ _ (by decide)).trans (va_up_ne _ _ (by decide))))))
                            have hof9 : offM F (va_up (va_up (va_up F 98 (oM ad (va_up (va_up (va_up (va_up (va_up f 10 0) 5 mi1) 6 mi2) 8 b9) 7 (if mi1 = mi2 then 0 else 1)) v)) 99 (.inl (g 0, 858, .inl (aI bh36)))) 100 (.inl (g 0, 33, .inl (aI bl37)))) := offM_3
                            have hc10 : (va_up (va_up (va_up (va_up (va_up f 10 0) 5 mi1) 6 mi2) 8 b9) 7 (if mi1 = mi2 then 0 else 1)) 10 = 0 := ((va_up_ne _ _ (by decide)).trans ((va_up_ne _ _ (by decide)).trans ((va_up_ne _ _ (by decide)).trans ((va_up_ne _ _ (by decide)).trans (va_up_self ..)))))
                            refine J_callVi cw_M_142 nh_M_store pn_M_store rfl rfl (by omega) (by rw [va_up_ne _ _ (by decide), va_up_ne _ _ (by decide), va_up_self]) (As := [.int (iI 2), .int (iI ((to.toNat : Nat) : Int)), .int (iI 3)]) (rest := []) rfl (Nat.le_of_ble_eq_true rfl) ⟨by decide, by decide⟩ rfl ⟨by decide, by decide⟩ d_M_combine_363 (c_M_store2 hfl (X := (W 16) * (W 19)) (Y := (W 17) * (W 18)) (to := to.toNat) (kd := 2) (s := (if mi1 = mi2 then 1 else -1)) (code := 3) hN hD9 (((va_up_ne _ _ (by decide)).trans (va_up_self ..))) ((va_up_self ..)) (Nat.mul_pos m12 hW18) ((lnw_le (by decide)).mpr (Nat.lt_trans hX2 (by decide))) ((lnw_le (by decide)).mpr (Nat.lt_trans hY2 (by decide))) (blen_le.mpr (Nat.lt_trans hX2 (by decide))) (blen_le.mpr (Nat.lt_trans hY2 (by decide))) ⟨by omega, by omega⟩ (((va_up_self ..)).trans hrs_x) ⟨by split <;> decide, by split <;> decide⟩ (by omega) (fun e => absurd e (by omega)) (fun e => absurd e (by split at e <;> omega))) (fun z9 F9 hq => ?_)
                            obtain ⟨hq9, hoff9⟩ := hq
                            replace hoff9 := offM_t hof9 hoff9
                            refine J_iret rfl rfl d_M_combine_366 ⟨by decide, by decide⟩ ?_
                            have hT : opV op (kd1, sg1, x1, y1) (kd2, sg2, x2, y2) = fin 2 (if mi1 = mi2 then 1 else -1) ((W 16) * (W 19)) ((W 17) * (W 18)) := by
                              rw [hopr, sw207_3]
                              have hk9 : (if K = 0 then 2 else K) = 2 := by split <;> omega
                              rw [rat_fin m12 hW18 m13 (Nat.pos_of_ne_zero (hv0 (by omega))) m11 m21 hs11 hs12 hsb1 hsb2 hu9 hv9]
                              show fin (if K = 0 then 2 else K) _ _ _ = _
                              rw [hk9]
                            refine ⟨_, rfl, rfl, rfl, msto_i (by unfold combO; rw [if_pos hC, if_neg (fun h => hdv ⟨h.1, h.2.1⟩ (by rw [hrV2] at h; exact h.2.2)), hrV1, hrV2, hT]) rfl hc10 hq9, hoff9⟩
                        by_cases sw207_4 : op = 4
                        · refine J_tableIn (off := 86) (tgt := 293) d_M_combine_207 ⟨by omega, by omega⟩ (by omega) (by omega) (by rw [show (op - 0).toNat = 4 by omega]; rfl) (by decide) ?_
                          have hW18 : 0 < W 18 := Nat.pos_of_ne_zero (fun e => by rw [e, Nat.zero_mul] at m21; rcases Nat.mul_eq_zero.mp m21.symm with w | w; exact hv0 (by omega) w; omega)
                          refine J_aload_n 0 d_M_combine_293 rfl rfl ?_
                          refine J_callVv cw_M_164 nh_M_ratio pn_M_ratio rfl rfl (by omega) (by rw [va_up_ne _ _ (by decide), va_up_ne _ _ (by decide), va_up_self]) (As := []) (rest := []) rfl (Nat.le_of_ble_eq_true rfl) ⟨by decide, by decide⟩ rfl ⟨by decide, by decide⟩ d_M_combine_294 (c_M_ratio hfl (a := (W 16)) (b := (W 17)) (c := (W 18)) (d := (W 19)) (xs := mi1) (ys := mi2) (hh := bh27) (ll := bl28) (f := va_up (va_up (va_up (va_up f 10 0) 5 mi1) 6 mi2) 8 b9) (v := v) (V := W) (br := br) hN (by rw [va_up_ne _ _ (by decide), va_up_ne _ _ (by decide), va_up_self]) (by rw [va_up_ne _ _ (by decide), va_up_self]) (by rw [va_up_self]) hR29 hzz (rfl) (rfl) (rfl) (rfl) (((va_up_ne _ _ (by decide)).trans ((va_up_ne _ _ (by decide)).trans (va_up_self ..)))) (((va_up_ne _ _ (by decide)).trans (va_up_self ..))) (by omega) (by omega) ⟨by omega, by omega, by omega, by omega⟩) (fun  F24 hq => ?_)
                          obtain ⟨bh39, bl40, hR41, eF24⟩ := hq
                          refine J_eqF (F2 := va_up (va_up (va_up F 98 (oM ad (va_up (va_up (va_up (va_up (va_up f 10 0) 5 mi1) 6 mi2) 8 b9) 7 (if mi1 = mi2 then 0 else 1)) v)) 99 (.inl (g 0, 858, .inl (aI bh39)))) 100 (.inl (g 0, 33, .inl (aI bl40)))) (eF24.trans (Eq.trans (Eq.trans (congrArg (fun q : Nat → va_E => va_up q 100 (.inl (g 0, 33, .inl (aI bl40)))) (congrArg (fun q : Nat → va_E => va_up q 99 (.inl (g 0, 858, .inl (aI bh39)))) (up_in2 (by decide) (by decide)))) (congrArg (fun q : Nat → va_E => va_up q 100 (.inl (g 0, 33, .inl (aI bl40)))) (up_in1 (by decide)))) (up_in0))) ?_
                          refine J_aload_n 0 d_M_combine_297 rfl rfl ?_
                          refine J_callVv cw_M_167 nh_M_floor pn_M_floor rfl rfl (by omega) (by rw [va_up_ne _ _ (by decide), va_up_ne _ _ (by decide), va_up_self]) (As := []) (rest := []) rfl (Nat.le_of_ble_eq_true rfl) ⟨by decide, by decide⟩ rfl ⟨by decide, by decide⟩ d_M_combine_298 (c_M_floor hfl (a := (W 16) * (W 19)) (b := (W 17) * (W 18)) (rs := if mi1 = mi2 then 0 else 1) (hh := bh39) (ll := bl40) (f := va_up (va_up (va_up (va_up (va_up f 10 0) 5 mi1) 6 mi2) 8 b9) 7 (if mi1 = mi2 then 0 else 1)) (v := v) (V := va_up (va_up W 20 ((W 16) * (W 19))) 21 ((W 17) * (W 18))) (br := br) hN (by rw [va_up_ne _ _ (by decide), va_up_ne _ _ (by decide), va_up_self]) (by rw [va_up_ne _ _ (by decide), va_up_self]) (by rw [va_up_self]) hR41 hzz (((va_up_ne _ _ (by decide)).trans (va_up_self ..))) ((va_up_self ..)) ((va_up_self ..)) (by split <;> omega) (Nat.ne_of_gt (Nat.mul_pos m12 hW18)) (Nat.le_trans lnw_mul8 (by omega)) (Nat.le_trans lnw_mul8 (by omega))) (fun  F25 hq => ?_)
                          obtain ⟨bh42, bl43, W44, hR45, hf46, w47, w48, eF25⟩ := hq
                          refine J_eqF (F2 := va_up (va_up (va_up F 98 (oM ad (va_up (va_up (va_up (va_up (va_up f 10 0) 5 mi1) 6 mi2) 8 b9) 7 (flS (if mi1 = mi2 then 0 else 1) ((W 16) * (W 19)) ((W 17) * (W 18)))) v)) 99 (.inl (g 0, 858, .inl (aI bh42)))) 100 (.inl (g 0, 33, .inl (aI bl43)))) ((eF25.trans (congrArg (fun qq : Nat → Int => va_up (va_up (va_up (va_up (va_up (va_up F 98 (oM ad (va_up (va_up (va_up (va_up (va_up f 10 0) 5 mi1) 6 mi2) 8 b9) 7 (if mi1 = mi2 then 0 else 1)) v)) 99 (.inl (g 0, 858, .inl (aI bh39)))) 100 (.inl (g 0, 33, .inl (aI bl40)))) 98 (oM ad qq v)) 99 (.inl (g 0, 858, .inl (aI bh42)))) 100 (.inl (g 0, 33, .inl (aI bl43)))) (up_in0))).trans (Eq.trans (Eq.trans (congrArg (fun q : Nat → va_E => va_up q 100 (.inl (g 0, 33, .inl (aI bl43)))) (congrArg (fun q : Nat → va_E => va_up q 99 (.inl (g 0, 858, .inl (aI bh42)))) (up_in2 (by decide) (by decide)))) (congrArg (fun q : Nat → va_E => va_up q 100 (.inl (g 0, 33, .inl (aI bl43)))) (up_in1 (by decide)))) (up_in0))) ?_
                          refine J_iload 5 d_M_combine_301 rfl ?_
                          refine J_iconst d_M_combine_303 ?_
                          refine J_if_icmpne (tgt := 357) d_M_combine_304 (by decide) ⟨by omega, by omega⟩ ⟨by omega, by omega⟩ (fun c304 => ?_) (fun c304 => ?_)
                          · refine J_aload_n 0 d_M_combine_357 rfl rfl ?_
                            refine J_iload 5 d_M_combine_358 rfl ?_
                            refine J_iload 4 d_M_combine_360 rfl ?_
                            refine J_topi (r := ((to.toNat : Nat) : Int)) (congrArg iI (by omega)) ?_
                            refine J_iconst d_M_combine_362 ?_
                            have hX2 : flM (if mi1 = mi2 then 0 else 1) ((W 16) * (W 19)) ((W 17) * (W 18)) < 2 ^ 500 := Nat.lt_of_le_of_lt flM_le (Nat.lt_of_le_of_lt (Nat.succ_le_of_lt (Nat.lt_of_lt_of_le (Nat.mul_lt_mul'' m15 m26) (by decide : 2 ^ 168 * 2 ^ 168 ≤ 2 ^ 336))) (by decide))
                            have hY2 : 1 < 2 ^ 500 := by decide
                            have hD9 := mstd_3 hD0 (f' := va_up (va_up (va_up (va_up (va_up f 10 0) 5 mi1) 6 mi2) 8 b9) 7 (flS (if mi1 = mi2 then 0 else 1) ((W 16) * (W 19)) ((W 17) * (W 18)))) (v' := v) hR45 hzz (fun k hk => ((show (W44) k = W44 k from by rfl).trans ((hf46 k (by omega) (by omega) (by omega) (by omega) (by omega) (by omega)).trans ((show (va_up (va_up W 20 ((W 16) * (W 19))) 21 ((W 17) * (W 18))) k = W k from by rw [va_up_ne _ _ (by omega), va_up_ne _ _ (by omega)]).trans ((hfW k (by omega)).trans (show (va_up (va_up (va_up (va_up V 17 Y1) 16 U1) 19 Y2) 18 U2) k = V k from by rw [va_up_ne _ _ (by omega), va_up_ne _ _ (by omega), va_up_ne _ _ (by omega), va_up_ne _ _ (by omega)])))))) ((va_up_ne _ _ (by decide)).trans ((va_up_ne _ _ (by decide)).trans ((va_up_ne _ _ (by decide)).trans ((va_up_ne _ _ (by decide)).trans (va_up_ne _ _ (by decide)))))) ((va_up_ne _ _ (by decide)).trans ((va_up_ne _ _ (by decide)).trans ((va_up_ne _ _ (by decide)).trans ((va_up_ne _ _ (by decide)).trans (va_up_ne _ _ (by decide))))))
                            have hof9 : offM F (va_up (va_up (va_up F 98 (oM ad (va_up (va_up (va_up (va_up (va_up f 10 0) 5 mi1) 6 mi2) 8 b9) 7 (flS (if mi1 = mi2 then 0 else 1) ((W 16) * (W 19)) ((W 17) * (W 18)))) v)) 99 (.inl (g 0, 858, .inl (aI bh42)))) 100 (.inl (g 0, 33, .inl (aI bl43)))) := offM_3
                            have hc10 : (va_up (va_up (va_up (va_up (va_up f 10 0) 5 mi1) 6 mi2) 8 b9) 7 (flS (if mi1 = mi2 then 0 else 1) ((W 16) * (W 19)) ((W 17) * (W 18)))) 10 = 0 := ((va_up_ne _ _ (by decide)).trans ((va_up_ne _ _ (by decide)).trans ((va_up_ne _ _ (by decide)).trans ((va_up_ne _ _ (by decide)).trans (va_up_self ..)))))
                            refine J_callVi cw_M_142 nh_M_store pn_M_store rfl rfl (by omega) (by rw [va_up_ne _ _ (by decide), va_up_ne _ _ (by decide), va_up_self]) (As := [.int (iI K), .int (iI ((to.toNat : Nat) : Int)), .int (iI 3)]) (rest := []) rfl (Nat.le_of_ble_eq_true rfl) ⟨by decide, by decide⟩ rfl ⟨by decide, by decide⟩ d_M_combine_363 (c_M_store2 hfl (X := flM (if mi1 = mi2 then 0 else 1) ((W 16) * (W 19)) ((W 17) * (W 18))) (Y := 1) (to := to.toNat) (kd := K) (s := (if flS (if mi1 = mi2 then 0 else 1) (W 16 * W 19) (W 17 * W 18) = 1 then -1 else 1)) (code := 3) hN hD9 (w47) (w48) (by decide) ((lnw_le (by decide)).mpr (Nat.lt_trans hX2 (by decide))) ((lnw_le (by decide)).mpr (Nat.lt_trans hY2 (by decide))) (blen_le.mpr (Nat.lt_trans hX2 (by decide))) (blen_le.mpr (Nat.lt_trans hY2 (by decide))) ⟨by omega, by omega⟩ (((va_up_self ..)).trans (hrs_s (flS_b (by split <;> omega)))) (pm_r _) (by omega) (fun _ => Nat.one_dvd _) (fun e => absurd e (by split at e <;> omega))) (fun z9 F9 hq => ?_)
                            obtain ⟨hq9, hoff9⟩ := hq
                            replace hoff9 := offM_t hof9 hoff9
                            refine J_iret rfl rfl d_M_combine_366 ⟨by decide, by decide⟩ ?_
                            have hT : opV op (kd1, sg1, x1, y1) (kd2, sg2, x2, y2) = fin K (if flS (if mi1 = mi2 then 0 else 1) (W 16 * W 19) (W 17 * W 18) = 1 then -1 else 1) (flM (if mi1 = mi2 then 0 else 1) ((W 16) * (W 19)) ((W 17) * (W 18))) (1) := by
                              rw [hopr, sw207_4]
                              have hk9 : (if K = 1 then 0 else K) = K := by split <;> omega
                              rw [floor_fin (Nat.mul_pos m12 hW18) (Nat.mul_pos m13 (Nat.pos_of_ne_zero (hv0 (by omega)))) (rat_cross m11 m21) hs11 hs12 hsb1 hsb2 (hu9.trans (by rw [Nat.mul_eq_zero]; exact ⟨Or.inl, fun w => w.elim id (fun w => absurd w (Nat.ne_of_gt m23))⟩)) (fun e => hv0 (by omega) (hv9.mp e))]
                              show fin (if K = 1 then 0 else K) _ _ _ = _
                              rw [hk9]
                            refine ⟨_, rfl, rfl, rfl, msto_i (by unfold combO; rw [if_pos hC, if_neg (fun h => hdv ⟨h.1, h.2.1⟩ (by rw [hrV2] at h; exact h.2.2)), hrV1, hrV2, hT]) rfl hc10 hq9, hoff9⟩
                          · refine J_iconst d_M_combine_307 ?_
                            refine J_istore (lv' := [(5, .int (iI 0)), (0, .ref (ad 98)), (1, .int (iI op)), (2, .int (iI a)), (3, .int (iI b)), (4, .int (iI to))]) d_M_combine_308 (by decide) rfl ?_
                            refine J_goto (tgt := 357) d_M_combine_310 (by decide) ?_
                            refine J_aload_n 1 d_M_combine_357 rfl rfl ?_
                            refine J_iload 0 d_M_combine_358 rfl ?_
                            refine J_iload 5 d_M_combine_360 rfl ?_
                            refine J_topi (r := ((to.toNat : Nat) : Int)) (congrArg iI (by omega)) ?_
                            refine J_iconst d_M_combine_362 ?_
                            have hX2 : flM (if mi1 = mi2 then 0 else 1) ((W 16) * (W 19)) ((W 17) * (W 18)) < 2 ^ 500 := Nat.lt_of_le_of_lt flM_le (Nat.lt_of_le_of_lt (Nat.succ_le_of_lt (Nat.lt_of_lt_of_le (Nat.mul_lt_mul'' m15 m26) (by decide : 2 ^ 168 * 2 ^ 168 ≤ 2 ^ 336))) (by decide))
                            have hY2 : 1 < 2 ^ 500 := by decide
                            have hD9 := mstd_3 hD0 (f' := va_up (va_up (va_up (va_up (va_up f 10 0) 5 mi1) 6 mi2) 8 b9) 7 (flS (if mi1 = mi2 then 0 else 1) ((W 16) * (W 19)) ((W 17) * (W 18)))) (v' := v) hR45 hzz (fun k hk => ((show (W44) k = W44 k from by rfl).trans ((hf46 k (by omega) (by omega) (by omega) (by omega) (by omega) (by omega)).trans ((show (va_up (va_up W 20 ((W 16) * (W 19))) 21 ((W 17) * (W 18))) k = W k from by rw [va_up_ne _ _ (by omega), va_up_ne _ _ (by omega)]).trans ((hfW k (by omega)).trans (show (va_up (va_up (va_up (va_up V 17 Y1) 16 U1) 19 Y2) 18 U2) k = V k from by rw [va_up_ne _ _ (by omega), va_up_ne _ _ (by omega), va_up_ne _ _ (by omega), va_up_ne _ _ (by omega)])))))) ((va_up_ne _ _ (by decide)).trans ((va_up_ne _ _ (by decide)).trans ((va_up_ne _ _ (by decide)).trans ((va_up_ne _ _ (by decide)).trans (va_up_ne _ _ (by decide)))))) ((va_up_ne _ _ (by decide)).trans ((va_up_ne _ _ (by decide)).trans ((va_up_ne _ _ (by decide)).trans ((va_up_ne _ _ (by decide)).trans (va_up_ne _ _ (by decide))))))
                            have hof9 : offM F (va_up (va_up (va_up F 98 (oM ad (va_up (va_up (va_up (va_up (va_up f 10 0) 5 mi1) 6 mi2) 8 b9) 7 (flS (if mi1 = mi2 then 0 else 1) ((W 16) * (W 19)) ((W 17) * (W 18)))) v)) 99 (.inl (g 0, 858, .inl (aI bh42)))) 100 (.inl (g 0, 33, .inl (aI bl43)))) := offM_3
                            have hc10 : (va_up (va_up (va_up (va_up (va_up f 10 0) 5 mi1) 6 mi2) 8 b9) 7 (flS (if mi1 = mi2 then 0 else 1) ((W 16) * (W 19)) ((W 17) * (W 18)))) 10 = 0 := ((va_up_ne _ _ (by decide)).trans ((va_up_ne _ _ (by decide)).trans ((va_up_ne _ _ (by decide)).trans ((va_up_ne _ _ (by decide)).trans (va_up_self ..)))))
                            refine J_callVi cw_M_142 nh_M_store pn_M_store rfl rfl (by omega) (by rw [va_up_ne _ _ (by decide), va_up_ne _ _ (by decide), va_up_self]) (As := [.int (iI 0), .int (iI ((to.toNat : Nat) : Int)), .int (iI 3)]) (rest := []) rfl (Nat.le_of_ble_eq_true rfl) ⟨by decide, by decide⟩ rfl ⟨by decide, by decide⟩ d_M_combine_363 (c_M_store2 hfl (X := flM (if mi1 = mi2 then 0 else 1) ((W 16) * (W 19)) ((W 17) * (W 18))) (Y := 1) (to := to.toNat) (kd := 0) (s := (if flS (if mi1 = mi2 then 0 else 1) (W 16 * W 19) (W 17 * W 18) = 1 then -1 else 1)) (code := 3) hN hD9 (w47) (w48) (by decide) ((lnw_le (by decide)).mpr (Nat.lt_trans hX2 (by decide))) ((lnw_le (by decide)).mpr (Nat.lt_trans hY2 (by decide))) (blen_le.mpr (Nat.lt_trans hX2 (by decide))) (blen_le.mpr (Nat.lt_trans hY2 (by decide))) ⟨by omega, by omega⟩ (((va_up_self ..)).trans (hrs_s (flS_b (by split <;> omega)))) (pm_r _) (by omega) (fun _ => Nat.one_dvd _) (fun e => absurd e (by split at e <;> omega))) (fun z9 F9 hq => ?_)
                            obtain ⟨hq9, hoff9⟩ := hq
                            replace hoff9 := offM_t hof9 hoff9
                            refine J_iret rfl rfl d_M_combine_366 ⟨by decide, by decide⟩ ?_
                            have hT : opV op (kd1, sg1, x1, y1) (kd2, sg2, x2, y2) = fin 0 (if flS (if mi1 = mi2 then 0 else 1) (W 16 * W 19) (W 17 * W 18) = 1 then -1 else 1) (flM (if mi1 = mi2 then 0 else 1) ((W 16) * (W 19)) ((W 17) * (W 18))) (1) := by
                              rw [hopr, sw207_4]
                              have hk9 : (if K = 1 then 0 else K) = 0 := by split <;> omega
                              rw [floor_fin (Nat.mul_pos m12 hW18) (Nat.mul_pos m13 (Nat.pos_of_ne_zero (hv0 (by omega)))) (rat_cross m11 m21) hs11 hs12 hsb1 hsb2 (hu9.trans (by rw [Nat.mul_eq_zero]; exact ⟨Or.inl, fun w => w.elim id (fun w => absurd w (Nat.ne_of_gt m23))⟩)) (fun e => hv0 (by omega) (hv9.mp e))]
                              show fin (if K = 1 then 0 else K) _ _ _ = _
                              rw [hk9]
                            refine ⟨_, rfl, rfl, rfl, msto_i (by unfold combO; rw [if_pos hC, if_neg (fun h => hdv ⟨h.1, h.2.1⟩ (by rw [hrV2] at h; exact h.2.2)), hrV1, hrV2, hT]) rfl hc10 hq9, hoff9⟩
                        by_cases sw207_5 : op = 5
                        · refine J_tableIn (off := 106) (tgt := 313) d_M_combine_207 ⟨by omega, by omega⟩ (by omega) (by omega) (by rw [show (op - 0).toNat = 5 by omega]; rfl) (by decide) ?_
                          have hW18 : 0 < W 18 := Nat.pos_of_ne_zero (fun e => by rw [e, Nat.zero_mul] at m21; rcases Nat.mul_eq_zero.mp m21.symm with w | w; exact hv0 (by omega) w; omega)
                          refine J_aload_n 0 d_M_combine_313 rfl rfl ?_
                          refine J_callVv cw_M_191 nh_M_rest pn_M_rest rfl rfl (by omega) (by rw [va_up_ne _ _ (by decide), va_up_ne _ _ (by decide), va_up_self]) (As := []) (rest := []) rfl (Nat.le_of_ble_eq_true rfl) ⟨by decide, by decide⟩ rfl ⟨by decide, by decide⟩ d_M_combine_314 (c_M_rest hfl (a := W 16) (b := W 17) (c := W 18) (d := W 19) (xs := mi1) (ys := mi2) (hh := bh27) (ll := bl28) (f := va_up (va_up (va_up (va_up f 10 0) 5 mi1) 6 mi2) 8 b9) (v := v) (V := W) (br := br) hN (by rw [va_up_ne _ _ (by decide), va_up_ne _ _ (by decide), va_up_self]) (by rw [va_up_ne _ _ (by decide), va_up_self]) (by rw [va_up_self]) hR29 hzz (rfl) (rfl) (rfl) (rfl) (((va_up_ne _ _ (by decide)).trans ((va_up_ne _ _ (by decide)).trans (va_up_self ..)))) (((va_up_ne _ _ (by decide)).trans (va_up_self ..))) (by omega) (by omega) ⟨by omega, by omega, by omega, by omega⟩ (Nat.ne_of_gt m12) (Nat.ne_of_gt hW18)) (fun  F26 hq => ?_)
                          obtain ⟨bh49, bl50, f9, W9, y29, hR51, hfW9, hf89, hy29, hW209, hW219, hf79, eF26⟩ := hq
                          refine J_eqF (F2 := va_up (va_up (va_up F 98 (oM ad f9 v)) 99 (.inl (g 0, 858, .inl (aI bh49)))) 100 (.inl (g 0, 33, .inl (aI bl50)))) (eF26.trans (Eq.trans (Eq.trans (congrArg (fun q : Nat → va_E => va_up q 100 (.inl (g 0, 33, .inl (aI bl50)))) (congrArg (fun q : Nat → va_E => va_up q 99 (.inl (g 0, 858, .inl (aI bh49)))) (up_in2 (by decide) (by decide)))) (congrArg (fun q : Nat → va_E => va_up q 100 (.inl (g 0, 33, .inl (aI bl50)))) (up_in1 (by decide)))) (up_in0))) ?_
                          obtain ⟨q9, hQ9⟩ : ∃ q, flM (if mi1 = mi2 then 0 else 1) (W 16 * W 19) (W 17 * W 18) = q := ⟨_, rfl⟩
                          rw [hQ9] at hW209 hf79
                          have hy2b : y29 = 0 ∨ y29 = 1 := by rw [hy29]; split <;> omega
                          refine J_goto (tgt := 357) d_M_combine_317 (by decide) ?_
                          refine J_aload_n 0 d_M_combine_357 rfl rfl ?_
                          refine J_iload 5 d_M_combine_358 rfl ?_
                          refine J_iload 4 d_M_combine_360 rfl ?_
                          refine J_topi (r := ((to.toNat : Nat) : Int)) (congrArg iI (by omega)) ?_
                          refine J_iconst d_M_combine_362 ?_
                          have hq9b : q9 < 2 ^ 337 := by
                            rw [← hQ9]
                            exact Nat.lt_of_le_of_lt flM_le (Nat.lt_of_le_of_lt (Nat.succ_le_of_lt (Nat.lt_of_lt_of_le (Nat.mul_lt_mul'' m15 m26) (by decide : 2 ^ 168 * 2 ^ 168 ≤ 2 ^ 336))) (by decide))
                          have hqB : W 18 * q9 * W 17 ≤ W 16 * W 19 + W 17 * W 18 := by
                            have e1 : W 18 * q9 * W 17 = q9 * (W 17 * W 18) := by ac_rfl
                            have e2 : q9 ≤ W 16 * W 19 / (W 17 * W 18) + 1 := by rw [← hQ9]; exact flM_le0
                            have e3 := Nat.mul_le_mul_right (W 17 * W 18) e2
                            have e4 := Nat.div_mul_le_self (W 16 * W 19) (W 17 * W 18)
                            rw [Nat.add_mul, Nat.one_mul] at e3
                            omega
                          have hX2 : plM mi1 y29 (W 16 * W 19) (W 18 * q9 * W 17) < 2 ^ 500 := Nat.lt_of_le_of_lt (Nat.le_trans plM_le (Nat.add_le_add_left hqB _)) (Nat.lt_of_lt_of_le (Nat.add_lt_add (Nat.lt_of_lt_of_le (Nat.mul_lt_mul'' m15 m26) (by decide)) (Nat.add_lt_add (Nat.lt_of_lt_of_le (Nat.mul_lt_mul'' m15 m26) (by decide)) (Nat.lt_of_lt_of_le (Nat.mul_lt_mul'' m16 m25) (by decide)))) (by decide : 2 ^ 336 + (2 ^ 336 + 2 ^ 336) ≤ 2 ^ 500))
                          have hY2 : W 17 * W 19 < 2 ^ 500 := (Nat.lt_of_lt_of_le (Nat.mul_lt_mul'' m16 m26) (by decide))
                          have hD9 := mstd_3 hD0 (f' := f9) (v' := v) hR51 hzz (fun k hk => ((show (W9) k = W9 k from by rfl).trans ((hfW9 k (by omega)).trans ((show (W) k = W k from by rfl).trans ((hfW k (by omega)).trans (show (va_up (va_up (va_up (va_up V 17 Y1) 16 U1) 19 Y2) 18 U2) k = V k from by rw [va_up_ne _ _ (by omega), va_up_ne _ _ (by omega), va_up_ne _ _ (by omega), va_up_ne _ _ (by omega)])))))) (((hf89 12 (by omega))).trans ((va_up_ne _ _ (by decide)).trans ((va_up_ne _ _ (by decide)).trans ((va_up_ne _ _ (by decide)).trans (va_up_ne _ _ (by decide)))))) (((hf89 14 (by omega))).trans ((va_up_ne _ _ (by decide)).trans ((va_up_ne _ _ (by decide)).trans ((va_up_ne _ _ (by decide)).trans (va_up_ne _ _ (by decide))))))
                          have hof9 : offM F (va_up (va_up (va_up F 98 (oM ad f9 v)) 99 (.inl (g 0, 858, .inl (aI bh49)))) 100 (.inl (g 0, 33, .inl (aI bl50)))) := offM_3
                          have hc10 : (f9) 10 = 0 := (((hf89 10 (by omega))).trans ((va_up_ne _ _ (by decide)).trans ((va_up_ne _ _ (by decide)).trans ((va_up_ne _ _ (by decide)).trans (va_up_self ..)))))
                          refine J_callVi cw_M_142 nh_M_store pn_M_store rfl rfl (by omega) (by rw [va_up_ne _ _ (by decide), va_up_ne _ _ (by decide), va_up_self]) (As := [.int (iI K), .int (iI ((to.toNat : Nat) : Int)), .int (iI 3)]) (rest := []) rfl (Nat.le_of_ble_eq_true rfl) ⟨by decide, by decide⟩ rfl ⟨by decide, by decide⟩ d_M_combine_363 (c_M_store2 hfl (X := plM mi1 y29 (W 16 * W 19) (W 18 * q9 * W 17)) (Y := W 17 * W 19) (to := to.toNat) (kd := K) (s := (if plS mi1 y29 (W 16 * W 19) (W 18 * q9 * W 17) = 1 then -1 else 1)) (code := 3) hN hD9 (hW209) (hW219) (Nat.mul_pos m12 m22) ((lnw_le (by decide)).mpr (Nat.lt_trans hX2 (by decide))) ((lnw_le (by decide)).mpr (Nat.lt_trans hY2 (by decide))) (blen_le.mpr (Nat.lt_trans hX2 (by decide))) (blen_le.mpr (Nat.lt_trans hY2 (by decide))) ⟨by omega, by omega⟩ ((hf79).trans (hrs_s (plS_b (by omega) (by omega)))) ⟨by split <;> decide, by split <;> decide⟩ (by omega) (fun e => dvd_pl (Nat.mul_dvd_mul (dvd_of m11 (hd91 e)) (Nat.dvd_refl _)) (by rw [Nat.mul_comm (W 18 * q9)]; exact Nat.mul_dvd_mul (Nat.dvd_refl _) (Nat.dvd_trans (dvd_of m21 (he91 e)) (Nat.dvd_mul_right _ _)))) (fun e => absurd e (by split at e <;> omega))) (fun z9 F9 hq => ?_)
                          obtain ⟨hq9, hoff9⟩ := hq
                          replace hoff9 := offM_t hof9 hoff9
                          refine J_iret rfl rfl d_M_combine_366 ⟨by decide, by decide⟩ ?_
                          have hT : opV op (kd1, sg1, x1, y1) (kd2, sg2, x2, y2) = fin K (if plS mi1 y29 (W 16 * W 19) (W 18 * q9 * W 17) = 1 then -1 else 1) (plM mi1 y29 (W 16 * W 19) (W 18 * q9 * W 17)) (W 17 * W 19) := by
                            rw [hopr, sw207_5]
                            exact (rest_fin m12 hW18 m22 m13 m23 (Nat.pos_of_ne_zero (hv0 (by omega))) m11 m21 hs11 hs12 hsb1 hsb2 hu9 hv9 hQ9 hy29).symm
                          refine ⟨_, rfl, rfl, rfl, msto_i (by unfold combO; rw [if_pos hC, if_neg (fun h => hdv ⟨h.1, h.2.1⟩ (by rw [hrV2] at h; exact h.2.2)), hrV1, hrV2, hT]) rfl hc10 hq9, hoff9⟩
                        exact (by omega : False).elim
                      · refine J_aload_n 0 d_M_combine_190 rfl rfl ?_
                        refine J_aload_n 0 d_M_combine_191 rfl rfl ?_
                        refine gf_M_152 (by omega) (by rw [va_up_ne _ _ (by decide), va_up_ne _ _ (by decide), va_up_self]) rfl d_M_combine_192 ?_
                        refine J_topi (r := mi2) (congrArg iI ((va_up_ne _ _ (by decide)).trans (va_up_self ..))) ?_
                        refine J_ifne (tgt := 202) d_M_combine_195 (by decide) ⟨by omega, by omega⟩ (fun c195 => ?_) (fun c195 => ?_)
                        · refine J_iconst d_M_combine_202 ?_
                          refine pm_M_152 (by omega) (by rw [va_up_ne _ _ (by decide), va_up_ne _ _ (by decide), va_up_self]) (nb01 (by omega)) d_M_combine_203 ?_
                          refine J_eqF (F2 := va_up (va_up (va_up (va_up F 98 (oM ad (va_up (va_up (va_up (va_up f 10 0) 5 mi1) 6 mi2) 8 b9) v)) 99 (.inl (g 0, 858, .inl (aI bh27)))) 100 (.inl (g 0, 33, .inl (aI bl28)))) 98 (oM ad (va_up (va_up (va_up (va_up f 10 0) 5 mi1) 6 0) 8 b9) v)) (congrArg (fun qq : Nat → Int => va_up (va_up (va_up (va_up F 98 (oM ad (va_up (va_up (va_up (va_up f 10 0) 5 mi1) 6 mi2) 8 b9) v)) 99 (.inl (g 0, 858, .inl (aI bh27)))) 100 (.inl (g 0, 33, .inl (aI bl28)))) 98 (oM ad qq v)) (up_in1 (by decide))) ?_
                          refine J_eqF (F2 := va_up (va_up (va_up F 98 (oM ad (va_up (va_up (va_up (va_up f 10 0) 5 mi1) 6 0) 8 b9) v)) 99 (.inl (g 0, 858, .inl (aI bh27)))) 100 (.inl (g 0, 33, .inl (aI bl28)))) (up_in2 (by decide) (by decide)) ?_
                          refine J_iload_n 1 d_M_combine_206 rfl rfl ?_
                          by_cases sw207_1 : op = 1
                          · refine J_tableIn (off := 57) (tgt := 264) d_M_combine_207 ⟨by omega, by omega⟩ (by omega) (by omega) (by rw [show (op - 0).toNat = 1 by omega]; rfl) (by decide) ?_
                            refine J_aload_n 0 d_M_combine_264 rfl rfl ?_
                            refine J_callVv cw_M_170 nh_M_plus pn_M_plus rfl rfl (by omega) (by rw [va_up_ne _ _ (by decide), va_up_ne _ _ (by decide), va_up_self]) (As := []) (rest := []) rfl (Nat.le_of_ble_eq_true rfl) ⟨by decide, by decide⟩ rfl ⟨by decide, by decide⟩ d_M_combine_265 (c_M_plus hfl (a := (W 16)) (b := (W 17)) (c := (W 18)) (d := (W 19)) (xs := mi1) (ys := 0) (hh := bh27) (ll := bl28) (f := va_up (va_up (va_up (va_up f 10 0) 5 mi1) 6 0) 8 b9) (v := v) (V := W) (br := br) hN (by rw [va_up_ne _ _ (by decide), va_up_ne _ _ (by decide), va_up_self]) (by rw [va_up_ne _ _ (by decide), va_up_self]) (by rw [va_up_self]) hR29 hzz (rfl) (rfl) (rfl) (rfl) (((va_up_ne _ _ (by decide)).trans ((va_up_ne _ _ (by decide)).trans (va_up_self ..)))) (((va_up_ne _ _ (by decide)).trans (va_up_self ..))) (by omega) (by omega) ⟨by omega, by omega, by omega⟩) (fun  F27 hq => ?_)
                            obtain ⟨bh52, bl53, hR54, eF27⟩ := hq
                            refine J_eqF (F2 := va_up (va_up (va_up F 98 (oM ad (va_up (va_up (va_up (va_up (va_up f 10 0) 5 mi1) 6 0) 8 b9) 7 (plS mi1 0 ((W 16) * (W 19)) ((W 18) * (W 17)))) v)) 99 (.inl (g 0, 858, .inl (aI bh52)))) 100 (.inl (g 0, 33, .inl (aI bl53)))) (eF27.trans (Eq.trans (Eq.trans (congrArg (fun q : Nat → va_E => va_up q 100 (.inl (g 0, 33, .inl (aI bl53)))) (congrArg (fun q : Nat → va_E => va_up q 99 (.inl (g 0, 858, .inl (aI bh52)))) (up_in2 (by decide) (by decide)))) (congrArg (fun q : Nat → va_E => va_up q 100 (.inl (g 0, 33, .inl (aI bl53)))) (up_in1 (by decide)))) (up_in0))) ?_
                            refine J_goto (tgt := 357) d_M_combine_268 (by decide) ?_
                            refine J_aload_n 0 d_M_combine_357 rfl rfl ?_
                            refine J_iload 5 d_M_combine_358 rfl ?_
                            refine J_iload 4 d_M_combine_360 rfl ?_
                            refine J_topi (r := ((to.toNat : Nat) : Int)) (congrArg iI (by omega)) ?_
                            refine J_iconst d_M_combine_362 ?_
                            have hX2 : plM mi1 0 ((W 16) * (W 19)) ((W 18) * (W 17)) < 2 ^ 500 := Nat.lt_of_le_of_lt plM_le (Nat.lt_of_lt_of_le (Nat.add_lt_add (Nat.lt_of_lt_of_le (Nat.mul_lt_mul'' m15 m26) (by decide)) (Nat.lt_of_lt_of_le (Nat.mul_lt_mul'' m25 m16) (by decide))) (by decide : 2 ^ 336 + 2 ^ 336 ≤ 2 ^ 500))
                            have hY2 : (W 17) * (W 19) < 2 ^ 500 := (Nat.lt_of_lt_of_le (Nat.mul_lt_mul'' m16 m26) (by decide))
                            have hD9 := mstd_3 hD0 (f' := va_up (va_up (va_up (va_up (va_up f 10 0) 5 mi1) 6 0) 8 b9) 7 (plS mi1 0 ((W 16) * (W 19)) ((W 18) * (W 17)))) (v' := v) hR54 hzz (fun k hk => ((show (va_up (va_up (va_up (va_up W 22 ((W 16) * (W 19))) 23 ((W 18) * (W 17))) 21 ((W 17) * (W 19))) 20 (plM mi1 0 ((W 16) * (W 19)) ((W 18) * (W 17)))) k = W k from by rw [va_up_ne _ _ (by omega), va_up_ne _ _ (by omega), va_up_ne _ _ (by omega), va_up_ne _ _ (by omega)]).trans ((hfW k (by omega)).trans (show (va_up (va_up (va_up (va_up V 17 Y1) 16 U1) 19 Y2) 18 U2) k = V k from by rw [va_up_ne _ _ (by omega), va_up_ne _ _ (by omega), va_up_ne _ _ (by omega), va_up_ne _ _ (by omega)])))) ((va_up_ne _ _ (by decide)).trans ((va_up_ne _ _ (by decide)).trans ((va_up_ne _ _ (by decide)).trans ((va_up_ne _ _ (by decide)).trans (va_up_ne _ _ (by decide)))))) ((va_up_ne _ _ (by decide)).trans ((va_up_ne _ _ (by decide)).trans ((va_up_ne _ _ (by decide)).trans ((va_up_ne _ _ (by decide)).trans (va_up_ne _ _ (by decide))))))
                            have hof9 : offM F (va_up (va_up (va_up F 98 (oM ad (va_up (va_up (va_up (va_up (va_up f 10 0) 5 mi1) 6 0) 8 b9) 7 (plS mi1 0 ((W 16) * (W 19)) ((W 18) * (W 17)))) v)) 99 (.inl (g 0, 858, .inl (aI bh52)))) 100 (.inl (g 0, 33, .inl (aI bl53)))) := offM_3
                            have hc10 : (va_up (va_up (va_up (va_up (va_up f 10 0) 5 mi1) 6 0) 8 b9) 7 (plS mi1 0 ((W 16) * (W 19)) ((W 18) * (W 17)))) 10 = 0 := ((va_up_ne _ _ (by decide)).trans ((va_up_ne _ _ (by decide)).trans ((va_up_ne _ _ (by decide)).trans ((va_up_ne _ _ (by decide)).trans (va_up_self ..)))))
                            refine J_callVi cw_M_142 nh_M_store pn_M_store rfl rfl (by omega) (by rw [va_up_ne _ _ (by decide), va_up_ne _ _ (by decide), va_up_self]) (As := [.int (iI K), .int (iI ((to.toNat : Nat) : Int)), .int (iI 3)]) (rest := []) rfl (Nat.le_of_ble_eq_true rfl) ⟨by decide, by decide⟩ rfl ⟨by decide, by decide⟩ d_M_combine_363 (c_M_store2 hfl (X := plM mi1 0 ((W 16) * (W 19)) ((W 18) * (W 17))) (Y := (W 17) * (W 19)) (to := to.toNat) (kd := K) (s := (if plS mi1 0 (W 16 * W 19) (W 18 * W 17) = 1 then -1 else 1)) (code := 3) hN hD9 ((va_up_self ..)) (((va_up_ne _ _ (by decide)).trans (va_up_self ..))) (Nat.mul_pos m12 m22) ((lnw_le (by decide)).mpr (Nat.lt_trans hX2 (by decide))) ((lnw_le (by decide)).mpr (Nat.lt_trans hY2 (by decide))) (blen_le.mpr (Nat.lt_trans hX2 (by decide))) (blen_le.mpr (Nat.lt_trans hY2 (by decide))) ⟨by omega, by omega⟩ (((va_up_self ..)).trans (hrs_s (plS_b (by omega) (by omega)))) ⟨by split <;> decide, by split <;> decide⟩ (by omega) (fun e => dvd_pl (Nat.mul_dvd_mul (dvd_of m11 (hd91 e)) (Nat.dvd_refl _)) (by rw [Nat.mul_comm (W 18)]; exact Nat.mul_dvd_mul (Nat.dvd_refl _) (dvd_of m21 (he91 e)))) (fun e => absurd e (by split at e <;> omega))) (fun z9 F9 hq => ?_)
                            obtain ⟨hq9, hoff9⟩ := hq
                            replace hoff9 := offM_t hof9 hoff9
                            refine J_iret rfl rfl d_M_combine_366 ⟨by decide, by decide⟩ ?_
                            have hT : opV op (kd1, sg1, x1, y1) (kd2, sg2, x2, y2) = fin K (if plS mi1 0 (W 16 * W 19) (W 18 * W 17) = 1 then -1 else 1) (plM mi1 0 ((W 16) * (W 19)) ((W 18) * (W 17))) ((W 17) * (W 19)) := by
                              rw [hopr, sw207_1]
                              exact (plus_fin m12 m22 m13 m23 m11 m21 hs11 (by omega) hsb1 ((sbit_neg hmi21).2 (by omega)) hu9 (by omega)).symm
                            refine ⟨_, rfl, rfl, rfl, msto_i (by unfold combO; rw [if_pos hC, if_neg (fun h => hdv ⟨h.1, h.2.1⟩ (by rw [hrV2] at h; exact h.2.2)), hrV1, hrV2, hT]) rfl hc10 hq9, hoff9⟩
                          exact (by omega : False).elim
                        · refine J_iconst d_M_combine_198 ?_
                          refine J_goto (tgt := 203) d_M_combine_199 (by decide) ?_
                          refine pm_M_152 (by omega) (by rw [va_up_ne _ _ (by decide), va_up_ne _ _ (by decide), va_up_self]) (nb01 (by omega)) d_M_combine_203 ?_
                          refine J_eqF (F2 := va_up (va_up (va_up (va_up F 98 (oM ad (va_up (va_up (va_up (va_up f 10 0) 5 mi1) 6 mi2) 8 b9) v)) 99 (.inl (g 0, 858, .inl (aI bh27)))) 100 (.inl (g 0, 33, .inl (aI bl28)))) 98 (oM ad (va_up (va_up (va_up (va_up f 10 0) 5 mi1) 6 1) 8 b9) v)) (congrArg (fun qq : Nat → Int => va_up (va_up (va_up (va_up F 98 (oM ad (va_up (va_up (va_up (va_up f 10 0) 5 mi1) 6 mi2) 8 b9) v)) 99 (.inl (g 0, 858, .inl (aI bh27)))) 100 (.inl (g 0, 33, .inl (aI bl28)))) 98 (oM ad qq v)) (up_in1 (by decide))) ?_
                          refine J_eqF (F2 := va_up (va_up (va_up F 98 (oM ad (va_up (va_up (va_up (va_up f 10 0) 5 mi1) 6 1) 8 b9) v)) 99 (.inl (g 0, 858, .inl (aI bh27)))) 100 (.inl (g 0, 33, .inl (aI bl28)))) (up_in2 (by decide) (by decide)) ?_
                          refine J_iload_n 1 d_M_combine_206 rfl rfl ?_
                          by_cases sw207_1 : op = 1
                          · refine J_tableIn (off := 57) (tgt := 264) d_M_combine_207 ⟨by omega, by omega⟩ (by omega) (by omega) (by rw [show (op - 0).toNat = 1 by omega]; rfl) (by decide) ?_
                            refine J_aload_n 0 d_M_combine_264 rfl rfl ?_
                            refine J_callVv cw_M_170 nh_M_plus pn_M_plus rfl rfl (by omega) (by rw [va_up_ne _ _ (by decide), va_up_ne _ _ (by decide), va_up_self]) (As := []) (rest := []) rfl (Nat.le_of_ble_eq_true rfl) ⟨by decide, by decide⟩ rfl ⟨by decide, by decide⟩ d_M_combine_265 (c_M_plus hfl (a := (W 16)) (b := (W 17)) (c := (W 18)) (d := (W 19)) (xs := mi1) (ys := 1) (hh := bh27) (ll := bl28) (f := va_up (va_up (va_up (va_up f 10 0) 5 mi1) 6 1) 8 b9) (v := v) (V := W) (br := br) hN (by rw [va_up_ne _ _ (by decide), va_up_ne _ _ (by decide), va_up_self]) (by rw [va_up_ne _ _ (by decide), va_up_self]) (by rw [va_up_self]) hR29 hzz (rfl) (rfl) (rfl) (rfl) (((va_up_ne _ _ (by decide)).trans ((va_up_ne _ _ (by decide)).trans (va_up_self ..)))) (((va_up_ne _ _ (by decide)).trans (va_up_self ..))) (by omega) (by omega) ⟨by omega, by omega, by omega⟩) (fun  F28 hq => ?_)
                            obtain ⟨bh55, bl56, hR57, eF28⟩ := hq
                            refine J_eqF (F2 := va_up (va_up (va_up F 98 (oM ad (va_up (va_up (va_up (va_up (va_up f 10 0) 5 mi1) 6 1) 8 b9) 7 (plS mi1 1 ((W 16) * (W 19)) ((W 18) * (W 17)))) v)) 99 (.inl (g 0, 858, .inl (aI bh55)))) 100 (.inl (g 0, 33, .inl (aI bl56)))) (eF28.trans (Eq.trans (Eq.trans (congrArg (fun q : Nat → va_E => va_up q 100 (.inl (g 0, 33, .inl (aI bl56)))) (congrArg (fun q : Nat → va_E => va_up q 99 (.inl (g 0, 858, .inl (aI bh55)))) (up_in2 (by decide) (by decide)))) (congrArg (fun q : Nat → va_E => va_up q 100 (.inl (g 0, 33, .inl (aI bl56)))) (up_in1 (by decide)))) (up_in0))) ?_
                            refine J_goto (tgt := 357) d_M_combine_268 (by decide) ?_
                            refine J_aload_n 0 d_M_combine_357 rfl rfl ?_
                            refine J_iload 5 d_M_combine_358 rfl ?_
                            refine J_iload 4 d_M_combine_360 rfl ?_
                            refine J_topi (r := ((to.toNat : Nat) : Int)) (congrArg iI (by omega)) ?_
                            refine J_iconst d_M_combine_362 ?_
                            have hX2 : plM mi1 1 ((W 16) * (W 19)) ((W 18) * (W 17)) < 2 ^ 500 := Nat.lt_of_le_of_lt plM_le (Nat.lt_of_lt_of_le (Nat.add_lt_add (Nat.lt_of_lt_of_le (Nat.mul_lt_mul'' m15 m26) (by decide)) (Nat.lt_of_lt_of_le (Nat.mul_lt_mul'' m25 m16) (by decide))) (by decide : 2 ^ 336 + 2 ^ 336 ≤ 2 ^ 500))
                            have hY2 : (W 17) * (W 19) < 2 ^ 500 := (Nat.lt_of_lt_of_le (Nat.mul_lt_mul'' m16 m26) (by decide))
                            have hD9 := mstd_3 hD0 (f' := va_up (va_up (va_up (va_up (va_up f 10 0) 5 mi1) 6 1) 8 b9) 7 (plS mi1 1 ((W 16) * (W 19)) ((W 18) * (W 17)))) (v' := v) hR57 hzz (fun k hk => ((show (va_up (va_up (va_up (va_up W 22 ((W 16) * (W 19))) 23 ((W 18) * (W 17))) 21 ((W 17) * (W 19))) 20 (plM mi1 1 ((W 16) * (W 19)) ((W 18) * (W 17)))) k = W k from by rw [va_up_ne _ _ (by omega), va_up_ne _ _ (by omega), va_up_ne _ _ (by omega), va_up_ne _ _ (by omega)]).trans ((hfW k (by omega)).trans (show (va_up (va_up (va_up (va_up V 17 Y1) 16 U1) 19 Y2) 18 U2) k = V k from by rw [va_up_ne _ _ (by omega), va_up_ne _ _ (by omega), va_up_ne _ _ (by omega), va_up_ne _ _ (by omega)])))) ((va_up_ne _ _ (by decide)).trans ((va_up_ne _ _ (by decide)).trans ((va_up_ne _ _ (by decide)).trans ((va_up_ne _ _ (by decide)).trans (va_up_ne _ _ (by decide)))))) ((va_up_ne _ _ (by decide)).trans ((va_up_ne _ _ (by decide)).trans ((va_up_ne _ _ (by decide)).trans ((va_up_ne _ _ (by decide)).trans (va_up_ne _ _ (by decide))))))
                            have hof9 : offM F (va_up (va_up (va_up F 98 (oM ad (va_up (va_up (va_up (va_up (va_up f 10 0) 5 mi1) 6 1) 8 b9) 7 (plS mi1 1 ((W 16) * (W 19)) ((W 18) * (W 17)))) v)) 99 (.inl (g 0, 858, .inl (aI bh55)))) 100 (.inl (g 0, 33, .inl (aI bl56)))) := offM_3
                            have hc10 : (va_up (va_up (va_up (va_up (va_up f 10 0) 5 mi1) 6 1) 8 b9) 7 (plS mi1 1 ((W 16) * (W 19)) ((W 18) * (W 17)))) 10 = 0 := ((va_up_ne _ _ (by decide)).trans ((va_up_ne _ _ (by decide)).trans ((va_up_ne _ _ (by decide)).trans ((va_up_ne _ _ (by decide)).trans (va_up_self ..)))))
                            refine J_callVi cw_M_142 nh_M_store pn_M_store rfl rfl (by omega) (by rw [va_up_ne _ _ (by decide), va_up_ne _ _ (by decide), va_up_self]) (As := [.int (iI K), .int (iI ((to.toNat : Nat) : Int)), .int (iI 3)]) (rest := []) rfl (Nat.le_of_ble_eq_true rfl) ⟨by decide, by decide⟩ rfl ⟨by decide, by decide⟩ d_M_combine_363 (c_M_store2 hfl (X := plM mi1 1 ((W 16) * (W 19)) ((W 18) * (W 17))) (Y := (W 17) * (W 19)) (to := to.toNat) (kd := K) (s := (if plS mi1 1 (W 16 * W 19) (W 18 * W 17) = 1 then -1 else 1)) (code := 3) hN hD9 ((va_up_self ..)) (((va_up_ne _ _ (by decide)).trans (va_up_self ..))) (Nat.mul_pos m12 m22) ((lnw_le (by decide)).mpr (Nat.lt_trans hX2 (by decide))) ((lnw_le (by decide)).mpr (Nat.lt_trans hY2 (by decide))) (blen_le.mpr (Nat.lt_trans hX2 (by decide))) (blen_le.mpr (Nat.lt_trans hY2 (by decide))) ⟨by omega, by omega⟩ (((va_up_self ..)).trans (hrs_s (plS_b (by omega) (by omega)))) ⟨by split <;> decide, by split <;> decide⟩ (by omega) (fun e => dvd_pl (Nat.mul_dvd_mul (dvd_of m11 (hd91 e)) (Nat.dvd_refl _)) (by rw [Nat.mul_comm (W 18)]; exact Nat.mul_dvd_mul (Nat.dvd_refl _) (dvd_of m21 (he91 e)))) (fun e => absurd e (by split at e <;> omega))) (fun z9 F9 hq => ?_)
                            obtain ⟨hq9, hoff9⟩ := hq
                            replace hoff9 := offM_t hof9 hoff9
                            refine J_iret rfl rfl d_M_combine_366 ⟨by decide, by decide⟩ ?_
                            have hT : opV op (kd1, sg1, x1, y1) (kd2, sg2, x2, y2) = fin K (if plS mi1 1 (W 16 * W 19) (W 18 * W 17) = 1 then -1 else 1) (plM mi1 1 ((W 16) * (W 19)) ((W 18) * (W 17))) ((W 17) * (W 19)) := by
                              rw [hopr, sw207_1]
                              exact (plus_fin m12 m22 m13 m23 m11 m21 hs11 (by omega) hsb1 ((sbit_neg hmi21).1 (by omega)) hu9 (by omega)).symm
                            refine ⟨_, rfl, rfl, rfl, msto_i (by unfold combO; rw [if_pos hC, if_neg (fun h => hdv ⟨h.1, h.2.1⟩ (by rw [hrV2] at h; exact h.2.2)), hrV1, hrV2, hT]) rfl hc10 hq9, hoff9⟩
                          exact (by omega : False).elim
                    · refine J_aload_n 0 d_M_combine_179 rfl rfl ?_
                      refine J_iconst d_M_combine_180 ?_
                      refine J_callVi cw_M_135 nh_M_fail pn_M_fail rfl rfl (by omega) (by rw [va_up_ne _ _ (by decide), va_up_ne _ _ (by decide), va_up_self]) (As := [.int (iI 3)]) (rest := []) rfl (Nat.le_of_ble_eq_true rfl) ⟨by decide, by decide⟩ rfl ⟨by decide, by decide⟩ d_M_combine_181 (c_M_fail hfl (code := 3) (f := va_up (va_up (va_up (va_up f 10 0) 5 mi1) 6 mi2) 8 b9) (v := v) hN (by rw [va_up_ne _ _ (by decide), va_up_ne _ _ (by decide), va_up_self])) (fun z58 F29 hq => ?_)
                      obtain ⟨hz58, eF29⟩ := hq
                      refine J_eqF (F2 := va_up (va_up (va_up F 98 (oM ad (va_up (va_up (va_up (va_up f 10 3) 5 mi1) 6 mi2) 8 b9) v)) 99 (.inl (g 0, 858, .inl (aI bh27)))) 100 (.inl (g 0, 33, .inl (aI bl28)))) ((eF29.trans (congrArg (fun qq : Nat → Int => va_up (va_up (va_up (va_up F 98 (oM ad (va_up (va_up (va_up (va_up f 10 0) 5 mi1) 6 mi2) 8 b9) v)) 99 (.inl (g 0, 858, .inl (aI bh27)))) 100 (.inl (g 0, 33, .inl (aI bl28)))) 98 (oM ad qq v)) (up_in3 (by decide) (by decide) (by decide)))).trans (up_in2 (by decide) (by decide))) ?_
                      refine J_topi (r := 0) (congrArg iI hz58) ?_
                      refine J_iret rfl rfl d_M_combine_184 ⟨by decide, by decide⟩ ?_
                      exact ⟨_, rfl, rfl, rfl, Or.inl ⟨2, by unfold combO; rw [if_pos hC, if_neg (fun h => hdv ⟨h.1, h.2.1⟩ (by rw [hrV2] at h; exact h.2.2)), hrV1, hrV2, show opV op (kd1, sg1, x1, y1) (kd2, sg2, x2, y2) = none from by unfold opV; rw [if_neg (by omega), if_neg (by omega), if_neg (by omega)]; exact meetP_1 hcs (by omega) hKm]; rfl, rfl, mst_3 hD0 hR29 hzz (fun k hk => ((show (W) k = W k from by rfl).trans ((hfW k (by omega)).trans (show (va_up (va_up (va_up (va_up V 17 Y1) 16 U1) 19 Y2) 18 U2) k = V k from by rw [va_up_ne _ _ (by omega), va_up_ne _ _ (by omega), va_up_ne _ _ (by omega), va_up_ne _ _ (by omega)])))) ((va_up_ne _ _ (by decide)).trans ((va_up_ne _ _ (by decide)).trans ((va_up_ne _ _ (by decide)).trans (va_up_ne _ _ (by decide))))) ((va_up_ne _ _ (by decide)).trans ((va_up_ne _ _ (by decide)).trans ((va_up_ne _ _ (by decide)).trans (va_up_ne _ _ (by decide))))) ((va_up_ne _ _ (by decide)).trans ((va_up_ne _ _ (by decide)).trans ((va_up_ne _ _ (by decide)).trans (va_up_self ..))))⟩, offM_3⟩
              refine J_iload_n 1 d_M_combine_108 rfl rfl ?_
              refine J_iconst d_M_combine_109 ?_
              refine J_if_icmple (tgt := 122) d_M_combine_110 (by decide) hop ⟨by omega, by omega⟩ (fun c110 => ?_) (fun c110 => ?_)
              · refine J_aload_n 0 d_M_combine_122 rfl rfl ?_
                refine gf_M_16 (by omega) (by rw [va_up_ne _ _ (by decide), va_up_ne _ _ (by decide), va_up_self]) rfl d_M_combine_123 ?_
                refine J_iload_n 2 d_M_combine_126 rfl rfl ?_
                refine J_iaload 0 rfl (by omega) (by rw [va_up_ne _ _ (by decide), va_up_ne _ _ (by decide), va_up_ne _ _ (by decide)]; exact hKk) (by omega) d_M_combine_127 ?_
                refine J_aload_n 0 d_M_combine_128 rfl rfl ?_
                refine gf_M_16 (by omega) (by rw [va_up_ne _ _ (by decide), va_up_ne _ _ (by decide), va_up_self]) rfl d_M_combine_129 ?_
                refine J_iload_n 3 d_M_combine_132 rfl rfl ?_
                refine J_iaload 0 rfl (by omega) (by rw [va_up_ne _ _ (by decide), va_up_ne _ _ (by decide), va_up_ne _ _ (by decide)]; exact hKk) (by omega) d_M_combine_133 ?_
                refine J_if_icmple (tgt := 146) d_M_combine_134 (by decide) ⟨by omega, by omega⟩ ⟨by omega, by omega⟩ (fun c134 => ?_) (fun c134 => ?_)
                · refine J_aload_n 0 d_M_combine_146 rfl rfl ?_
                  refine gf_M_16 (by omega) (by rw [va_up_ne _ _ (by decide), va_up_ne _ _ (by decide), va_up_self]) rfl d_M_combine_147 ?_
                  refine J_iload_n 3 d_M_combine_150 rfl rfl ?_
                  refine J_iaload 0 rfl (by omega) (by rw [va_up_ne _ _ (by decide), va_up_ne _ _ (by decide), va_up_ne _ _ (by decide)]; exact hKk) (by omega) d_M_combine_151 ?_
                  refine J_topi (r := K) (congrArg iI (by rw [hKab.1 (by omega)]; omega)) ?_
                  refine J_istore (lv' := [(5, .int (iI K)), (0, .ref (ad 98)), (1, .int (iI op)), (2, .int (iI a)), (3, .int (iI b)), (4, .int (iI to))]) d_M_combine_152 (by decide) rfl ?_
                  refine J_pick (lv' := [(0, .ref (ad 98)), (1, .int (iI op)), (2, .int (iI a)), (3, .int (iI b)), (4, .int (iI to)), (5, .int (iI K))]) [1, 2, 3, 4, 5, 0] rfl ?_
                  exact lab154  
                · refine J_aload_n 0 d_M_combine_137 rfl rfl ?_
                  refine gf_M_16 (by omega) (by rw [va_up_ne _ _ (by decide), va_up_ne _ _ (by decide), va_up_self]) rfl d_M_combine_138 ?_
                  refine J_iload_n 2 d_M_combine_141 rfl rfl ?_
                  refine J_iaload 0 rfl (by omega) (by rw [va_up_ne _ _ (by decide), va_up_ne _ _ (by decide), va_up_ne _ _ (by decide)]; exact hKk) (by omega) d_M_combine_142 ?_
                  refine J_goto (tgt := 152) d_M_combine_143 (by decide) ?_
                  refine J_topi (r := K) (congrArg iI (by rw [hKab.1 (by omega)]; omega)) ?_
                  refine J_istore (lv' := [(5, .int (iI K)), (0, .ref (ad 98)), (1, .int (iI op)), (2, .int (iI a)), (3, .int (iI b)), (4, .int (iI to))]) d_M_combine_152 (by decide) rfl ?_
                  refine J_pick (lv' := [(0, .ref (ad 98)), (1, .int (iI op)), (2, .int (iI a)), (3, .int (iI b)), (4, .int (iI to)), (5, .int (iI K))]) [1, 2, 3, 4, 5, 0] rfl ?_
                  exact lab154  
              · refine J_aload_n 0 d_M_combine_113 rfl rfl ?_
                refine gf_M_16 (by omega) (by rw [va_up_ne _ _ (by decide), va_up_ne _ _ (by decide), va_up_self]) rfl d_M_combine_114 ?_
                refine J_iload_n 2 d_M_combine_117 rfl rfl ?_
                refine J_iaload 0 rfl (by omega) (by rw [va_up_ne _ _ (by decide), va_up_ne _ _ (by decide), va_up_ne _ _ (by decide)]; exact hKk) (by omega) d_M_combine_118 ?_
                refine J_goto (tgt := 152) d_M_combine_119 (by decide) ?_
                refine J_topi (r := K) (congrArg iI ((hKab.2 (by omega)).symm)) ?_
                refine J_istore (lv' := [(5, .int (iI K)), (0, .ref (ad 98)), (1, .int (iI op)), (2, .int (iI a)), (3, .int (iI b)), (4, .int (iI to))]) d_M_combine_152 (by decide) rfl ?_
                refine J_pick (lv' := [(0, .ref (ad 98)), (1, .int (iI op)), (2, .int (iI a)), (3, .int (iI b)), (4, .int (iI to)), (5, .int (iI K))]) [1, 2, 3, 4, 5, 0] rfl ?_
                exact lab154  
            refine J_iconst d_M_combine_85 ?_
            refine J_iconst d_M_combine_86 ?_
            refine J_callSi cw_M_138 nh_M_in pn_M_in rfl (As := [.int (iI op), .int (iI 3), .int (iI 5)]) (rest := []) rfl (Nat.le_of_ble_eq_true rfl) ⟨by decide, by decide⟩ rfl ⟨by decide, by decide⟩ d_M_combine_87 (c_M_in hfl (a := op) (b := 3) (c := 5) (hop) (by decide) (by decide)) (fun z59 F30 hq => ?_)
            obtain ⟨hz59, eF30⟩ := hq
            refine J_eqF eF30 ?_
            refine J_ifeq (tgt := 108) d_M_combine_90 (by decide) ⟨by omega, by omega⟩ (fun c90 => ?_) (fun c90 => ?_)
            · exact lab108  (by omega)
            · refine J_aload_n 0 d_M_combine_93 rfl rfl ?_
              refine J_bipush d_M_combine_94 (i8_ok (by decide)) ?_
              refine J_callVi cw_M_75 nh_M_zero pn_M_zero rfl rfl (by omega) (by rw [va_up_ne _ _ (by decide), va_up_ne _ _ (by decide), va_up_self]) (As := [.int (iI 18)]) (rest := []) rfl (Nat.le_of_ble_eq_true rfl) ⟨by decide, by decide⟩ rfl ⟨by decide, by decide⟩ d_M_combine_96 (k_M_zero hfl (a := 18) (hh := bh8) (ll := bl9) (V := va_up (va_up (va_up (va_up V 17 Y1) 16 U1) 19 Y2) 18 U2) (br := br) (hN := hN) (hO := (by rw [va_up_ne _ _ (by decide), va_up_ne _ _ (by decide), va_up_self])) (hB := (by rw [va_up_ne _ _ (by decide), va_up_self])) (hL := (by rw [va_up_self])) (hR := hR10) (ha := by omega) (hxa := (va_up_self ..)) (bra := (hzz.2 18 (by decide) (by decide)))) (fun z60 F31 hq => ?_)
              obtain ⟨hz60, eF31⟩ := hq
              refine J_eqF eF31 ?_
              refine J_ifeq (tgt := 108) d_M_combine_99 (by decide) ⟨by omega, by omega⟩ (fun c99 => ?_) (fun c99 => ?_)
              · exact lab108  (by omega)
              · refine J_aload_n 0 d_M_combine_102 rfl rfl ?_
                refine J_iconst d_M_combine_103 ?_
                refine J_callVi cw_M_135 nh_M_fail pn_M_fail rfl rfl (by omega) (by rw [va_up_ne _ _ (by decide), va_up_ne _ _ (by decide), va_up_self]) (As := [.int (iI 2)]) (rest := []) rfl (Nat.le_of_ble_eq_true rfl) ⟨by decide, by decide⟩ rfl ⟨by decide, by decide⟩ d_M_combine_104 (c_M_fail hfl (code := 2) (f := va_up (va_up (va_up f 10 0) 5 mi1) 6 mi2) (v := v) hN (by rw [va_up_ne _ _ (by decide), va_up_ne _ _ (by decide), va_up_self])) (fun z61 F32 hq => ?_)
                obtain ⟨hz61, eF32⟩ := hq
                refine J_eqF (F2 := va_up (va_up (va_up F 98 (oM ad (va_up (va_up (va_up f 10 2) 5 mi1) 6 mi2) v)) 99 (.inl (g 0, 858, .inl (aI bh8)))) 100 (.inl (g 0, 33, .inl (aI bl9)))) ((eF32.trans (congrArg (fun qq : Nat → Int => va_up (va_up (va_up (va_up F 98 (oM ad (va_up (va_up (va_up f 10 0) 5 mi1) 6 mi2) v)) 99 (.inl (g 0, 858, .inl (aI bh8)))) 100 (.inl (g 0, 33, .inl (aI bl9)))) 98 (oM ad qq v)) (up_in2 (by decide) (by decide)))).trans (up_in2 (by decide) (by decide))) ?_
                refine J_topi (r := 0) (congrArg iI hz61) ?_
                refine J_iret rfl rfl d_M_combine_107 ⟨by decide, by decide⟩ ?_
                exact ⟨_, rfl, rfl, rfl, Or.inl ⟨1, by unfold combO; rw [if_pos hC, if_pos ⟨by omega, by omega, by rw [hrV2]; exact hU20.mpr (by omega)⟩], rfl, mst_3 hD0 hR10 hzz (fun k hk => (show (va_up (va_up (va_up (va_up V 17 Y1) 16 U1) 19 Y2) 18 U2) k = V k from by rw [va_up_ne _ _ (by omega), va_up_ne _ _ (by omega), va_up_ne _ _ (by omega), va_up_ne _ _ (by omega)])) ((va_up_ne _ _ (by decide)).trans ((va_up_ne _ _ (by decide)).trans (va_up_ne _ _ (by decide)))) ((va_up_ne _ _ (by decide)).trans ((va_up_ne _ _ (by decide)).trans (va_up_ne _ _ (by decide)))) ((va_up_ne _ _ (by decide)).trans ((va_up_ne _ _ (by decide)).trans (va_up_self ..)))⟩, offM_3⟩
          · refine J_aload_n 0 d_M_combine_52 rfl rfl ?_
            refine J_iconst d_M_combine_53 ?_
            refine J_callVi cw_M_135 nh_M_fail pn_M_fail rfl rfl (by omega) (by rw [va_up_self]) (As := [.int (iI 1)]) (rest := []) rfl (Nat.le_of_ble_eq_true rfl) ⟨by decide, by decide⟩ rfl ⟨by decide, by decide⟩ d_M_combine_54 (c_M_fail hfl (code := 1) (f := va_up f 10 0) (v := v) hN (by rw [va_up_self])) (fun z62 F33 hq => ?_)
            obtain ⟨hz62, eF33⟩ := hq
            refine J_eqF (F2 := va_up F 98 (oM ad (va_up f 10 1) v)) ((eF33.trans (congrArg (fun qq : Nat → Int => va_up (va_up F 98 (oM ad (va_up f 10 0) v)) 98 (oM ad qq v)) (up_in0))).trans (up_in0)) ?_
            refine J_topi (r := 0) (congrArg iI hz62) ?_
            refine J_eqF (F2 := va_up (va_up F 98 (oM ad (va_up f 10 1) v)) 99 (.inl (g 0, 858, .inl (aI hh)))) (up_same1 (by rw [va_up_ne _ _ (by decide)]; exact hB)) ?_
            refine J_eqF (F2 := va_up (va_up (va_up F 98 (oM ad (va_up f 10 1) v)) 99 (.inl (g 0, 858, .inl (aI hh)))) 100 (.inl (g 0, 33, .inl (aI ll)))) (up_same1 (by rw [va_up_ne _ _ (by decide), va_up_ne _ _ (by decide)]; exact hL)) ?_
            refine J_iret rfl rfl d_M_combine_57 ⟨by decide, by decide⟩ ?_
            exact ⟨_, rfl, rfl, rfl, Or.inl ⟨0, if_neg (fun h => by rw [hrV1, hrV2] at h; have h2 : (op = 6 ∧ kd2 = 0 ∧ 0 ≤ sg2 * (x2 : Int) ∧ sg2 * (x2 : Int) ≤ 40) ∨ op < 6 ∨ (6 < op ∧ kd1 = 0 ∧ kd2 = 0 ∧ (op < 10 ∨ (-120 ≤ sg2 * (x2 : Int) ∧ sg2 * (x2 : Int) ≤ 120))) := h.1.2; exact (htk.resolve_left (fun w => by rw [c49] at w; exact absurd w.1 (by decide))).2 ((tk_iff hsm).mpr h2)), rfl, mst_3 hD0 hR hzz (fun k hk => (show (V) k = V k from by rfl)) (va_up_ne _ _ (by decide)) (va_up_ne _ _ (by decide)) (va_up_self ..)⟩, offM_3⟩
