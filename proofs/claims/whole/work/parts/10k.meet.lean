/-! the Model: kinds that meet -/
set_option maxRecDepth 100000 in
set_option maxHeartbeats 4000000 in
theorem c_M_meet {l : Launch} (hfl : l.flags = flags0) {D : va_G} {g : Nat → ClassId} {ad : Nat → Nat} {N : Nat} {F : Nat → va_E} {hh ll f : Nat → Int} {v : UInt64} {V : Nat → Nat} {br : Nat → Nat}{kk bb : Nat → Int} {rr : Nat → UInt64} {p q a b c d : Nat}
    (hN : 109 ≤ N) (hO : F 98 = oM ad f v) (hB : F 99 = aB g hh) (hL : F 100 = aL g ll) (hR : reg br hh ll V) (hzz : okB br) (hKk : F 101 = .inl (g 0, 8, .inl (aI kk))) (hBb : F 102 = .inl (g 2, 8, .inl (aI bb))) (hRr : F 103 = .inl (g 3, 8, .inr (.inr (.inr (.inl rr))))) (hp : p < 8) (hq : q < 8) (hkp : 0 ≤ kk p ∧ kk p ≤ 2) (hkq : 0 ≤ kk q ∧ kk q ≤ 2) (h16 : V 16 = a) (h17 : V 17 = b) (h18 : V 18 = c) (h19 : V 19 = d) (hb0 : 0 < b) (hd0 : 0 < d) (hl : lnw 28 a ≤ 8 ∧ lnw 28 b ≤ 8 ∧ lnw 28 c ≤ 8 ∧ lnw 28 d ≤ 8) (hbl : blen a ≤ 224 ∧ blen b ≤ 224 ∧ blen c ≤ 224 ∧ blen d ≤ 224) :
    JC l y_M_meet b_M_meet 5 (Option.none : Option Jvm.ClassFile.FieldType) rm_M_meet (0, 0) D jCl (jTys g) ad N F [.ref (ad 98), .int (iI (p : Int)), .int (iI (q : Int))] (jv ad N (fun F' => ∃ (hh' ll' : Nat → Int) (W : Nat → Nat) (b' : Int), reg br hh' ll' W ∧ (b' = 0 ∨ b' = 1) ∧ (∀ k, k < 16 → W k = V k) ∧ ((kk p < 2 ∧ kk q = 2 → ((b' = 1 ∧ near 1 a b = none) ∨ (b' = 0 ∧ ∃ s' u9 d9, near 1 a b = some (2, s', u9, d9) ∧ W 16 * d9 = u9 * W 17 ∧ 0 < W 17 ∧ W 16 < 2 ^ 168 ∧ W 17 < 2 ^ 168)) ∧ W 18 = c ∧ W 19 = d) ∧ (kk p = 2 ∧ kk q < 2 → ((b' = 1 ∧ near 1 c d = none) ∨ (b' = 0 ∧ ∃ s' u9 d9, near 1 c d = some (2, s', u9, d9) ∧ W 18 * d9 = u9 * W 19 ∧ 0 < W 19 ∧ W 18 < 2 ^ 168 ∧ W 19 < 2 ^ 168)) ∧ W 16 = a ∧ W 17 = b) ∧ (¬(kk p < 2 ∧ kk q = 2) ∧ ¬(kk p = 2 ∧ kk q < 2) → b' = 0 ∧ W 16 = a ∧ W 17 = b ∧ W 18 = c ∧ W 19 = d)) ∧ F' = va_up (va_up (va_up F 98 (oM ad (va_up f 8 b') v)) 99 (aB g hh')) 100 (aL g ll'))) := by
  refine JC.go hfl (own := "NumberTowerModel") (lv := [(0, .ref (ad 98)), (1, .int (iI (p : Int))), (2, .int (iI (q : Int)))]) rfl (by decide +kernel) (Nat.le_of_ble_eq_true rfl) rfl (fun A => ?_)
  refine J_aload_n 0 d_M_meet_0 rfl rfl ?_
  refine J_iconst d_M_meet_1 ?_
  refine pf_M_94 (by omega) hO (Nat.le_of_ble_eq_true rfl) (nb01 (by omega)) d_M_meet_2 ?_
  refine J_eqF (F2 := va_up F 98 (oM ad (va_up f 8 0) v)) rfl ?_
  refine J_aload_n 0 d_M_meet_5 rfl rfl ?_
  refine gf_M_16 (by omega) (by rw [va_up_self]) rfl d_M_meet_6 ?_
  refine J_iload_n 1 d_M_meet_9 rfl rfl ?_
  refine J_iaload 0 rfl (by omega) (by rw [va_up_ne _ _ (by decide)]; exact hKk) (by omega) d_M_meet_10 ?_
  refine J_topi (r := kk p) (congrArg (fun q => iI (kk q)) (by omega)) ?_
  refine J_iconst d_M_meet_11 ?_
  refine J_if_icmpge (tgt := 46) d_M_meet_12 (by decide) ⟨by omega, by omega⟩ ⟨by omega, by omega⟩ (fun c12 => ?_) (fun c12 => ?_)
  · refine J_aload_n 0 d_M_meet_46 rfl rfl ?_
    refine gf_M_16 (by omega) (by rw [va_up_self]) rfl d_M_meet_47 ?_
    refine J_iload_n 1 d_M_meet_50 rfl rfl ?_
    refine J_iaload 0 rfl (by omega) (by rw [va_up_ne _ _ (by decide)]; exact hKk) (by omega) d_M_meet_51 ?_
    refine J_topi (r := kk p) (congrArg (fun q => iI (kk q)) (by omega)) ?_
    refine J_iconst d_M_meet_52 ?_
    refine J_if_icmpne (tgt := 84) d_M_meet_53 (by decide) ⟨by omega, by omega⟩ ⟨by omega, by omega⟩ (fun c53 => ?_) (fun c53 => ?_)
    · refine J_eqF (F2 := va_up (va_up F 98 (oM ad (va_up f 8 0) v)) 99 (.inl (g 0, 858, .inl (aI hh)))) (up_same1 (by rw [va_up_ne _ _ (by decide)]; exact hB)) ?_
      refine J_eqF (F2 := va_up (va_up (va_up F 98 (oM ad (va_up f 8 0) v)) 99 (.inl (g 0, 858, .inl (aI hh)))) 100 (.inl (g 0, 33, .inl (aI ll)))) (up_same1 (by rw [va_up_ne _ _ (by decide), va_up_ne _ _ (by decide)]; exact hL)) ?_
      refine J_vret rfl d_M_meet_84 ⟨by decide, by decide⟩ ?_
      exact ⟨rfl, rfl, rfl, hh, ll, V, 0, hR, Or.inl rfl, fun _ _ => rfl, ⟨fun e => absurd e (by omega), fun e => absurd e (by omega), fun _ => ⟨rfl, h16, h17, h18, h19⟩⟩, rfl⟩
    · refine J_aload_n 0 d_M_meet_56 rfl rfl ?_
      refine gf_M_16 (by omega) (by rw [va_up_self]) rfl d_M_meet_57 ?_
      refine J_iload_n 2 d_M_meet_60 rfl rfl ?_
      refine J_iaload 0 rfl (by omega) (by rw [va_up_ne _ _ (by decide)]; exact hKk) (by omega) d_M_meet_61 ?_
      refine J_topi (r := kk q) (congrArg (fun q => iI (kk q)) (by omega)) ?_
      refine J_iconst d_M_meet_62 ?_
      refine J_if_icmpge (tgt := 84) d_M_meet_63 (by decide) ⟨by omega, by omega⟩ ⟨by omega, by omega⟩ (fun c63 => ?_) (fun c63 => ?_)
      · refine J_eqF (F2 := va_up (va_up F 98 (oM ad (va_up f 8 0) v)) 99 (.inl (g 0, 858, .inl (aI hh)))) (up_same1 (by rw [va_up_ne _ _ (by decide)]; exact hB)) ?_
        refine J_eqF (F2 := va_up (va_up (va_up F 98 (oM ad (va_up f 8 0) v)) 99 (.inl (g 0, 858, .inl (aI hh)))) 100 (.inl (g 0, 33, .inl (aI ll)))) (up_same1 (by rw [va_up_ne _ _ (by decide), va_up_ne _ _ (by decide)]; exact hL)) ?_
        refine J_vret rfl d_M_meet_84 ⟨by decide, by decide⟩ ?_
        exact ⟨rfl, rfl, rfl, hh, ll, V, 0, hR, Or.inl rfl, fun _ _ => rfl, ⟨fun e => absurd e (by omega), fun e => absurd e (by omega), fun _ => ⟨rfl, h16, h17, h18, h19⟩⟩, rfl⟩
      · refine J_aload_n 0 d_M_meet_66 rfl rfl ?_
        refine J_bipush d_M_meet_67 (i8_ok (by decide)) ?_
        refine J_bipush d_M_meet_69 (i8_ok (by decide)) ?_
        refine J_callVd cw_M_118 nh_M_nearest pn_M_nearest rfl rfl (by omega) (by rw [va_up_self]) (As := [.int (iI 18), .int (iI 19)]) (rest := []) rfl (Nat.le_of_ble_eq_true rfl) ⟨by decide, by decide⟩ rfl ⟨by decide, by decide⟩ d_M_meet_71 (c_M_nearest hfl (u := 18) (d := 19) (X := c) (Y := d) (hh := hh) (ll := ll) (f := va_up f 8 0) (v := v) (V := V) (br := br) hN (by rw [va_up_self]) (by rw [va_up_ne _ _ (by decide)]; exact hB) (by rw [va_up_ne _ _ (by decide)]; exact hL) hR hzz (by omega) (by omega) (hzz.2 18 (by decide) (by decide)) (hzz.2 19 (by decide) (by decide)) (h18) (h19) hd0 (by omega) (by omega) (by omega) (by omega)) (fun z9 F1 hq => ?_)
        obtain ⟨bh5, bl6, W7, b8, hR10, hf11, hz12, eF1⟩ := hq
        refine J_eqF (F2 := va_up (va_up (va_up F 98 (oM ad (va_up f 8 b8) v)) 99 (.inl (g 0, 858, .inl (aI bh5)))) 100 (.inl (g 0, 33, .inl (aI bl6)))) (eF1.trans (congrArg (fun q : Nat → va_E => va_up q 100 (.inl (g 0, 33, .inl (aI bl6)))) (congrArg (fun q : Nat → va_E => va_up q 99 (.inl (g 0, 858, .inl (aI bh5)))) (up_in0)))) ?_
        obtain ⟨m, e0, y1, y2, y3, y4, hcase⟩ : ∃ m e0, z9 = fd false m e0 ∧ ((m = 0 ∧ e0 = 0) ∨ (4503599627370496 ≤ m ∧ m < 9007199254740992)) ∧ -160 ≤ e0 ∧ e0 ≤ 60 ∧ ((b8 = 1 ∧ near 1 c d = none) ∨ (b8 = 0 ∧ ∃ s' u9 d9, near 1 c d = some (2, s', u9, d9) ∧ su m e0 * d9 = u9 * sd 1 e0)) := by
          rcases hz12 with ⟨w1, w2, w3, w4⟩ | ⟨w1, w2, w3⟩ | ⟨w1, w2, w3, w4⟩
          · exact ⟨0, 0, w4, Or.inl ⟨rfl, rfl⟩, by decide, by decide, Or.inl ⟨w3, (near_isR (by omega) hd0).2 w2⟩⟩
          · obtain ⟨m, e0, y1, y2, y3, y4, s', u9, d9, y5, y6, y7⟩ := near_val (s := 1) (X := c) hd0 (Or.inl ⟨w1, w3⟩)
            exact ⟨m, e0, y1, y2, y3, y4, Or.inr ⟨w2, s', u9, d9, y5, y6⟩⟩
          · obtain ⟨m, e0, y1, y2, y3, y4, s', u9, d9, y5, y6, y7⟩ := near_val (s := 1) (X := c) hd0 (Or.inr ⟨w1, w2, w4⟩)
            exact ⟨m, e0, y1, y2, y3, y4, Or.inr ⟨w3, s', u9, d9, y5, y6⟩⟩
        obtain ⟨HC, hHC⟩ : ∃ P : Prop, P = ((b8 = 1 ∧ near 1 c d = none) ∨ (b8 = 0 ∧ ∃ s' u9 d9, near 1 c d = some (2, s', u9, d9) ∧ su m e0 * d9 = u9 * sd 1 e0)) := ⟨_, rfl⟩
        rw [← hHC] at hcase
        clear hz12
        refine J_topd (y := (fd false m e0)) y1 ?_
        refine J_dstore_n (lv' := [(3, .double (fd false m e0)), (0, .ref (ad 98)), (1, .int (iI (p : Int))), (2, .int (iI (q : Int)))]) d_M_meet_74 rfl (by decide) rfl ?_
        refine J_aload_n 1 d_M_meet_75 rfl rfl ?_
        refine J_dload_n 0 d_M_meet_76 rfl rfl ?_
        refine J_bipush d_M_meet_77 (i8_ok (by decide)) ?_
        refine J_bipush d_M_meet_79 (i8_ok (by decide)) ?_
        refine J_callVv cw_M_114 nh_M_split pn_M_split rfl rfl (by omega) (by rw [va_up_ne _ _ (by decide), va_up_ne _ _ (by decide), va_up_self]) (As := [.double (fd false m e0), .int (iI 18), .int (iI 19)]) (rest := []) rfl (Nat.le_of_ble_eq_true rfl) ⟨by decide, by decide⟩ rfl ⟨by decide, by decide⟩ d_M_meet_81 (c_M_split hfl (u := 18) (d := 19) (m := m) (e0 := e0) (hh := bh5) (ll := bl6) (V := W7) (br := br) hN (by rw [va_up_ne _ _ (by decide), va_up_ne _ _ (by decide), va_up_self]) (by rw [va_up_ne _ _ (by decide), va_up_self]) (by rw [va_up_self]) hR10 hzz (by omega) (by omega) (hzz.2 18 (by decide) (by decide)) (hzz.2 19 (by decide) (by decide)) (by omega) y2 ⟨by clear hcase; omega, by clear hcase; omega⟩) (fun  F2 hq => ?_)
        obtain ⟨bh13, bl14, hR15, eF2⟩ := hq
        refine J_eqF (F2 := va_up (va_up (va_up F 98 (oM ad (va_up f 8 b8) v)) 99 (.inl (g 0, 858, .inl (aI bh13)))) 100 (.inl (g 0, 33, .inl (aI bl14)))) (eF2.trans (Eq.trans (congrArg (fun q : Nat → va_E => va_up q 100 (.inl (g 0, 33, .inl (aI bl14)))) (up_in1 (by decide))) (up_in0))) ?_
        refine J_vret rfl d_M_meet_84 ⟨by decide, by decide⟩ ?_
        rw [hHC] at hcase
        have hbz : b8 = 0 ∨ b8 = 1 := by rcases hcase with ⟨w1, w2⟩ | ⟨w1, w2⟩ <;> omega
        exact ⟨rfl, rfl, rfl, _, _, _, b8, hR15, hbz, fun k hk => (show (va_up (va_up W7 19 (sd 1 e0)) 18 (su m e0)) k = W7 k from by rw [va_up_ne _ _ (by omega), va_up_ne _ _ (by omega)]).trans (hf11 k (by clear hcase; omega)), ⟨fun e => absurd e (by clear hcase hbz; omega), fun _ => ⟨by rw [show (va_up (va_up W7 19 (sd 1 e0)) 18 (su m e0)) 18 = su m e0 from (va_up_self ..), show (va_up (va_up W7 19 (sd 1 e0)) 18 (su m e0)) 19 = sd 1 e0 from ((va_up_ne _ _ (by decide)).trans (va_up_self ..))]; rcases hcase with ⟨w1, w2⟩ | ⟨w1, s', u9, d9, w2, w3⟩; exact Or.inl ⟨w1, w2⟩; exact Or.inr ⟨w1, s', u9, d9, w2, w3, sd_pos (by decide) e0, sus_c (by omega) y4, sds_c y3⟩, ((va_up_ne _ _ (by decide)).trans ((va_up_ne _ _ (by decide)).trans (((hf11 _ (by omega))).trans h16))), ((va_up_ne _ _ (by decide)).trans ((va_up_ne _ _ (by decide)).trans (((hf11 _ (by omega))).trans h17)))⟩, fun e => absurd e (by clear hcase hbz; omega)⟩, rfl⟩
  · refine J_aload_n 0 d_M_meet_15 rfl rfl ?_
    refine gf_M_16 (by omega) (by rw [va_up_self]) rfl d_M_meet_16 ?_
    refine J_iload_n 2 d_M_meet_19 rfl rfl ?_
    refine J_iaload 0 rfl (by omega) (by rw [va_up_ne _ _ (by decide)]; exact hKk) (by omega) d_M_meet_20 ?_
    refine J_topi (r := kk q) (congrArg (fun q => iI (kk q)) (by omega)) ?_
    refine J_iconst d_M_meet_21 ?_
    refine J_if_icmpne (tgt := 46) d_M_meet_22 (by decide) ⟨by omega, by omega⟩ ⟨by omega, by omega⟩ (fun c22 => ?_) (fun c22 => ?_)
    · refine J_aload_n 0 d_M_meet_46 rfl rfl ?_
      refine gf_M_16 (by omega) (by rw [va_up_self]) rfl d_M_meet_47 ?_
      refine J_iload_n 1 d_M_meet_50 rfl rfl ?_
      refine J_iaload 0 rfl (by omega) (by rw [va_up_ne _ _ (by decide)]; exact hKk) (by omega) d_M_meet_51 ?_
      refine J_topi (r := kk p) (congrArg (fun q => iI (kk q)) (by omega)) ?_
      refine J_iconst d_M_meet_52 ?_
      refine J_if_icmpne (tgt := 84) d_M_meet_53 (by decide) ⟨by omega, by omega⟩ ⟨by omega, by omega⟩ (fun c53 => ?_) (fun c53 => ?_)
      · refine J_eqF (F2 := va_up (va_up F 98 (oM ad (va_up f 8 0) v)) 99 (.inl (g 0, 858, .inl (aI hh)))) (up_same1 (by rw [va_up_ne _ _ (by decide)]; exact hB)) ?_
        refine J_eqF (F2 := va_up (va_up (va_up F 98 (oM ad (va_up f 8 0) v)) 99 (.inl (g 0, 858, .inl (aI hh)))) 100 (.inl (g 0, 33, .inl (aI ll)))) (up_same1 (by rw [va_up_ne _ _ (by decide), va_up_ne _ _ (by decide)]; exact hL)) ?_
        refine J_vret rfl d_M_meet_84 ⟨by decide, by decide⟩ ?_
        exact ⟨rfl, rfl, rfl, hh, ll, V, 0, hR, Or.inl rfl, fun _ _ => rfl, ⟨fun e => absurd e (by omega), fun e => absurd e (by omega), fun _ => ⟨rfl, h16, h17, h18, h19⟩⟩, rfl⟩
      · refine J_aload_n 0 d_M_meet_56 rfl rfl ?_
        refine gf_M_16 (by omega) (by rw [va_up_self]) rfl d_M_meet_57 ?_
        refine J_iload_n 2 d_M_meet_60 rfl rfl ?_
        refine J_iaload 0 rfl (by omega) (by rw [va_up_ne _ _ (by decide)]; exact hKk) (by omega) d_M_meet_61 ?_
        refine J_topi (r := kk q) (congrArg (fun q => iI (kk q)) (by omega)) ?_
        refine J_iconst d_M_meet_62 ?_
        refine J_if_icmpge (tgt := 84) d_M_meet_63 (by decide) ⟨by omega, by omega⟩ ⟨by omega, by omega⟩ (fun c63 => ?_) (fun c63 => ?_)
        · refine J_eqF (F2 := va_up (va_up F 98 (oM ad (va_up f 8 0) v)) 99 (.inl (g 0, 858, .inl (aI hh)))) (up_same1 (by rw [va_up_ne _ _ (by decide)]; exact hB)) ?_
          refine J_eqF (F2 := va_up (va_up (va_up F 98 (oM ad (va_up f 8 0) v)) 99 (.inl (g 0, 858, .inl (aI hh)))) 100 (.inl (g 0, 33, .inl (aI ll)))) (up_same1 (by rw [va_up_ne _ _ (by decide), va_up_ne _ _ (by decide)]; exact hL)) ?_
          refine J_vret rfl d_M_meet_84 ⟨by decide, by decide⟩ ?_
          exact ⟨rfl, rfl, rfl, hh, ll, V, 0, hR, Or.inl rfl, fun _ _ => rfl, ⟨fun e => absurd e (by omega), fun e => absurd e (by omega), fun _ => ⟨rfl, h16, h17, h18, h19⟩⟩, rfl⟩
        · refine J_aload_n 0 d_M_meet_66 rfl rfl ?_
          refine J_bipush d_M_meet_67 (i8_ok (by decide)) ?_
          refine J_bipush d_M_meet_69 (i8_ok (by decide)) ?_
          refine J_callVd cw_M_118 nh_M_nearest pn_M_nearest rfl rfl (by omega) (by rw [va_up_self]) (As := [.int (iI 18), .int (iI 19)]) (rest := []) rfl (Nat.le_of_ble_eq_true rfl) ⟨by decide, by decide⟩ rfl ⟨by decide, by decide⟩ d_M_meet_71 (c_M_nearest hfl (u := 18) (d := 19) (X := c) (Y := d) (hh := hh) (ll := ll) (f := va_up f 8 0) (v := v) (V := V) (br := br) hN (by rw [va_up_self]) (by rw [va_up_ne _ _ (by decide)]; exact hB) (by rw [va_up_ne _ _ (by decide)]; exact hL) hR hzz (by omega) (by omega) (hzz.2 18 (by decide) (by decide)) (hzz.2 19 (by decide) (by decide)) (h18) (h19) hd0 (by omega) (by omega) (by omega) (by omega)) (fun z20 F3 hq => ?_)
          obtain ⟨bh16, bl17, W18, b19, hR21, hf22, hz23, eF3⟩ := hq
          refine J_eqF (F2 := va_up (va_up (va_up F 98 (oM ad (va_up f 8 b19) v)) 99 (.inl (g 0, 858, .inl (aI bh16)))) 100 (.inl (g 0, 33, .inl (aI bl17)))) (eF3.trans (congrArg (fun q : Nat → va_E => va_up q 100 (.inl (g 0, 33, .inl (aI bl17)))) (congrArg (fun q : Nat → va_E => va_up q 99 (.inl (g 0, 858, .inl (aI bh16)))) (up_in0)))) ?_
          obtain ⟨m, e0, y1, y2, y3, y4, hcase⟩ : ∃ m e0, z20 = fd false m e0 ∧ ((m = 0 ∧ e0 = 0) ∨ (4503599627370496 ≤ m ∧ m < 9007199254740992)) ∧ -160 ≤ e0 ∧ e0 ≤ 60 ∧ ((b19 = 1 ∧ near 1 c d = none) ∨ (b19 = 0 ∧ ∃ s' u9 d9, near 1 c d = some (2, s', u9, d9) ∧ su m e0 * d9 = u9 * sd 1 e0)) := by
            rcases hz23 with ⟨w1, w2, w3, w4⟩ | ⟨w1, w2, w3⟩ | ⟨w1, w2, w3, w4⟩
            · exact ⟨0, 0, w4, Or.inl ⟨rfl, rfl⟩, by decide, by decide, Or.inl ⟨w3, (near_isR (by omega) hd0).2 w2⟩⟩
            · obtain ⟨m, e0, y1, y2, y3, y4, s', u9, d9, y5, y6, y7⟩ := near_val (s := 1) (X := c) hd0 (Or.inl ⟨w1, w3⟩)
              exact ⟨m, e0, y1, y2, y3, y4, Or.inr ⟨w2, s', u9, d9, y5, y6⟩⟩
            · obtain ⟨m, e0, y1, y2, y3, y4, s', u9, d9, y5, y6, y7⟩ := near_val (s := 1) (X := c) hd0 (Or.inr ⟨w1, w2, w4⟩)
              exact ⟨m, e0, y1, y2, y3, y4, Or.inr ⟨w3, s', u9, d9, y5, y6⟩⟩
          obtain ⟨HC, hHC⟩ : ∃ P : Prop, P = ((b19 = 1 ∧ near 1 c d = none) ∨ (b19 = 0 ∧ ∃ s' u9 d9, near 1 c d = some (2, s', u9, d9) ∧ su m e0 * d9 = u9 * sd 1 e0)) := ⟨_, rfl⟩
          rw [← hHC] at hcase
          clear hz23
          refine J_topd (y := (fd false m e0)) y1 ?_
          refine J_dstore_n (lv' := [(3, .double (fd false m e0)), (0, .ref (ad 98)), (1, .int (iI (p : Int))), (2, .int (iI (q : Int)))]) d_M_meet_74 rfl (by decide) rfl ?_
          refine J_aload_n 1 d_M_meet_75 rfl rfl ?_
          refine J_dload_n 0 d_M_meet_76 rfl rfl ?_
          refine J_bipush d_M_meet_77 (i8_ok (by decide)) ?_
          refine J_bipush d_M_meet_79 (i8_ok (by decide)) ?_
          refine J_callVv cw_M_114 nh_M_split pn_M_split rfl rfl (by omega) (by rw [va_up_ne _ _ (by decide), va_up_ne _ _ (by decide), va_up_self]) (As := [.double (fd false m e0), .int (iI 18), .int (iI 19)]) (rest := []) rfl (Nat.le_of_ble_eq_true rfl) ⟨by decide, by decide⟩ rfl ⟨by decide, by decide⟩ d_M_meet_81 (c_M_split hfl (u := 18) (d := 19) (m := m) (e0 := e0) (hh := bh16) (ll := bl17) (V := W18) (br := br) hN (by rw [va_up_ne _ _ (by decide), va_up_ne _ _ (by decide), va_up_self]) (by rw [va_up_ne _ _ (by decide), va_up_self]) (by rw [va_up_self]) hR21 hzz (by omega) (by omega) (hzz.2 18 (by decide) (by decide)) (hzz.2 19 (by decide) (by decide)) (by omega) y2 ⟨by clear hcase; omega, by clear hcase; omega⟩) (fun  F4 hq => ?_)
          obtain ⟨bh24, bl25, hR26, eF4⟩ := hq
          refine J_eqF (F2 := va_up (va_up (va_up F 98 (oM ad (va_up f 8 b19) v)) 99 (.inl (g 0, 858, .inl (aI bh24)))) 100 (.inl (g 0, 33, .inl (aI bl25)))) (eF4.trans (Eq.trans (congrArg (fun q : Nat → va_E => va_up q 100 (.inl (g 0, 33, .inl (aI bl25)))) (up_in1 (by decide))) (up_in0))) ?_
          refine J_vret rfl d_M_meet_84 ⟨by decide, by decide⟩ ?_
          rw [hHC] at hcase
          have hbz : b19 = 0 ∨ b19 = 1 := by rcases hcase with ⟨w1, w2⟩ | ⟨w1, w2⟩ <;> omega
          exact ⟨rfl, rfl, rfl, _, _, _, b19, hR26, hbz, fun k hk => (show (va_up (va_up W18 19 (sd 1 e0)) 18 (su m e0)) k = W18 k from by rw [va_up_ne _ _ (by omega), va_up_ne _ _ (by omega)]).trans (hf22 k (by clear hcase; omega)), ⟨fun e => absurd e (by clear hcase hbz; omega), fun _ => ⟨by rw [show (va_up (va_up W18 19 (sd 1 e0)) 18 (su m e0)) 18 = su m e0 from (va_up_self ..), show (va_up (va_up W18 19 (sd 1 e0)) 18 (su m e0)) 19 = sd 1 e0 from ((va_up_ne _ _ (by decide)).trans (va_up_self ..))]; rcases hcase with ⟨w1, w2⟩ | ⟨w1, s', u9, d9, w2, w3⟩; exact Or.inl ⟨w1, w2⟩; exact Or.inr ⟨w1, s', u9, d9, w2, w3, sd_pos (by decide) e0, sus_c (by omega) y4, sds_c y3⟩, ((va_up_ne _ _ (by decide)).trans ((va_up_ne _ _ (by decide)).trans (((hf22 _ (by omega))).trans h16))), ((va_up_ne _ _ (by decide)).trans ((va_up_ne _ _ (by decide)).trans (((hf22 _ (by omega))).trans h17)))⟩, fun e => absurd e (by clear hcase hbz; omega)⟩, rfl⟩
    · refine J_aload_n 0 d_M_meet_25 rfl rfl ?_
      refine J_bipush d_M_meet_26 (i8_ok (by decide)) ?_
      refine J_bipush d_M_meet_28 (i8_ok (by decide)) ?_
      refine J_callVd cw_M_118 nh_M_nearest pn_M_nearest rfl rfl (by omega) (by rw [va_up_self]) (As := [.int (iI 16), .int (iI 17)]) (rest := []) rfl (Nat.le_of_ble_eq_true rfl) ⟨by decide, by decide⟩ rfl ⟨by decide, by decide⟩ d_M_meet_30 (c_M_nearest hfl (u := 16) (d := 17) (X := a) (Y := b) (hh := hh) (ll := ll) (f := va_up f 8 0) (v := v) (V := V) (br := br) hN (by rw [va_up_self]) (by rw [va_up_ne _ _ (by decide)]; exact hB) (by rw [va_up_ne _ _ (by decide)]; exact hL) hR hzz (by omega) (by omega) (hzz.2 16 (by decide) (by decide)) (hzz.2 17 (by decide) (by decide)) (h16) (h17) hb0 (by omega) (by omega) (by omega) (by omega)) (fun z31 F5 hq => ?_)
      obtain ⟨bh27, bl28, W29, b30, hR32, hf33, hz34, eF5⟩ := hq
      refine J_eqF (F2 := va_up (va_up (va_up F 98 (oM ad (va_up f 8 b30) v)) 99 (.inl (g 0, 858, .inl (aI bh27)))) 100 (.inl (g 0, 33, .inl (aI bl28)))) (eF5.trans (congrArg (fun q : Nat → va_E => va_up q 100 (.inl (g 0, 33, .inl (aI bl28)))) (congrArg (fun q : Nat → va_E => va_up q 99 (.inl (g 0, 858, .inl (aI bh27)))) (up_in0)))) ?_
      obtain ⟨m, e0, y1, y2, y3, y4, hcase⟩ : ∃ m e0, z31 = fd false m e0 ∧ ((m = 0 ∧ e0 = 0) ∨ (4503599627370496 ≤ m ∧ m < 9007199254740992)) ∧ -160 ≤ e0 ∧ e0 ≤ 60 ∧ ((b30 = 1 ∧ near 1 a b = none) ∨ (b30 = 0 ∧ ∃ s' u9 d9, near 1 a b = some (2, s', u9, d9) ∧ su m e0 * d9 = u9 * sd 1 e0)) := by
        rcases hz34 with ⟨w1, w2, w3, w4⟩ | ⟨w1, w2, w3⟩ | ⟨w1, w2, w3, w4⟩
        · exact ⟨0, 0, w4, Or.inl ⟨rfl, rfl⟩, by decide, by decide, Or.inl ⟨w3, (near_isR (by omega) hb0).2 w2⟩⟩
        · obtain ⟨m, e0, y1, y2, y3, y4, s', u9, d9, y5, y6, y7⟩ := near_val (s := 1) (X := a) hb0 (Or.inl ⟨w1, w3⟩)
          exact ⟨m, e0, y1, y2, y3, y4, Or.inr ⟨w2, s', u9, d9, y5, y6⟩⟩
        · obtain ⟨m, e0, y1, y2, y3, y4, s', u9, d9, y5, y6, y7⟩ := near_val (s := 1) (X := a) hb0 (Or.inr ⟨w1, w2, w4⟩)
          exact ⟨m, e0, y1, y2, y3, y4, Or.inr ⟨w3, s', u9, d9, y5, y6⟩⟩
      obtain ⟨HC, hHC⟩ : ∃ P : Prop, P = ((b30 = 1 ∧ near 1 a b = none) ∨ (b30 = 0 ∧ ∃ s' u9 d9, near 1 a b = some (2, s', u9, d9) ∧ su m e0 * d9 = u9 * sd 1 e0)) := ⟨_, rfl⟩
      rw [← hHC] at hcase
      clear hz34
      refine J_topd (y := (fd false m e0)) y1 ?_
      refine J_dstore_n (lv' := [(3, .double (fd false m e0)), (0, .ref (ad 98)), (1, .int (iI (p : Int))), (2, .int (iI (q : Int)))]) d_M_meet_33 rfl (by decide) rfl ?_
      refine J_aload_n 1 d_M_meet_34 rfl rfl ?_
      refine J_dload_n 0 d_M_meet_35 rfl rfl ?_
      refine J_bipush d_M_meet_36 (i8_ok (by decide)) ?_
      refine J_bipush d_M_meet_38 (i8_ok (by decide)) ?_
      refine J_callVv cw_M_114 nh_M_split pn_M_split rfl rfl (by omega) (by rw [va_up_ne _ _ (by decide), va_up_ne _ _ (by decide), va_up_self]) (As := [.double (fd false m e0), .int (iI 16), .int (iI 17)]) (rest := []) rfl (Nat.le_of_ble_eq_true rfl) ⟨by decide, by decide⟩ rfl ⟨by decide, by decide⟩ d_M_meet_40 (c_M_split hfl (u := 16) (d := 17) (m := m) (e0 := e0) (hh := bh27) (ll := bl28) (V := W29) (br := br) hN (by rw [va_up_ne _ _ (by decide), va_up_ne _ _ (by decide), va_up_self]) (by rw [va_up_ne _ _ (by decide), va_up_self]) (by rw [va_up_self]) hR32 hzz (by omega) (by omega) (hzz.2 16 (by decide) (by decide)) (hzz.2 17 (by decide) (by decide)) (by omega) y2 ⟨by clear hcase; omega, by clear hcase; omega⟩) (fun  F6 hq => ?_)
      obtain ⟨bh35, bl36, hR37, eF6⟩ := hq
      refine J_eqF (F2 := va_up (va_up (va_up F 98 (oM ad (va_up f 8 b30) v)) 99 (.inl (g 0, 858, .inl (aI bh35)))) 100 (.inl (g 0, 33, .inl (aI bl36)))) (eF6.trans (Eq.trans (congrArg (fun q : Nat → va_E => va_up q 100 (.inl (g 0, 33, .inl (aI bl36)))) (up_in1 (by decide))) (up_in0))) ?_
      refine J_goto (tgt := 84) d_M_meet_43 (by decide) ?_
      refine J_vret rfl d_M_meet_84 ⟨by decide, by decide⟩ ?_
      rw [hHC] at hcase
      have hbz : b30 = 0 ∨ b30 = 1 := by rcases hcase with ⟨w1, w2⟩ | ⟨w1, w2⟩ <;> omega
      exact ⟨rfl, rfl, rfl, _, _, _, b30, hR37, hbz, fun k hk => (show (va_up (va_up W29 17 (sd 1 e0)) 16 (su m e0)) k = W29 k from by rw [va_up_ne _ _ (by omega), va_up_ne _ _ (by omega)]).trans (hf33 k (by clear hcase; omega)), ⟨fun _ => ⟨by rw [show (va_up (va_up W29 17 (sd 1 e0)) 16 (su m e0)) 16 = su m e0 from (va_up_self ..), show (va_up (va_up W29 17 (sd 1 e0)) 16 (su m e0)) 17 = sd 1 e0 from ((va_up_ne _ _ (by decide)).trans (va_up_self ..))]; rcases hcase with ⟨w1, w2⟩ | ⟨w1, s', u9, d9, w2, w3⟩; exact Or.inl ⟨w1, w2⟩; exact Or.inr ⟨w1, s', u9, d9, w2, w3, sd_pos (by decide) e0, sus_c (by omega) y4, sds_c y3⟩, ((va_up_ne _ _ (by decide)).trans ((va_up_ne _ _ (by decide)).trans (((hf33 _ (by omega))).trans h18))), ((va_up_ne _ _ (by decide)).trans ((va_up_ne _ _ (by decide)).trans (((hf33 _ (by omega))).trans h19)))⟩, fun e => absurd e (by clear hcase hbz; omega), fun e => absurd e (by clear hcase hbz; omega)⟩, rfl⟩
