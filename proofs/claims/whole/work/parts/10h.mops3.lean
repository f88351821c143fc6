/-! the Model: small numbers, what an operation takes, kinds that meet, powers -/
def smV (b : Int) (x : Nat) : Int := if x ≤ 999 then (if b = 1 then -(x : Int) else x) else 1000
theorem fin_sg {kd s1 s2 : Int} {X Y : Nat} (h : X ≠ 0 → s1 = s2) : fin kd s1 X Y = fin kd s2 X Y := by
  by_cases z : X = 0
  · unfold fin near
    rw [if_pos z]
    simp only [if_pos z]
  · rw [h z]
set_option maxRecDepth 100000 in
set_option maxHeartbeats 4000000 in
theorem c_M_small {l : Launch} (hfl : l.flags = flags0) {D : va_G} {g : Nat → ClassId} {ad : Nat → Nat} {N : Nat} {F : Nat → va_E} {hh ll f : Nat → Int} {v : UInt64} {V : Nat → Nat} {br : Nat → Nat}{kk bb : Nat → Int} {rr : Nat → UInt64} {r x : Nat}
    (hN : 109 ≤ N) (hO : F 98 = oM ad f v) (hB : F 99 = aB g hh) (hL : F 100 = aL g ll) (hR : reg br hh ll V) (hzz : okB br) (hKk : F 101 = .inl (g 0, 8, .inl (aI kk))) (hBb : F 102 = .inl (g 2, 8, .inl (aI bb))) (hRr : F 103 = .inl (g 3, 8, .inr (.inr (.inr (.inl rr))))) (hr : r < 8) (hx : V (2 * r) = x) (hbx : blen x ≤ 504) (hb : bb r = 0 ∨ bb r = 1) :
    JC l y_M_small b_M_small 2 (Option.some Jvm.ClassFile.FieldType.int) rm_M_small (0, 0) D jCl (jTys g) ad N F [.ref (ad 98), .int (iI (r : Int))] (ji ad N (fun z F' => z = smV (bb r) x ∧ F' = F)) := by
  have hd0 := dgt_008 x
  have hdn := dg_nat8 x 0
  have hdb := dgt_b8 x 0
  have h10 : blen x ≤ 10 ↔ x < 2 ^ 10 := blen_le
  refine JC.go hfl (own := "NumberTowerModel") (lv := [(0, .ref (ad 98)), (1, .int (iI (r : Int)))]) rfl (by decide +kernel) (Nat.le_of_ble_eq_true rfl) rfl (fun A => ?_)
  refine J_aload_n 0 d_M_small_0 rfl rfl ?_
  refine J_iconst d_M_small_1 ?_
  refine J_iload_n 1 d_M_small_2 rfl rfl ?_
  refine J_imul d_M_small_3 ?_
  refine J_callVi cw_M_62 nh_M_bits pn_M_bits rfl rfl (by omega) hO (As := [.int (iI (2 * (r : Int)))]) (rest := []) rfl (Nat.le_of_ble_eq_true rfl) ⟨by decide, by decide⟩ rfl ⟨by decide, by decide⟩ d_M_small_4 (k_M_bits hfl (a := 2 * r) (hh := hh) (ll := ll) (V := V) (br := br) (hN := hN) (hO := hO) (hB := hB) (hL := hL) (hR := hR) (ha := by omega) (hxa := hx) (bra := (hzz.2 (2 * r) (by omega) (by omega)))) (fun z1 F1 hq => ?_)
  obtain ⟨hz1, eF1⟩ := hq
  refine J_eqF eF1 ?_
  refine J_topi (r := (((blen x : Nat)) : Int)) (congrArg iI hz1) ?_
  refine J_bipush d_M_small_7 (i8_ok (by decide)) ?_
  refine J_if_icmpgt (tgt := 26) d_M_small_9 (by decide) ⟨by omega, by omega⟩ ⟨by omega, by omega⟩ (fun c9 => ?_) (fun c9 => ?_)
  · refine J_sipush d_M_small_26 (i16_ok (by decide)) ?_
    refine J_iret rfl rfl d_M_small_29 ⟨by decide, by decide⟩ ?_
    refine ⟨_, rfl, rfl, rfl, ?_, rfl⟩
    unfold smV
    first
    | (rw [if_neg (by omega)])
    | (rw [if_pos (by omega), if_pos (by omega)]; omega)
    | (rw [if_pos (by omega), if_neg (by omega)]; omega)
  · refine J_aload_n 0 d_M_small_12 rfl rfl ?_
    refine J_iconst d_M_small_13 ?_
    refine J_iload_n 1 d_M_small_14 rfl rfl ?_
    refine J_imul d_M_small_15 ?_
    refine J_iconst d_M_small_16 ?_
    refine J_callVi cw_M_45 nh_M_limb pn_M_limb rfl rfl (by omega) hO (As := [.int (iI (2 * (r : Int))), .int (iI 0)]) (rest := []) rfl (Nat.le_of_ble_eq_true rfl) ⟨by decide, by decide⟩ rfl ⟨by decide, by decide⟩ d_M_small_17 (k_M_limb hfl (a := 2 * r) (k := 0) (hh := hh) (ll := ll) (V := V) (br := br) (hN := hN) (hO := hO) (hB := hB) (hL := hL) (hR := hR) (ha := by omega) (hxa := hx) (bra := (hzz.2 (2 * r) (by omega) (by omega))) (hk := by omega)) (fun z2 F2 hq => ?_)
    obtain ⟨hz2, eF2⟩ := hq
    refine J_eqF eF2 ?_
    refine J_topi (r := dg8 x 0) (congrArg iI hz2) ?_
    refine J_topi (r := (((dgt 28 x 0 : Nat)) : Int)) (congrArg iI rfl) ?_
    refine J_sipush d_M_small_20 (i16_ok (by decide)) ?_
    refine J_if_icmple (tgt := 30) d_M_small_23 (by decide) ⟨by omega, by omega⟩ ⟨by omega, by omega⟩ (fun c23 => ?_) (fun c23 => ?_)
    · refine J_aload_n 0 d_M_small_30 rfl rfl ?_
      refine gf_M_19 (by omega) hO rfl d_M_small_31 ?_
      refine J_iload_n 1 d_M_small_34 rfl rfl ?_
      refine J_zaload 2 rfl (by omega) hBb (by omega) d_M_small_35 ?_
      refine J_topi (r := bb r) (congrArg (fun q => iI (bb q)) (by omega)) ?_
      refine J_ifeq (tgt := 51) d_M_small_36 (by decide) ⟨by omega, by omega⟩ (fun c36 => ?_) (fun c36 => ?_)
      · refine J_aload_n 0 d_M_small_51 rfl rfl ?_
        refine J_iconst d_M_small_52 ?_
        refine J_iload_n 1 d_M_small_53 rfl rfl ?_
        refine J_imul d_M_small_54 ?_
        refine J_iconst d_M_small_55 ?_
        refine J_callVi cw_M_45 nh_M_limb pn_M_limb rfl rfl (by omega) hO (As := [.int (iI (2 * (r : Int))), .int (iI 0)]) (rest := []) rfl (Nat.le_of_ble_eq_true rfl) ⟨by decide, by decide⟩ rfl ⟨by decide, by decide⟩ d_M_small_56 (k_M_limb hfl (a := 2 * r) (k := 0) (hh := hh) (ll := ll) (V := V) (br := br) (hN := hN) (hO := hO) (hB := hB) (hL := hL) (hR := hR) (ha := by omega) (hxa := hx) (bra := (hzz.2 (2 * r) (by omega) (by omega))) (hk := by omega)) (fun z3 F3 hq => ?_)
        obtain ⟨hz3, eF3⟩ := hq
        refine J_eqF eF3 ?_
        refine J_topi (r := dg8 x 0) (congrArg iI hz3) ?_
        refine J_topi (r := (((dgt 28 x 0 : Nat)) : Int)) (congrArg iI rfl) ?_
        refine J_iret rfl rfl d_M_small_59 ⟨by decide, by decide⟩ ?_
        refine ⟨_, rfl, rfl, rfl, ?_, rfl⟩
        unfold smV
        first
        | (rw [if_neg (by omega)])
        | (rw [if_pos (by omega), if_pos (by omega)]; omega)
        | (rw [if_pos (by omega), if_neg (by omega)]; omega)
      · refine J_aload_n 0 d_M_small_39 rfl rfl ?_
        refine J_iconst d_M_small_40 ?_
        refine J_iload_n 1 d_M_small_41 rfl rfl ?_
        refine J_imul d_M_small_42 ?_
        refine J_iconst d_M_small_43 ?_
        refine J_callVi cw_M_45 nh_M_limb pn_M_limb rfl rfl (by omega) hO (As := [.int (iI (2 * (r : Int))), .int (iI 0)]) (rest := []) rfl (Nat.le_of_ble_eq_true rfl) ⟨by decide, by decide⟩ rfl ⟨by decide, by decide⟩ d_M_small_44 (k_M_limb hfl (a := 2 * r) (k := 0) (hh := hh) (ll := ll) (V := V) (br := br) (hN := hN) (hO := hO) (hB := hB) (hL := hL) (hR := hR) (ha := by omega) (hxa := hx) (bra := (hzz.2 (2 * r) (by omega) (by omega))) (hk := by omega)) (fun z4 F4 hq => ?_)
        obtain ⟨hz4, eF4⟩ := hq
        refine J_eqF eF4 ?_
        refine J_topi (r := dg8 x 0) (congrArg iI hz4) ?_
        refine J_topi (r := (((dgt 28 x 0 : Nat)) : Int)) (congrArg iI rfl) ?_
        refine J_ineg d_M_small_47 ?_
        refine J_goto (tgt := 59) d_M_small_48 (by decide) ?_
        refine J_iret rfl rfl d_M_small_59 ⟨by decide, by decide⟩ ?_
        refine ⟨_, rfl, rfl, rfl, ?_, rfl⟩
        unfold smV
        first
        | (rw [if_neg (by omega)])
        | (rw [if_pos (by omega), if_pos (by omega)]; omega)
        | (rw [if_pos (by omega), if_neg (by omega)]; omega)
    · refine J_sipush d_M_small_26 (i16_ok (by decide)) ?_
      refine J_iret rfl rfl d_M_small_29 ⟨by decide, by decide⟩ ?_
      refine ⟨_, rfl, rfl, rfl, ?_, rfl⟩
      unfold smV
      first
      | (rw [if_neg (by omega)])
      | (rw [if_pos (by omega), if_pos (by omega)]; omega)
      | (rw [if_pos (by omega), if_neg (by omega)]; omega)
set_option maxRecDepth 100000 in
set_option maxHeartbeats 4000000 in
theorem c_M_takes {l : Launch} (hfl : l.flags = flags0) {D : va_G} {g : Nat → ClassId} {ad : Nat → Nat} {N : Nat} {F : Nat → va_E} {hh ll f : Nat → Int} {v : UInt64} {V : Nat → Nat} {br : Nat → Nat}{kk bb : Nat → Int} {rr : Nat → UInt64} {a b x : Nat} {op : Int}
    (hN : 109 ≤ N) (hO : F 98 = oM ad f v) (hB : F 99 = aB g hh) (hL : F 100 = aL g ll) (hR : reg br hh ll V) (hzz : okB br) (hKk : F 101 = .inl (g 0, 8, .inl (aI kk))) (hBb : F 102 = .inl (g 2, 8, .inl (aI bb))) (hRr : F 103 = .inl (g 3, 8, .inr (.inr (.inr (.inl rr))))) (ha8 : a < 8) (hb8 : b < 8) (hx : V (2 * b) = x) (hbx : blen x ≤ 504) (hbb : bb b = 0 ∨ bb b = 1) (hop : inI op) (hka : inI (kk a)) (hkb : inI (kk b)) :
    JC l y_M_takes b_M_takes 4 (Option.some Jvm.ClassFile.FieldType.boolean) rm_M_takes (0, 0) D jCl (jTys g) ad N F [.ref (ad 98), .int (iI op), .int (iI (a : Int)), .int (iI (b : Int))] (ji ad N (fun z F' => ((z = 1 ∧ ((op = 6 ∧ kk b = 0 ∧ 0 ≤ smV (bb b) x ∧ smV (bb b) x ≤ 40) ∨ op < 6 ∨ (6 < op ∧ kk a = 0 ∧ kk b = 0 ∧ (op < 10 ∨ (-120 ≤ smV (bb b) x ∧ smV (bb b) x ≤ 120))))) ∨ (z = 0 ∧ ¬ ((op = 6 ∧ kk b = 0 ∧ 0 ≤ smV (bb b) x ∧ smV (bb b) x ≤ 40) ∨ op < 6 ∨ (6 < op ∧ kk a = 0 ∧ kk b = 0 ∧ (op < 10 ∨ (-120 ≤ smV (bb b) x ∧ smV (bb b) x ≤ 120)))))) ∧ F' = F)) := by
  have hsi : inI (smV (bb b) x) := by unfold smV; split; split <;> exact ⟨by omega, by omega⟩; exact ⟨by omega, by omega⟩
  refine JC.go hfl (own := "NumberTowerModel") (lv := [(0, .ref (ad 98)), (1, .int (iI op)), (2, .int (iI (a : Int))), (3, .int (iI (b : Int)))]) rfl (by decide +kernel) (Nat.le_of_ble_eq_true rfl) rfl (fun A => ?_)
  refine J_iload_n 1 d_M_takes_0 rfl rfl ?_
  refine J_bipush d_M_takes_1 (i8_ok (by decide)) ?_
  refine J_if_icmpne (tgt := 35) d_M_takes_3 (by decide) hop ⟨by omega, by omega⟩ (fun c3 => ?_) (fun c3 => ?_)
  · refine J_iload_n 1 d_M_takes_35 rfl rfl ?_
    refine J_bipush d_M_takes_36 (i8_ok (by decide)) ?_
    refine J_if_icmpge (tgt := 43) d_M_takes_38 (by decide) hop ⟨by omega, by omega⟩ (fun c38 => ?_) (fun c38 => ?_)
    · refine J_aload_n 0 d_M_takes_43 rfl rfl ?_
      refine gf_M_16 (by omega) hO rfl d_M_takes_44 ?_
      refine J_iload_n 2 d_M_takes_47 rfl rfl ?_
      refine J_iaload 0 rfl (by omega) hKk (by omega) d_M_takes_48 ?_
      refine J_topi (r := kk a) (congrArg (fun q => iI (kk q)) (by omega)) ?_
      refine J_ifne (tgt := 86) d_M_takes_49 (by decide) hka (fun c49 => ?_) (fun c49 => ?_)
      · refine J_iconst d_M_takes_86 ?_
        refine J_iret rfl (nb01 (by omega)).1 d_M_takes_87 ⟨by decide, by decide⟩ ?_
        exact ⟨_, rfl, rfl, rfl, Or.inr ⟨rfl, fun h => by rcases h with ⟨h1, h2, h3, h4⟩ | h | ⟨h1, h2, h3, h4⟩ <;> omega⟩, rfl⟩
      · refine J_aload_n 0 d_M_takes_52 rfl rfl ?_
        refine gf_M_16 (by omega) hO rfl d_M_takes_53 ?_
        refine J_iload_n 3 d_M_takes_56 rfl rfl ?_
        refine J_iaload 0 rfl (by omega) hKk (by omega) d_M_takes_57 ?_
        refine J_topi (r := kk b) (congrArg (fun q => iI (kk q)) (by omega)) ?_
        refine J_ifne (tgt := 86) d_M_takes_58 (by decide) hkb (fun c58 => ?_) (fun c58 => ?_)
        · refine J_iconst d_M_takes_86 ?_
          refine J_iret rfl (nb01 (by omega)).1 d_M_takes_87 ⟨by decide, by decide⟩ ?_
          exact ⟨_, rfl, rfl, rfl, Or.inr ⟨rfl, fun h => by rcases h with ⟨h1, h2, h3, h4⟩ | h | ⟨h1, h2, h3, h4⟩ <;> omega⟩, rfl⟩
        · refine J_iload_n 1 d_M_takes_61 rfl rfl ?_
          refine J_bipush d_M_takes_62 (i8_ok (by decide)) ?_
          refine J_if_icmplt (tgt := 82) d_M_takes_64 (by decide) hop ⟨by omega, by omega⟩ (fun c64 => ?_) (fun c64 => ?_)
          · refine J_iconst d_M_takes_82 ?_
            refine J_goto (tgt := 87) d_M_takes_83 (by decide) ?_
            refine J_iret rfl (nb01 (by omega)).1 d_M_takes_87 ⟨by decide, by decide⟩ ?_
            exact ⟨_, rfl, rfl, rfl, Or.inl ⟨rfl, Or.inr (Or.inr ⟨by omega, by omega, by omega, by omega⟩)⟩, rfl⟩
          · refine J_aload_n 0 d_M_takes_67 rfl rfl ?_
            refine J_iload_n 3 d_M_takes_68 rfl rfl ?_
            refine J_callVi cw_M_173 nh_M_small pn_M_small rfl rfl (by omega) hO (As := [.int (iI (b : Int))]) (rest := []) rfl (Nat.le_of_ble_eq_true rfl) ⟨by decide, by decide⟩ rfl ⟨by decide, by decide⟩ d_M_takes_69 (c_M_small hfl (r := b) (x := x) (kk := kk) (bb := bb) (rr := rr) (hh := hh) (ll := ll) (f := f) (v := v) (V := V) (br := br) hN hO hB hL hR hzz hKk hBb hRr hb8 hx hbx hbb) (fun sm F1 hq => ?_)
            obtain ⟨hsm, eF1⟩ := hq
            refine J_eqF eF1 ?_
            refine J_topi (r := smV (bb b) x) (congrArg iI hsm) ?_
            refine J_bipush d_M_takes_72 (i8_ok (by decide)) ?_
            refine J_bipush d_M_takes_74 (i8_ok (by decide)) ?_
            refine J_callSi cw_M_138 nh_M_in pn_M_in rfl (As := [.int (iI (smV (bb b) x)), .int (iI (-120)), .int (iI 120)]) (rest := []) rfl (Nat.le_of_ble_eq_true rfl) ⟨by decide, by decide⟩ rfl ⟨by decide, by decide⟩ d_M_takes_76 (c_M_in hfl (a := smV (bb b) x) (b := (-120)) (c := 120) hsi (by decide) (by decide)) (fun zin F2 hq => ?_)
            obtain ⟨hin, eF2⟩ := hq
            refine J_eqF eF2 ?_
            refine J_ifeq (tgt := 86) d_M_takes_79 (by decide) ⟨by omega, by omega⟩ (fun c79 => ?_) (fun c79 => ?_)
            · refine J_iconst d_M_takes_86 ?_
              refine J_iret rfl (nb01 (by omega)).1 d_M_takes_87 ⟨by decide, by decide⟩ ?_
              exact ⟨_, rfl, rfl, rfl, Or.inr ⟨rfl, fun h => by rcases h with ⟨h1, h2, h3, h4⟩ | h | ⟨h1, h2, h3, h4⟩ <;> omega⟩, rfl⟩
            · refine J_iconst d_M_takes_82 ?_
              refine J_goto (tgt := 87) d_M_takes_83 (by decide) ?_
              refine J_iret rfl (nb01 (by omega)).1 d_M_takes_87 ⟨by decide, by decide⟩ ?_
              exact ⟨_, rfl, rfl, rfl, Or.inl ⟨rfl, Or.inr (Or.inr ⟨by omega, by omega, by omega, by omega⟩)⟩, rfl⟩
    · refine J_iconst d_M_takes_41 ?_
      refine J_iret rfl (nb01 (by omega)).1 d_M_takes_42 ⟨by decide, by decide⟩ ?_
      exact ⟨_, rfl, rfl, rfl, Or.inl ⟨rfl, Or.inr (Or.inl (by omega))⟩, rfl⟩
  · refine J_aload_n 0 d_M_takes_6 rfl rfl ?_
    refine gf_M_16 (by omega) hO rfl d_M_takes_7 ?_
    refine J_iload_n 3 d_M_takes_10 rfl rfl ?_
    refine J_iaload 0 rfl (by omega) hKk (by omega) d_M_takes_11 ?_
    refine J_topi (r := kk b) (congrArg (fun q => iI (kk q)) (by omega)) ?_
    refine J_ifne (tgt := 33) d_M_takes_12 (by decide) hkb (fun c12 => ?_) (fun c12 => ?_)
    · refine J_iconst d_M_takes_33 ?_
      refine J_iret rfl (nb01 (by omega)).1 d_M_takes_34 ⟨by decide, by decide⟩ ?_
      exact ⟨_, rfl, rfl, rfl, Or.inr ⟨rfl, fun h => by rcases h with ⟨h1, h2, h3, h4⟩ | h | ⟨h1, h2, h3, h4⟩ <;> omega⟩, rfl⟩
    · refine J_aload_n 0 d_M_takes_15 rfl rfl ?_
      refine J_iload_n 3 d_M_takes_16 rfl rfl ?_
      refine J_callVi cw_M_173 nh_M_small pn_M_small rfl rfl (by omega) hO (As := [.int (iI (b : Int))]) (rest := []) rfl (Nat.le_of_ble_eq_true rfl) ⟨by decide, by decide⟩ rfl ⟨by decide, by decide⟩ d_M_takes_17 (c_M_small hfl (r := b) (x := x) (kk := kk) (bb := bb) (rr := rr) (hh := hh) (ll := ll) (f := f) (v := v) (V := V) (br := br) hN hO hB hL hR hzz hKk hBb hRr hb8 hx hbx hbb) (fun sm F3 hq => ?_)
      obtain ⟨hsm, eF3⟩ := hq
      refine J_eqF eF3 ?_
      refine J_topi (r := smV (bb b) x) (congrArg iI hsm) ?_
      refine J_iconst d_M_takes_20 ?_
      refine J_bipush d_M_takes_21 (i8_ok (by decide)) ?_
      refine J_callSi cw_M_138 nh_M_in pn_M_in rfl (As := [.int (iI (smV (bb b) x)), .int (iI 0), .int (iI 40)]) (rest := []) rfl (Nat.le_of_ble_eq_true rfl) ⟨by decide, by decide⟩ rfl ⟨by decide, by decide⟩ d_M_takes_23 (c_M_in hfl (a := smV (bb b) x) (b := 0) (c := 40) hsi (by decide) (by decide)) (fun zin F4 hq => ?_)
      obtain ⟨hin, eF4⟩ := hq
      refine J_eqF eF4 ?_
      refine J_ifeq (tgt := 33) d_M_takes_26 (by decide) ⟨by omega, by omega⟩ (fun c26 => ?_) (fun c26 => ?_)
      · refine J_iconst d_M_takes_33 ?_
        refine J_iret rfl (nb01 (by omega)).1 d_M_takes_34 ⟨by decide, by decide⟩ ?_
        exact ⟨_, rfl, rfl, rfl, Or.inr ⟨rfl, fun h => by rcases h with ⟨h1, h2, h3, h4⟩ | h | ⟨h1, h2, h3, h4⟩ <;> omega⟩, rfl⟩
      · refine J_iconst d_M_takes_29 ?_
        refine J_goto (tgt := 34) d_M_takes_30 (by decide) ?_
        refine J_iret rfl (nb01 (by omega)).1 d_M_takes_34 ⟨by decide, by decide⟩ ?_
        exact ⟨_, rfl, rfl, rfl, Or.inl ⟨rfl, Or.inl ⟨by omega, by omega, by omega, by omega⟩⟩, rfl⟩
