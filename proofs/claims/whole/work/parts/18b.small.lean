/-! the class: small questions, the line -/

theorem byt_u {w : Int} {k : Nat} (h : k ≤ 3) : w % 4294967296 / 2 ^ (8 * k) % 256 = ((byt w k : Nat) : Int) := by
  rw [← byt_eq]
  obtain rfl | rfl | rfl | rfl : k = 0 ∨ k = 1 ∨ k = 2 ∨ k = 3 := by omega
  · have e : (2 : Int) ^ (8 * 0) = 1 := by decide
    rw [e]; omega
  · have e : (2 : Int) ^ (8 * 1) = 256 := by decide
    rw [e]; omega
  · have e : (2 : Int) ^ (8 * 2) = 65536 := by decide
    rw [e]; omega
  · have e : (2 : Int) ^ (8 * 3) = 16777216 := by decide
    rw [e]; omega
theorem valQ_2 {s : Int} {u d : Nat} {z : UInt64} (h0 : s = 0 ↔ u = 0) (h : (s ≠ 0 ∧ z = rD s u d) ∨ (s = 0 ∧ z = fd false 0 0)) : valQ (2, s, u, d) z := by
  left
  refine ⟨rfl, ?_⟩
  rcases h with ⟨-, h⟩ | ⟨h1, h⟩
  · exact h
  · rw [h]
    have hu := h0.mp h1
    subst h1
    show fd false 0 0 = fd (decide ((0 : Int) < 0)) u (1 - (blen d : Int))
    rw [hu]
    exact fd_congr (by rw [Nat.zero_mul, Nat.zero_mul])
set_option maxRecDepth 100000 in
set_option maxHeartbeats 4000000 in
theorem c_X_kind {l : Launch} (hfl : l.flags = flags0) {D : va_G} {g : Nat → ClassId} {ad : Nat → Nat} {N : Nat} {F : Nat → va_E} {R : Nat → Vn} {ln sh : List Nat} {a : Int}
    (hN : 109 ≤ N) (hC : cst ad g R ln sh F) (hok : ∀ r, r < 8 → okv (R r)) (ha : inI a) :
    JC l y_X_kind b_X_kind 2 (Option.some Jvm.ClassFile.FieldType.int) rm_X_kind (0, 0) D jCl (jTys g) ad N F [.ref (ad 0), .int (iI a)] (ji ad N (fun z F' => z = (regV R a).1 ∧ cst ad g R ln sh F' ∧ offC F F')) := by
  obtain ⟨F0, W, K, S, hS, hV, hFc⟩ := hC
  have hS0 := hS
  obtain ⟨hX0, ⟨rf, hX1, hrf⟩, hDk, ⟨hl7, hT7, hln, hA7, tt7⟩, ⟨hl40, hch⟩, ⟨ra, rt, hRd⟩, ⟨x1, x2, x3, x4, x5, x6, x7, x8, x9, x10, hSp⟩, ⟨ex, hPn⟩, ⟨hl44, hT44, hsh, hA44, tt44⟩, ⟨wH, hl46, hT46, hH, hA46, tt46⟩, ⟨wB, hl48, hT48, hB, hA48, tt48⟩, ⟨wD, hl50, hT50, hD, hA50, tt50⟩⟩ := hS0
  have hW := hV.1
  obtain ⟨p1, k1, s1, u1, d1, hpA1, hpU1, hp12, hu1, hd1, hk1, hs1, hr1, hz1, hkV1, hreg1⟩ := cV_at hV hok a
  have hpL1 := (isU_1 hpU1).1
  replace hreg1 : hold _ := hreg1
  replace hz1 : hold _ := hz1
  refine JC.go hfl (own := "NumberTower") (lv := [(0, .ref (ad 0)), (1, .int (iI a))]) rfl (by decide +kernel) (Nat.le_of_ble_eq_true rfl) rfl (fun A => ?_)
  refine J_eqF (F2 := cF ad g F0 W K S) hFc ?_
  refine J_aload_n 0 d_X_kind_0 rfl rfl ?_
  refine J_iload_n 1 d_X_kind_1 rfl rfl ?_
  refine J_callVr cw_X_121 nh_X_numberAt pn_X_numberAt rfl rfl (by omega) ((cF_0 (by decide)).trans hX0) (As := [.int (iI a)]) (rest := []) rfl (Nat.le_of_ble_eq_true rfl) ⟨by decide, by decide⟩ rfl ⟨by decide, by decide⟩ d_X_kind_2 (c_X_numberAt hfl (F0 := F0) (W := W) (K := K) (S := S) (r := a) (p := p1) hN hW (hX0) (hX1) hrf (by omega) hpA1) (fun zr F1 hq => ?_)
  obtain ⟨rfl, eF1⟩ := hq
  refine J_eqF eF1 ?_
  refine gf_X_157 (by omega) (cF_U hpU1 hk1 hs1) rfl d_X_kind_5 ?_
  refine J_iret rfl rfl d_X_kind_8 ⟨by decide, by decide⟩ ?_
  exact ⟨_, rfl, rfl, rfl, hkV1, ⟨_, _, _, _, hS, hV, rfl⟩, (offC_e hFc (fun j hj => by rfl))⟩
set_option maxRecDepth 100000 in
set_option maxHeartbeats 4000000 in
theorem c_X_letter {l : Launch} (hfl : l.flags = flags0) {D : va_G} {g : Nat → ClassId} {ad : Nat → Nat} {N : Nat} {F : Nat → va_E} {R : Nat → Vn} {ln sh : List Nat} {k : Int}
    (hN : 109 ≤ N) (hC : cst ad g R ln sh F) (hok : ∀ r, r < 8 → okv (R r)) (hk : inI k) :
    JC l y_X_letter b_X_letter 2 (Option.some Jvm.ClassFile.FieldType.int) rm_X_letter (0, 0) D jCl (jTys g) ad N F [.ref (ad 0), .int (iI k)] (ji ad N (fun z F' => z = tat sh k ∧ cst ad g R ln sh F' ∧ offC F F')) := by
  obtain ⟨F0, W, K, S, hS, hV, hFc⟩ := hC
  have hS0 := hS
  obtain ⟨hX0, ⟨rf, hX1, hrf⟩, hDk, ⟨hl7, hT7, hln, hA7, tt7⟩, ⟨hl40, hch⟩, ⟨ra, rt, hRd⟩, ⟨x1, x2, x3, x4, x5, x6, x7, x8, x9, x10, hSp⟩, ⟨ex, hPn⟩, ⟨hl44, hT44, hsh, hA44, tt44⟩, ⟨wH, hl46, hT46, hH, hA46, tt46⟩, ⟨wB, hl48, hT48, hB, hA48, tt48⟩, ⟨wD, hl50, hT50, hD, hA50, tt50⟩⟩ := hS0
  have hW := hV.1
  
  refine JC.go hfl (own := "NumberTower") (lv := [(0, .ref (ad 0)), (1, .int (iI k))]) rfl (by decide +kernel) (Nat.le_of_ble_eq_true rfl) rfl (fun A => ?_)
  refine J_eqF (F2 := cF ad g F0 W K S) hFc ?_
  refine J_aload_n 0 d_X_letter_0 rfl rfl ?_
  refine gf_X_53 (by omega) ((cF_0 (by decide)).trans hX0) rfl d_X_letter_1 ?_
  refine gf_X_214 (by omega) ((cF_0 (by decide)).trans hPn) rfl d_X_letter_4 ?_
  refine J_iload_n 1 d_X_letter_7 rfl rfl ?_
  refine J_callVi cw_X_228 nh_T_at pn_T_at rfl rfl (by omega) ((cF_0 (by decide)).trans hT44) (As := [.int (iI k)]) (rest := []) rfl (Nat.le_of_ble_eq_true rfl) ⟨by decide, by decide⟩ rfl ⟨by decide, by decide⟩ d_X_letter_8 (c_T_at hfl (k := 44) (w := sh) (hh := hsh) (n := k) (by omega) ((cF_0 (by decide)).trans hT44) ((cF_0 (by decide)).trans hA44) tt44 hl44 ⟨by omega, by omega⟩) (fun ta1 F1 hq => ?_)
  obtain ⟨hta1, eF1⟩ := hq
  refine J_eqF eF1 ?_
  refine J_topi (r := tat sh k) (congrArg iI hta1) ?_
  refine J_iret rfl rfl d_X_letter_11 ⟨by decide, by decide⟩ ?_
  exact ⟨_, rfl, rfl, rfl, rfl, ⟨_, _, _, _, hS, hV, rfl⟩, (offC_e hFc (fun j hj => by rfl))⟩
set_option maxRecDepth 100000 in
set_option maxHeartbeats 4000000 in
theorem c_X_value {l : Launch} (hfl : l.flags = flags0) {D : va_G} {g : Nat → ClassId} {ad : Nat → Nat} {N : Nat} {F : Nat → va_E} {R : Nat → Vn} {ln sh : List Nat} {a : Int}
    (hN : 109 ≤ N) (hC : cst ad g R ln sh F) (hok : ∀ r, r < 8 → okv (R r)) (ha : inI a) :
    JC l y_X_value b_X_value 3 (Option.some Jvm.ClassFile.FieldType.double) rm_X_value (0, 0) D jCl (jTys g) ad N F [.ref (ad 0), .int (iI a)] (jd ad N (fun z F' => valQ (regV R a) z ∧ cst ad g R ln sh F' ∧ offC F F')) := by
  obtain ⟨F0, W, K, S, hS, hV, hFc⟩ := hC
  have hS0 := hS
  obtain ⟨hX0, ⟨rf, hX1, hrf⟩, hDk, ⟨hl7, hT7, hln, hA7, tt7⟩, ⟨hl40, hch⟩, ⟨ra, rt, hRd⟩, ⟨x1, x2, x3, x4, x5, x6, x7, x8, x9, x10, hSp⟩, ⟨ex, hPn⟩, ⟨hl44, hT44, hsh, hA44, tt44⟩, ⟨wH, hl46, hT46, hH, hA46, tt46⟩, ⟨wB, hl48, hT48, hB, hA48, tt48⟩, ⟨wD, hl50, hT50, hD, hA50, tt50⟩⟩ := hS0
  have hW := hV.1
  obtain ⟨p1, k1, s1, u1, d1, hpA1, hpU1, hp12, hu1, hd1, hk1, hs1, hr1, hz1, hkV1, hreg1⟩ := cV_at hV hok a
  have hpL1 := (isU_1 hpU1).1
  replace hreg1 : hold _ := hreg1
  replace hz1 : hold _ := hz1
  refine JC.go hfl (own := "NumberTower") (lv := [(0, .ref (ad 0)), (1, .int (iI a))]) rfl (by decide +kernel) (Nat.le_of_ble_eq_true rfl) rfl (fun A => ?_)
  refine J_eqF (F2 := cF ad g F0 W K S) hFc ?_
  refine J_aload_n 0 d_X_value_0 rfl rfl ?_
  refine J_iload_n 1 d_X_value_1 rfl rfl ?_
  refine J_callVr cw_X_121 nh_X_numberAt pn_X_numberAt rfl rfl (by omega) ((cF_0 (by decide)).trans hX0) (As := [.int (iI a)]) (rest := []) rfl (Nat.le_of_ble_eq_true rfl) ⟨by decide, by decide⟩ rfl ⟨by decide, by decide⟩ d_X_value_2 (c_X_numberAt hfl (F0 := F0) (W := W) (K := K) (S := S) (r := a) (p := p1) hN hW (hX0) (hX1) hrf (by omega) hpA1) (fun zr F1 hq => ?_)
  obtain ⟨rfl, eF1⟩ := hq
  refine J_eqF eF1 ?_
  refine J_astore_n (lv' := [(2, .ref (ad p1)), (0, .ref (ad 0)), (1, .int (iI a))]) d_X_value_5 rfl (by decide) rfl ?_
  refine J_aload_n 0 d_X_value_6 rfl rfl ?_
  refine gf_X_157 (by omega) (cF_U hpU1 hk1 hs1) rfl d_X_value_7 ?_
  refine J_iconst d_X_value_10 ?_
  refine J_if_icmpne (tgt := 21) d_X_value_11 (by decide) ⟨by omega, by omega⟩ ⟨by omega, by omega⟩ (fun c11 => ?_) (fun c11 => ?_)
  · refine J_dconst0 d_X_value_21 ?_
    refine J_dret rfl d_X_value_22 ⟨by decide, by decide⟩ ?_
    exact ⟨_, rfl, rfl, rfl, Or.inr ⟨by omega, c_d0⟩, ⟨_, _, _, _, hS, hV, rfl⟩, (offC_e hFc (fun j hj => by rfl))⟩
  · refine J_aload_n 0 d_X_value_14 rfl rfl ?_
    have hk2 : k1 = 2 := by omega
    have hg9 := hreg1
    unfold hold at hg9
    obtain ⟨hRV, hokv, hp58⟩ := hg9.resolve_left (by omega)
    obtain ⟨-, hd0, -, -, -, -, -, -, -, hre⟩ := okv_b hokv (by omega)
    obtain ⟨sa, sb, hre⟩ := hre hk2
    obtain ⟨⟨kk, hkk1, hkk2⟩, hrep, -⟩ := real_ok hre hd0
    refine J_callVd cw_X_231 nh_U_worth pn_U_worth rfl rfl (by omega) (cF_U hpU1 hk1 hs1) (As := []) (rest := []) rfl (Nat.le_of_ble_eq_true rfl) ⟨by decide, by decide⟩ rfl ⟨by decide, by decide⟩ d_X_value_15 (c_U_worth hfl (F0 := F0) (W := W) (K := K) (S := S) (k := p1) (u := u1) (d := d1) (kk := kk) (sg := s1) hN hW hpU1 hu1 hd1 hs1 ⟨by omega, by omega⟩ hkk1 (by omega) hrep) (fun wz F2 hq => ?_)
    obtain ⟨hwz, eF2⟩ := hq
    refine J_eqF eF2 ?_
    refine J_goto (tgt := 22) d_X_value_18 (by decide) ?_
    refine J_dret rfl d_X_value_22 ⟨by decide, by decide⟩ ?_
    exact ⟨_, rfl, rfl, rfl, (by rw [hRV, hk2]; exact valQ_2 hz1 hwz), ⟨_, _, _, _, hS, hV, rfl⟩, (offC_e hFc (fun j hj => by rfl))⟩
set_option maxRecDepth 100000 in
set_option maxHeartbeats 4000000 in
theorem c_X_part {l : Launch} (hfl : l.flags = flags0) {D : va_G} {g : Nat → ClassId} {ad : Nat → Nat} {N : Nat} {F : Nat → va_E} {R : Nat → Vn} {ln sh : List Nat} {a low ix : Int}
    (hN : 109 ≤ N) (hC : cst ad g R ln sh F) (hok : ∀ r, r < 8 → okv (R r)) (ha : inI a) (hl : low = 0 ∨ low = 1) (hk : inI ix) :
    JC l y_X_part b_X_part 5 (Option.some Jvm.ClassFile.FieldType.long) rm_X_part (0, 0) D jCl (jTys g) ad N F [.ref (ad 0), .int (iI a), .int (iI low), .int (iI ix)] (jl ad N (fun z F' => z = partQ (regV R a) low ix ∧ cst ad g R ln sh F' ∧ offC F F')) := by
  obtain ⟨F0, W, K, S, hS, hV, hFc⟩ := hC
  have hS0 := hS
  obtain ⟨hX0, ⟨rf, hX1, hrf⟩, hDk, ⟨hl7, hT7, hln, hA7, tt7⟩, ⟨hl40, hch⟩, ⟨ra, rt, hRd⟩, ⟨x1, x2, x3, x4, x5, x6, x7, x8, x9, x10, hSp⟩, ⟨ex, hPn⟩, ⟨hl44, hT44, hsh, hA44, tt44⟩, ⟨wH, hl46, hT46, hH, hA46, tt46⟩, ⟨wB, hl48, hT48, hB, hA48, tt48⟩, ⟨wD, hl50, hT50, hD, hA50, tt50⟩⟩ := hS0
  have hW := hV.1
  obtain ⟨p1, k1, s1, u1, d1, hpA1, hpU1, hp12, hu1, hd1, hk1, hs1, hr1, hz1, hkV1, hreg1⟩ := cV_at hV hok a
  have hpL1 := (isU_1 hpU1).1
  replace hreg1 : hold _ := hreg1
  replace hz1 : hold _ := hz1
  refine JC.go hfl (own := "NumberTower") (lv := [(0, .ref (ad 0)), (1, .int (iI a)), (2, .int (iI low)), (3, .int (iI ix))]) rfl (by decide +kernel) (Nat.le_of_ble_eq_true rfl) rfl (fun A => ?_)
  refine J_eqF (F2 := cF ad g F0 W K S) hFc ?_
  refine J_aload_n 0 d_X_part_0 rfl rfl ?_
  refine J_iload_n 1 d_X_part_1 rfl rfl ?_
  refine J_callVr cw_X_121 nh_X_numberAt pn_X_numberAt rfl rfl (by omega) ((cF_0 (by decide)).trans hX0) (As := [.int (iI a)]) (rest := []) rfl (Nat.le_of_ble_eq_true rfl) ⟨by decide, by decide⟩ rfl ⟨by decide, by decide⟩ d_X_part_2 (c_X_numberAt hfl (F0 := F0) (W := W) (K := K) (S := S) (r := a) (p := p1) hN hW (hX0) (hX1) hrf (by omega) hpA1) (fun zr F1 hq => ?_)
  obtain ⟨rfl, eF1⟩ := hq
  refine J_eqF eF1 ?_
  refine J_astore (lv' := [(4, .ref (ad p1)), (0, .ref (ad 0)), (1, .int (iI a)), (2, .int (iI low)), (3, .int (iI ix))]) d_X_part_5 (by decide) rfl ?_
  refine J_aload 0 d_X_part_7 rfl ?_
  refine J_callVi cw_X_125 nh_U_isThere pn_U_isThere rfl rfl (by omega) (cF_U hpU1 hk1 hs1) (As := []) (rest := []) rfl (Nat.le_of_ble_eq_true rfl) ⟨by decide, by decide⟩ rfl ⟨by decide, by decide⟩ d_X_part_9 (u_isThere hfl (F0 := F0) (W := W) (K := K) (S := S) (k := p1) (by omega) hW hpU1 (by rw [hk1]; exact ⟨by omega, by omega⟩)) (fun z2 F2 hq => ?_)
  obtain ⟨hz2, eF2⟩ := hq
  refine J_eqF eF2 ?_
  rw [hk1] at hz2
  refine J_ifeq (tgt := 33) d_X_part_12 (by decide) ⟨by omega, by omega⟩ (fun c12 => ?_) (fun c12 => ?_)
  · refine J_ldc2 (z := (-1)) d_X_part_33 wd_487 (by decide) ?_
    refine J_lret rfl d_X_part_36 ⟨by decide, by decide⟩ ?_
    exact ⟨_, rfl, rfl, rfl, (by unfold partQ; rw [if_pos (by omega)]), ⟨_, _, _, _, hS, hV, rfl⟩, (offC_e hFc (fun j hj => by rfl))⟩
  · refine J_aload 0 d_X_part_15 rfl ?_
    refine gf_X_157 (by omega) (cF_U hpU1 hk1 hs1) rfl d_X_part_17 ?_
    refine J_iconst d_X_part_20 ?_
    refine J_if_icmpeq (tgt := 33) d_X_part_21 (by decide) ⟨by omega, by omega⟩ ⟨by omega, by omega⟩ (fun c21 => ?_) (fun c21 => ?_)
    · refine J_ldc2 (z := (-1)) d_X_part_33 wd_487 (by decide) ?_
      refine J_lret rfl d_X_part_36 ⟨by decide, by decide⟩ ?_
      exact ⟨_, rfl, rfl, rfl, (by unfold partQ; rw [if_pos (by omega)]), ⟨_, _, _, _, hS, hV, rfl⟩, (offC_e hFc (fun j hj => by rfl))⟩
    · refine J_iload_n 4 d_X_part_24 rfl rfl ?_
      refine J_iflt (tgt := 33) d_X_part_25 (by decide) ⟨by omega, by omega⟩ (fun c25 => ?_) (fun c25 => ?_)
      · refine J_ldc2 (z := (-1)) d_X_part_33 wd_487 (by decide) ?_
        refine J_lret rfl d_X_part_36 ⟨by decide, by decide⟩ ?_
        exact ⟨_, rfl, rfl, rfl, (by unfold partQ; rw [if_pos (by omega)]), ⟨_, _, _, _, hS, hV, rfl⟩, (offC_e hFc (fun j hj => by rfl))⟩
      · refine J_iload_n 4 d_X_part_28 rfl rfl ?_
        refine J_iconst d_X_part_29 ?_
        refine J_if_icmple (tgt := 37) d_X_part_30 (by decide) ⟨by omega, by omega⟩ ⟨by omega, by omega⟩ (fun c30 => ?_) (fun c30 => ?_)
        · refine J_iload_n 3 d_X_part_37 rfl rfl ?_
          refine J_ifeq (tgt := 53) d_X_part_38 (by decide) ⟨by omega, by omega⟩ (fun c38 => ?_) (fun c38 => ?_)
          · refine J_aload 0 d_X_part_53 rfl ?_
            refine gf_X_166 (by omega) (cF_U hpU1 hk1 hs1) rfl d_X_part_55 ?_
            refine J_iload_n 4 d_X_part_58 rfl rfl ?_
            obtain ⟨q, hq⟩ : ∃ q : Nat, (q = 1 ∧ ix = 1) ∨ (q = 0 ∧ ix ≠ 1) := by
              by_cases c : ix = 1
              · exact ⟨1, Or.inl ⟨rfl, c⟩⟩
              · exact ⟨0, Or.inr ⟨rfl, c⟩⟩
            have hqx : q = ix.toNat := by omega
            refine J_callVl cw_X_237 nh_N_sixtyBits pn_N_sixtyBits rfl rfl (by omega) (cF_N (isU_1 hpU1).2.1 hu1) (As := [.int (iI ix)]) (rest := []) rfl (Nat.le_of_ble_eq_true rfl) ⟨by decide, by decide⟩ rfl ⟨by decide, by decide⟩ d_X_part_59 (n_sixtyBits hfl (F0 := F0) (W := W) (K := K) (S := S) (k := p1 + 1) (i := ix) (q := q) (hN := by omega) (hW := hW) (hk := (isU_1 hpU1).2.1) (x := u1) (hx := hu1) (hq := hq) (hi := hk)) (fun z3 F3 hq => ?_)
            obtain ⟨hz3, eF3⟩ := hq
            refine J_eqF eF3 ?_
            refine J_topl (r := ((u1 / 2 ^ (60 * q) % 2 ^ 60 : Nat) : Int)) (congrArg lI hz3) ?_
            refine J_lret rfl d_X_part_62 ⟨by decide, by decide⟩ ?_
            have hg9 := hreg1
            unfold hold at hg9
            obtain ⟨hRV, hokv, hp58⟩ := hg9.resolve_left (by omega)
            exact ⟨_, rfl, rfl, rfl, (by rw [hRV]; unfold partQ; rw [if_neg (show ¬(k1 = -1 ∨ k1 = 2 ∨ ¬(0 ≤ ix ∧ ix ≤ 1)) by omega), ← hqx, if_pos (by omega)]), ⟨_, _, _, _, hS, hV, rfl⟩, (offC_e hFc (fun j hj => by rfl))⟩
          · refine J_aload 0 d_X_part_41 rfl ?_
            refine gf_X_86 (by omega) (cF_U hpU1 hk1 hs1) rfl d_X_part_43 ?_
            refine J_iload_n 4 d_X_part_46 rfl rfl ?_
            obtain ⟨q, hq⟩ : ∃ q : Nat, (q = 1 ∧ ix = 1) ∨ (q = 0 ∧ ix ≠ 1) := by
              by_cases c : ix = 1
              · exact ⟨1, Or.inl ⟨rfl, c⟩⟩
              · exact ⟨0, Or.inr ⟨rfl, c⟩⟩
            have hqx : q = ix.toNat := by omega
            refine J_callVl cw_X_237 nh_N_sixtyBits pn_N_sixtyBits rfl rfl (by omega) (cF_N (isU_1 hpU1).2.2 hd1) (As := [.int (iI ix)]) (rest := []) rfl (Nat.le_of_ble_eq_true rfl) ⟨by decide, by decide⟩ rfl ⟨by decide, by decide⟩ d_X_part_47 (n_sixtyBits hfl (F0 := F0) (W := W) (K := K) (S := S) (k := p1 + 3) (i := ix) (q := q) (hN := by omega) (hW := hW) (hk := (isU_1 hpU1).2.2) (x := d1) (hx := hd1) (hq := hq) (hi := hk)) (fun z4 F4 hq => ?_)
            obtain ⟨hz4, eF4⟩ := hq
            refine J_eqF eF4 ?_
            refine J_topl (r := ((d1 / 2 ^ (60 * q) % 2 ^ 60 : Nat) : Int)) (congrArg lI hz4) ?_
            refine J_goto (tgt := 62) d_X_part_50 (by decide) ?_
            refine J_lret rfl d_X_part_62 ⟨by decide, by decide⟩ ?_
            have hg9 := hreg1
            unfold hold at hg9
            obtain ⟨hRV, hokv, hp58⟩ := hg9.resolve_left (by omega)
            exact ⟨_, rfl, rfl, rfl, (by rw [hRV]; unfold partQ; rw [if_neg (show ¬(k1 = -1 ∨ k1 = 2 ∨ ¬(0 ≤ ix ∧ ix ≤ 1)) by omega), ← hqx, if_neg (by omega)]), ⟨_, _, _, _, hS, hV, rfl⟩, (offC_e hFc (fun j hj => by rfl))⟩
        · refine J_ldc2 (z := (-1)) d_X_part_33 wd_487 (by decide) ?_
          refine J_lret rfl d_X_part_36 ⟨by decide, by decide⟩ ?_
          exact ⟨_, rfl, rfl, rfl, (by unfold partQ; rw [if_pos (by omega)]), ⟨_, _, _, _, hS, hV, rfl⟩, (offC_e hFc (fun j hj => by rfl))⟩
set_option maxRecDepth 100000 in
set_option maxHeartbeats 4000000 in
theorem c_X_wipe {l : Launch} (hfl : l.flags = flags0) {D : va_G} {g : Nat → ClassId} {ad : Nat → Nat} {N : Nat} {F : Nat → va_E} {R : Nat → Vn} {ln sh : List Nat}
    (hN : 109 ≤ N) (hC : cst ad g R ln sh F) (hok : ∀ r, r < 8 → okv (R r)) :
    JC l y_X_wipe b_X_wipe 1 (Option.none : Option Jvm.ClassFile.FieldType) rm_X_wipe (0, 0) D jCl (jTys g) ad N F [.ref (ad 0)] (jv ad N (fun F' => cst ad g R [] sh F' ∧ offC F F')) := by
  obtain ⟨F0, W, K, S, hS, hV, hFc⟩ := hC
  have hS0 := hS
  obtain ⟨hX0, ⟨rf, hX1, hrf⟩, hDk, ⟨hl7, hT7, hln, hA7, tt7⟩, ⟨hl40, hch⟩, ⟨ra, rt, hRd⟩, ⟨x1, x2, x3, x4, x5, x6, x7, x8, x9, x10, hSp⟩, ⟨ex, hPn⟩, ⟨hl44, hT44, hsh, hA44, tt44⟩, ⟨wH, hl46, hT46, hH, hA46, tt46⟩, ⟨wB, hl48, hT48, hB, hA48, tt48⟩, ⟨wD, hl50, hT50, hD, hA50, tt50⟩⟩ := hS0
  have hW := hV.1
  
  refine JC.go hfl (own := "NumberTower") (lv := [(0, .ref (ad 0))]) rfl (by decide +kernel) (Nat.le_of_ble_eq_true rfl) rfl (fun A => ?_)
  refine J_eqF (F2 := cF ad g F0 W K S) hFc ?_
  refine J_aload_n 0 d_X_wipe_0 rfl rfl ?_
  refine gf_X_23 (by omega) ((cF_0 (by decide)).trans hX0) rfl d_X_wipe_1 ?_
  refine J_callVv cw_X_65 nh_T_clear pn_T_clear rfl rfl (by omega) ((cF_0 (by decide)).trans hT7) (As := []) (rest := []) rfl (Nat.le_of_ble_eq_true rfl) ⟨by decide, by decide⟩ rfl ⟨by decide, by decide⟩ d_X_wipe_4 (c_T_clearN hfl (k := 7) (w := ln) (hh := hln) (by omega) ((cF_0 (by decide)).trans hT7) ((cF_0 (by decide)).trans hA7) tt7 hl7) (fun  F1 hq => ?_)
  have eF1 := hq
  refine J_eqF (F2 := cF ad g (va_up F0 7 (.inr (7, [.ref (ad 8), .int (iI ((([] : List Nat).length : Nat) : Int))]))) W K S) (eF1.trans (cF_up0 (by decide))) ?_
  refine J_vret rfl d_X_wipe_7 ⟨by decide, by decide⟩ ?_
  exact ⟨rfl, rfl, rfl, ⟨_, _, _, _, (cS_0 hS), hV, rfl⟩, (offC_e hFc (fun j hj => by rw [va_up_ne _ _ (by omega)]))⟩
set_option maxRecDepth 100000 in
set_option maxHeartbeats 4000000 in
theorem c_X_write {l : Launch} (hfl : l.flags = flags0) {D : va_G} {g : Nat → ClassId} {ad : Nat → Nat} {N : Nat} {F : Nat → va_E} {R : Nat → Vn} {ln sh : List Nat} {w : Int}
    (hN : 109 ≤ N) (hC : cst ad g R ln sh F) (hok : ∀ r, r < 8 → okv (R r)) (hw : inI w) :
    JC l y_X_write b_X_write 5 (Option.some Jvm.ClassFile.FieldType.boolean) rm_X_write (0, 0) D jCl (jTys g) ad N F [.ref (ad 0), .int (iI w)] (ji ad N (fun z F' => ((z = 1 ∧ writeP ln w ∧ cst ad g R (ln ++ wch w 4) sh F') ∨ (z = 0 ∧ ¬ writeP ln w ∧ cst ad g R ln sh F')) ∧ offC F F')) := by
  obtain ⟨F0, W, K, S, hS, hV, hFc⟩ := hC
  have hS0 := hS
  obtain ⟨hX0, ⟨rf, hX1, hrf⟩, hDk, ⟨hl7, hT7, hln, hA7, tt7⟩, ⟨hl40, hch⟩, ⟨ra, rt, hRd⟩, ⟨x1, x2, x3, x4, x5, x6, x7, x8, x9, x10, hSp⟩, ⟨ex, hPn⟩, ⟨hl44, hT44, hsh, hA44, tt44⟩, ⟨wH, hl46, hT46, hH, hA46, tt46⟩, ⟨wB, hl48, hT48, hB, hA48, tt48⟩, ⟨wD, hl50, hT50, hD, hA50, tt50⟩⟩ := hS0
  have hW := hV.1
  
  refine JC.go hfl (own := "NumberTower") (lv := [(0, .ref (ad 0)), (1, .int (iI w))]) rfl (by decide +kernel) (Nat.le_of_ble_eq_true rfl) rfl (fun A => ?_)
  refine J_eqF (F2 := cF ad g F0 W K S) hFc ?_
  refine J_iconst d_X_write_0 ?_
  refine J_istore_n (lv' := [(2, .int (iI 0)), (0, .ref (ad 0)), (1, .int (iI w))]) d_X_write_1 rfl (by decide) rfl ?_
  refine J_bipush d_X_write_2 (i8_ok (by decide)) ?_
  refine J_istore_n (lv' := [(3, .int (iI 24)), (2, .int (iI 0)), (0, .ref (ad 0)), (1, .int (iI w))]) d_X_write_4 rfl (by decide) rfl ?_
  refine J_pick (lv' := [(0, .ref (ad 0)), (1, .int (iI w)), (2, .int (iI 0)), (3, .int (iI 24))]) [2, 3, 1, 0] rfl ?_
  have loop5 : ∀ (fuel : Nat) (i : Int) (s : Int) (n : Nat) (h1 : -1 ≤ i ∧ i ≤ 3) (hsi : s = 8 * i) (hn : n = (wch w (3 - i).toNat).length) (hok2 : wok w (3 - i).toNat) (hfu : (i + 1).toNat < fuel), J l rm_X_write (0, 0) "NumberTower" b_X_write 5 (Option.some Jvm.ClassFile.FieldType.boolean) D jCl (jTys g) A (fun _ me => me.name = y_X_write.name) (ji ad N (fun z F' => ((z = 1 ∧ writeP ln w ∧ cst ad g R (ln ++ wch w 4) sh F') ∨ (z = 0 ∧ ¬ writeP ln w ∧ cst ad g R ln sh F')) ∧ offC F F')) ad N 0 0 5 [(0, .ref (ad 0)), (1, .int (iI w)), (2, .int (iI (n : Int))), (3, .int (iI s))] [] (cF ad g F0 W K S) := by
    intro fuel
    induction fuel with
    | zero => intro i s n h1 hsi hn hok2 hfu; exact absurd hfu (Nat.not_lt_zero _)
    | succ fuel ih =>
      intro i s n h1 hsi hn hok2 hfu
      have hbl := byt_lt w i.toNat
      have hnl := wch_len w (3 - i).toNat
      refine J_iload_n 3 d_X_write_5 rfl rfl ?_
      refine J_iflt (tgt := 48) d_X_write_6 (by decide) ⟨by omega, by omega⟩ (fun c6 => ?_) (fun c6 => ?_)
      · have hi4 : (3 - i).toNat = 4 := by omega
        rw [hi4] at hn hok2 hnl
        refine J_aload_n 0 d_X_write_48 rfl rfl ?_
        refine gf_X_23 (by omega) ((cF_0 (by decide)).trans hX0) rfl d_X_write_49 ?_
        refine gf_X_57 (by omega) ((cF_0 (by decide)).trans hT7) rfl d_X_write_52 ?_
        refine J_iload_n 2 d_X_write_55 rfl rfl ?_
        refine J_iadd d_X_write_56 ?_
        refine J_bipush d_X_write_57 (i8_ok (by decide)) ?_
        refine J_if_icmple (tgt := 64) d_X_write_59 (by decide) ⟨by omega, by omega⟩ ⟨by omega, by omega⟩ (fun c59 => ?_) (fun c59 => ?_)
        · refine J_bipush d_X_write_64 (i8_ok (by decide)) ?_
          refine J_istore_n (lv' := [(3, .int (iI 24)), (0, .ref (ad 0)), (1, .int (iI w)), (2, .int (iI (n : Int)))]) d_X_write_66 rfl (by decide) rfl ?_
          refine J_pick (lv' := [(0, .ref (ad 0)), (1, .int (iI w)), (2, .int (iI (n : Int))), (3, .int (iI 24))]) [1, 2, 3, 0] rfl ?_
          have eT5 : ln = (ln ++ wch w (3 - (3 : Int)).toNat) := (by rw [show (3 - (3 : Int)).toNat = 0 from rfl]; show ln = ln ++ []; rw [List.append_nil])
          have htx6 : tx hln (ln ++ wch w (3 - (3 : Int)).toNat) := eT5 ▸ tt7
          refine J_eqF (F2 := cF ad g (va_up F0 7 (.inr (7, [.ref (ad 8), .int (iI ((ln.length : Nat) : Int))]))) W K S) (congrArg (fun qq : Nat → va_E => cF ad g qq W K S) (up_same1 (i := 7) (a := ((.inr (7, [.ref (ad 8), .int (iI ((ln.length : Nat) : Int))])) : va_E)) (hT7))) ?_
          refine J_eqF (F2 := cF ad g (va_up F0 7 (.inr (7, [.ref (ad 8), .int (iI (((ln ++ wch w (3 - (3 : Int)).toNat).length : Nat) : Int))]))) W K S) (congrArg (fun qq : List Nat => cF ad g (va_up F0 7 (oT ad 7 ((qq.length : Nat) : Int))) W K S) eT5) ?_
          refine J_eqF (F2 := cF ad g (va_up (va_up F0 7 (.inr (7, [.ref (ad 8), .int (iI (((ln ++ wch w (3 - (3 : Int)).toNat).length : Nat) : Int))]))) 8 (.inl (g 1, 200, .inl (aI hln)))) W K S) (congrArg (fun qq : Nat → va_E => cF ad g qq W K S) (up_same1 (i := 8) (a := ((.inl (g 1, 200, .inl (aI hln))) : va_E)) (by rw [va_up_ne _ _ (by decide)]; exact hA7))) ?_
          refine J_eqF (F2 := cF ad g (va_up (va_up F0 8 (.inl (g 1, 200, .inl (aI hln)))) 7 (.inr (7, [.ref (ad 8), .int (iI (((ln ++ wch w (3 - (3 : Int)).toNat).length : Nat) : Int))]))) W K S) (congrArg (fun qq : Nat → va_E => cF ad g qq W K S) (up_cm (by decide))) ?_
          have loop67 : ∀ (fuel : Nat) (i : Int) (s : Int) (lf : Nat → Int) (h1 : -1 ≤ i ∧ i ≤ 3) (hsi : s = 8 * i) (hlf : tx lf (ln ++ wch w (3 - i).toNat)) (hfu : (i + 1).toNat < fuel), J l rm_X_write (0, 0) "NumberTower" b_X_write 5 (Option.some Jvm.ClassFile.FieldType.boolean) D jCl (jTys g) A (fun _ me => me.name = y_X_write.name) (ji ad N (fun z F' => ((z = 1 ∧ writeP ln w ∧ cst ad g R (ln ++ wch w 4) sh F') ∨ (z = 0 ∧ ¬ writeP ln w ∧ cst ad g R ln sh F')) ∧ offC F F')) ad N 0 0 67 [(0, .ref (ad 0)), (1, .int (iI w)), (2, .int (iI (n : Int))), (3, .int (iI s))] [] (cF ad g (va_up (va_up F0 8 (.inl (g 1, 200, .inl (aI lf)))) 7 (.inr (7, [.ref (ad 8), .int (iI (((ln ++ wch w (3 - i).toNat).length : Nat) : Int))]))) W K S) := by
            intro fuel
            induction fuel with
            | zero => intro i s lf h1 hsi hlf hfu; exact absurd hfu (Nat.not_lt_zero _)
            | succ fuel ih =>
              intro i s lf h1 hsi hlf hfu
              have hbl := byt_lt w i.toNat
              have hwl := wch_len w (3 - i).toNat
              have hwl4 : (wch w (3 - i).toNat).length ≤ (wch w 4).length := wch_mono w (by omega)
              refine J_iload_n 3 d_X_write_67 rfl rfl ?_
              refine J_iflt (tgt := 100) d_X_write_68 (by decide) ⟨by omega, by omega⟩ (fun c68 => ?_) (fun c68 => ?_)
              · have hi4 : (3 - i).toNat = 4 := by omega
                have eT7 : (ln ++ wch w (3 - i).toNat) = (ln ++ wch w 4) := (by rw [hi4])
                have htx8 : tx lf (ln ++ wch w 4) := eT7 ▸ hlf
                refine J_eqF (F2 := cF ad g (va_up (va_up F0 8 (.inl (g 1, 200, .inl (aI lf)))) 7 (.inr (7, [.ref (ad 8), .int (iI (((ln ++ wch w 4).length : Nat) : Int))]))) W K S) (congrArg (fun qq : List Nat => cF ad g (va_up (va_up F0 8 (.inl (g 1, 200, .inl (aI lf)))) 7 (oT ad 7 ((qq.length : Nat) : Int))) W K S) eT7) ?_
                refine J_iconst d_X_write_100 ?_
                refine J_iret rfl (nb01 (by omega)).1 d_X_write_101 ⟨by decide, by decide⟩ ?_
                have hlnok : (ln ++ wch w 4).length ≤ 40 ∧ ∀ c, c ∈ ln ++ wch w 4 → 32 ≤ c ∧ c ≤ 126 := ⟨by rw [List.length_append]; omega, fun c hc => (List.mem_append.mp hc).elim (hch c) (hok2 c)⟩
                exact ⟨_, rfl, rfl, rfl, Or.inl ⟨rfl, ⟨hok2, by omega⟩, ⟨_, _, _, _, (cS_7 hS htx8 hlnok), hV, rfl⟩⟩, (offC_e hFc (fun j hj => by rw [va_up_ne _ _ (by omega), va_up_ne _ _ (by omega)]))⟩
              · refine J_iload_n 1 d_X_write_71 rfl rfl ?_
                refine J_iload_n 3 d_X_write_72 rfl rfl ?_
                refine J_topi (r := ((8 * i.toNat : Nat) : Int)) (congrArg iI (by omega)) ?_
                refine J_iushr (r := w % 4294967296 / 2 ^ (8 * i.toNat)) d_X_write_73 (iI_ushr (8 * i.toNat) (by omega)) ?_
                refine J_sipush d_X_write_74 (i16_ok (by decide)) ?_
                refine J_iand (r := (w % 4294967296 / 2 ^ (8 * i.toNat)) % 256) d_X_write_77 (iI_and 8 (by decide)) ?_
                refine J_topi (r := (((byt w i.toNat : Nat)) : Int)) (congrArg iI (byt_u (by omega))) ?_
                refine J_istore (lv' := [(4, .int (iI (((byt w i.toNat : Nat)) : Int))), (0, .ref (ad 0)), (1, .int (iI w)), (2, .int (iI (n : Int))), (3, .int (iI s))]) d_X_write_78 (by decide) rfl ?_
                refine J_iload 0 d_X_write_80 rfl ?_
                refine J_ifeq (tgt := 94) d_X_write_82 (by decide) ⟨by omega, by omega⟩ (fun c82 => ?_) (fun c82 => ?_)
                · refine J_iinc (j := 4) (b := s - 8) (lv' := [(3, .int (iI (s - 8))), (4, .int (iI (((byt w i.toNat : Nat)) : Int))), (0, .ref (ad 0)), (1, .int (iI w)), (2, .int (iI (n : Int)))]) d_X_write_94 rfl (by omega) (by decide) rfl ?_
                  refine J_goto (tgt := 67) d_X_write_97 (by decide) ?_
                  refine J_pick (lv' := [(0, .ref (ad 0)), (1, .int (iI w)), (2, .int (iI (n : Int))), (3, .int (iI (s - 8)))]) [2, 3, 4, 0] rfl ?_
                  have hj : (3 - (i - 1)).toNat = (3 - i).toNat + 1 := by omega
                  have hj2 : 3 - (3 - i).toNat = i.toNat := by omega
                  have eT9 : (ln ++ wch w (3 - i).toNat) = (ln ++ wch w (3 - (i - 1)).toNat) := (by rw [hj, wch_0 (by rw [hj2]; omega)])
                  have htx10 : tx lf (ln ++ wch w (3 - (i - 1)).toNat) := eT9 ▸ hlf
                  refine J_eqF (F2 := cF ad g (va_up (va_up F0 8 (.inl (g 1, 200, .inl (aI lf)))) 7 (.inr (7, [.ref (ad 8), .int (iI (((ln ++ wch w (3 - (i - 1)).toNat).length : Nat) : Int))]))) W K S) (congrArg (fun qq : List Nat => cF ad g (va_up (va_up F0 8 (.inl (g 1, 200, .inl (aI lf)))) 7 (oT ad 7 ((qq.length : Nat) : Int))) W K S) eT9) ?_
                  exact ih (i - 1) (s - 8) lf (by omega) (by omega) htx10 (by omega)
                · refine J_aload_n 1 d_X_write_85 rfl rfl ?_
                  refine gf_X_23 (by omega) ((cF_0 (by decide)).trans (by rw [va_up_ne _ _ (by decide), va_up_ne _ _ (by decide)]; exact hX0)) rfl d_X_write_86 ?_
                  refine J_iload 0 d_X_write_89 rfl ?_
                  have hw9 : (wch w (3 - i).toNat).length + 1 ≤ (wch w 4).length := by
                    have h1 := wch_mono w (show (3 - i).toNat + 1 ≤ 4 by omega)
                    rw [wch_1 (by rw [show 3 - (3 - i).toNat = i.toNat by omega]; omega), List.length_append] at h1
                    exact h1
                  refine J_callVv cw_X_61 nh_T_put pn_T_put rfl rfl (by omega) ((cF_0 (by decide)).trans (by rw [va_up_self])) (As := [.int (iI (((byt w i.toNat : Nat)) : Int))]) (rest := []) rfl (Nat.le_of_ble_eq_true rfl) ⟨by decide, by decide⟩ rfl ⟨by decide, by decide⟩ d_X_write_91 (c_T_putN hfl (k := 7) (w := (ln ++ wch w (3 - i).toNat)) (hh := lf) (c := byt w i.toNat) (by omega) ((cF_0 (by decide)).trans (by rw [va_up_self])) ((cF_0 (by decide)).trans (by rw [va_up_ne _ _ (by decide), va_up_self])) hlf (by rw [List.length_append]; omega) (by omega)) (fun  F1 hq => ?_)
                  obtain ⟨hh11, htx12, eF1⟩ := hq
                  refine J_eqF (F2 := cF ad g (va_up (va_up F0 8 (.inl (g 1, 200, .inl (aI hh11)))) 7 (.inr (7, [.ref (ad 8), .int (iI ((((ln ++ wch w (3 - i).toNat) ++ [byt w i.toNat]).length : Nat) : Int))]))) W K S) (eF1.trans (Eq.trans (congrArg (fun qF : Nat → va_E => va_up qF 7 (.inr (7, [.ref (ad 8), .int (iI ((((ln ++ wch w (3 - i).toNat) ++ [byt w i.toNat]).length : Nat) : Int))]))) ((cF_up0 (by decide)).trans (congrArg (fun qq => cF ad g qq W K S) (up_in1 (by decide))))) ((cF_up0 (by decide)).trans (congrArg (fun qq => cF ad g qq W K S) (up_in0))))) ?_
                  refine J_iinc (j := 4) (b := s - 8) (lv' := [(3, .int (iI (s - 8))), (4, .int (iI (((byt w i.toNat : Nat)) : Int))), (0, .ref (ad 0)), (1, .int (iI w)), (2, .int (iI (n : Int)))]) d_X_write_94 rfl (by omega) (by decide) rfl ?_
                  refine J_goto (tgt := 67) d_X_write_97 (by decide) ?_
                  refine J_pick (lv' := [(0, .ref (ad 0)), (1, .int (iI w)), (2, .int (iI (n : Int))), (3, .int (iI (s - 8)))]) [2, 3, 4, 0] rfl ?_
                  have hj : (3 - (i - 1)).toNat = (3 - i).toNat + 1 := by omega
                  have hj2 : 3 - (3 - i).toNat = i.toNat := by omega
                  have eT13 : ((ln ++ wch w (3 - i).toNat) ++ [byt w i.toNat]) = (ln ++ wch w (3 - (i - 1)).toNat) := (by rw [hj, wch_1 (by rw [hj2]; omega), ← List.append_assoc, hj2])
                  have htx14 : tx hh11 (ln ++ wch w (3 - (i - 1)).toNat) := eT13 ▸ htx12
                  refine J_eqF (F2 := cF ad g (va_up (va_up F0 8 (.inl (g 1, 200, .inl (aI hh11)))) 7 (.inr (7, [.ref (ad 8), .int (iI (((ln ++ wch w (3 - (i - 1)).toNat).length : Nat) : Int))]))) W K S) (congrArg (fun qq : List Nat => cF ad g (va_up (va_up F0 8 (.inl (g 1, 200, .inl (aI hh11)))) 7 (oT ad 7 ((qq.length : Nat) : Int))) W K S) eT13) ?_
                  exact ih (i - 1) (s - 8) hh11 (by omega) (by omega) htx14 (by omega)
          exact loop67 ((((3 : Int) + 1).toNat) + 1) (3 : Int) (24 : Int) hln (by omega) (by omega) htx6 (Nat.lt_succ_self _)
        · refine J_iconst d_X_write_62 ?_
          refine J_iret rfl (nb01 (by omega)).1 d_X_write_63 ⟨by decide, by decide⟩ ?_
          exact ⟨_, rfl, rfl, rfl, Or.inr ⟨rfl, fun h => absurd h.2 (by omega), ⟨_, _, _, _, hS, hV, rfl⟩⟩, (offC_e hFc (fun j hj => by rfl))⟩
      · refine J_iload_n 1 d_X_write_9 rfl rfl ?_
        refine J_iload_n 3 d_X_write_10 rfl rfl ?_
        refine J_topi (r := ((8 * i.toNat : Nat) : Int)) (congrArg iI (by omega)) ?_
        refine J_iushr (r := w % 4294967296 / 2 ^ (8 * i.toNat)) d_X_write_11 (iI_ushr (8 * i.toNat) (by omega)) ?_
        refine J_sipush d_X_write_12 (i16_ok (by decide)) ?_
        refine J_iand (r := (w % 4294967296 / 2 ^ (8 * i.toNat)) % 256) d_X_write_15 (iI_and 8 (by decide)) ?_
        refine J_topi (r := (((byt w i.toNat : Nat)) : Int)) (congrArg iI (byt_u (by omega))) ?_
        refine J_istore (lv' := [(4, .int (iI (((byt w i.toNat : Nat)) : Int))), (0, .ref (ad 0)), (1, .int (iI w)), (2, .int (iI (n : Int))), (3, .int (iI s))]) d_X_write_16 (by decide) rfl ?_
        refine J_iload 0 d_X_write_18 rfl ?_
        refine J_ifeq (tgt := 42) d_X_write_20 (by decide) ⟨by omega, by omega⟩ (fun c20 => ?_) (fun c20 => ?_)
        · refine J_iinc (j := 4) (b := s - 8) (lv' := [(3, .int (iI (s - 8))), (4, .int (iI (((byt w i.toNat : Nat)) : Int))), (0, .ref (ad 0)), (1, .int (iI w)), (2, .int (iI (n : Int)))]) d_X_write_42 rfl (by omega) (by decide) rfl ?_
          refine J_goto (tgt := 5) d_X_write_45 (by decide) ?_
          refine J_pick (lv' := [(0, .ref (ad 0)), (1, .int (iI w)), (2, .int (iI (n : Int))), (3, .int (iI (s - 8)))]) [2, 3, 4, 0] rfl ?_
          refine ih (i - 1) (s - 8) n (by omega) (by omega) ?_ ?_ (by omega)
          · have hj : (3 - (i - 1)).toNat = (3 - i).toNat + 1 := by omega
            have hj2 : 3 - (3 - i).toNat = i.toNat := by omega
            rw [hj, wch_0 (by rw [hj2]; omega)]; exact hn
          · have hj : (3 - (i - 1)).toNat = (3 - i).toNat + 1 := by omega
            have hj2 : 3 - (3 - i).toNat = i.toNat := by omega
            rw [hj]; exact wok_0 hok2 (by rw [hj2]; omega)
        · refine J_iload 0 d_X_write_23 rfl ?_
          refine J_bipush d_X_write_25 (i8_ok (by decide)) ?_
          refine J_if_icmplt (tgt := 37) d_X_write_27 (by decide) ⟨by omega, by omega⟩ ⟨by omega, by omega⟩ (fun c27 => ?_) (fun c27 => ?_)
          · refine J_iconst d_X_write_37 ?_
            refine J_iret rfl (nb01 (by omega)).1 d_X_write_38 ⟨by decide, by decide⟩ ?_
            exact ⟨_, rfl, rfl, rfl, Or.inr ⟨rfl, fun h => wok_no (j := (3 - i).toNat) (by omega) (by rw [show 3 - (3 - i).toNat = i.toNat by omega]; omega) (by rw [show 3 - (3 - i).toNat = i.toNat by omega]; omega) h.1, ⟨_, _, _, _, hS, hV, rfl⟩⟩, (offC_e hFc (fun j hj => by rfl))⟩
          · refine J_iload 0 d_X_write_30 rfl ?_
            refine J_bipush d_X_write_32 (i8_ok (by decide)) ?_
            refine J_if_icmple (tgt := 39) d_X_write_34 (by decide) ⟨by omega, by omega⟩ ⟨by omega, by omega⟩ (fun c34 => ?_) (fun c34 => ?_)
            · refine J_iinc (j := 3) (b := (n : Int) + 1) (lv' := [(2, .int (iI ((n : Int) + 1))), (4, .int (iI (((byt w i.toNat : Nat)) : Int))), (0, .ref (ad 0)), (1, .int (iI w)), (3, .int (iI s))]) d_X_write_39 rfl (by omega) (by decide) rfl ?_
              refine J_iinc (j := 4) (b := s - 8) (lv' := [(3, .int (iI (s - 8))), (2, .int (iI ((n : Int) + 1))), (4, .int (iI (((byt w i.toNat : Nat)) : Int))), (0, .ref (ad 0)), (1, .int (iI w))]) d_X_write_42 rfl (by omega) (by decide) rfl ?_
              refine J_goto (tgt := 5) d_X_write_45 (by decide) ?_
              refine J_pick (lv' := [(0, .ref (ad 0)), (1, .int (iI w)), (2, .int (iI ((n : Int) + 1))), (3, .int (iI (s - 8)))]) [3, 4, 1, 0] rfl ?_
              refine ih (i - 1) (s - 8) (n + 1) (by omega) (by omega) ?_ ?_ (by omega)
              · have hj : (3 - (i - 1)).toNat = (3 - i).toNat + 1 := by omega
                have hj2 : 3 - (3 - i).toNat = i.toNat := by omega
                rw [hj, wch_1 (by rw [hj2]; omega), List.length_append, ← hn]; rfl
              · have hj : (3 - (i - 1)).toNat = (3 - i).toNat + 1 := by omega
                have hj2 : 3 - (3 - i).toNat = i.toNat := by omega
                rw [hj]; exact wok_1 hok2 (by rw [hj2]; omega)
            · refine J_iconst d_X_write_37 ?_
              refine J_iret rfl (nb01 (by omega)).1 d_X_write_38 ⟨by decide, by decide⟩ ?_
              exact ⟨_, rfl, rfl, rfl, Or.inr ⟨rfl, fun h => wok_no (j := (3 - i).toNat) (by omega) (by rw [show 3 - (3 - i).toNat = i.toNat by omega]; omega) (by rw [show 3 - (3 - i).toNat = i.toNat by omega]; omega) h.1, ⟨_, _, _, _, hS, hV, rfl⟩⟩, (offC_e hFc (fun j hj => by rfl))⟩
  exact loop5 ((((3 : Int) + 1).toNat) + 1) (3 : Int) (24 : Int) 0 (by omega) (by omega) rfl (fun c hc => absurd hc (List.not_mem_nil)) (Nat.lt_succ_self _)
