/-! the class: turn, round, compare, hash -/

theorem QX_thr {ad : Nat → Nat} {g : Nat → ClassId} {F F0 F1 F9 : Nat → va_E} {W W1 : Nat → Nat} {K S K1 S1 : Nat → Int} {R : Nat → Vn} {ln sh : List Nat} {o : Sum Int Vn} {r : Option Vn} {k : Nat} (ho : o = optO r) (hFc : F = cF ad g F0 W K S) (hS : cS ad g ln sh F1) (hV : cV R W1 K1 S1) (hF1 : ∀ j, 98 ≤ j → F1 j = F0 j) (hq : k = 2 ∧ r = none ∧ scr ad g F1 W1 K1 S1 F9) : o = .inl (k : Int) ∧ cst ad g R ln sh F9 ∧ offC F F9 := by
  obtain ⟨h1, h2, W9, K9, S9, h3, h4, h5⟩ := hq
  refine ⟨by rw [ho, h2, h1]; rfl, ⟨F1, W9, K9, S9, hS, cV_fr hV h3 (fun j hj => h4 j (by omega)), h5⟩, ?_⟩
  rw [h5]
  exact offC_e hFc hF1
theorem fin_k {kd s : Int} {X Y : Nat} {w : Vn} (h : fin kd s X Y = some w) : w.1 = kd := by
  obtain ⟨k2, s2, u2, d2⟩ := w
  unfold fin at h
  split at h
  · rename_i c
    unfold near at h
    split at h
    · injection h with h; rw [← h]; exact c.symm
    · split at h
      · injection h with h; rw [← h]; exact c.symm
      · exact absurd h (by simp)
  · split at h
    · injection h with h; rw [← h]
    · exact absurd h (by simp)
theorem turn_k {what kx sx : Int} {ux dx : Nat} {w : Vn} (h : turnF what kx sx ux dx = some w) (hk : kx ≠ -1) : w.1 ≠ -1 := by
  unfold turnF at h
  split at h
  · rw [fin_k h]; decide
  · split at h
    · rw [fin_k h]; decide
    · split at h
      · have h2 : fin 2 sx ux dx = some w := by unfold fin; rw [if_pos rfl]; exact h
        rw [fin_k h2]; decide
      · split at h
        · injection h with h; rw [← h]; exact hk
        · injection h with h; rw [← h]; exact hk
theorem rnd_k {kx sx n : Int} {ux dx : Nat} {w : Vn} (h : rndF kx sx ux dx n = some w) (hk : kx ≠ -1) : w.1 ≠ -1 := by
  unfold rndF at h
  rw [fin_k h]; exact hk
set_option maxRecDepth 100000 in
set_option maxHeartbeats 4000000 in
theorem c_X_turn {l : Launch} (hfl : l.flags = flags0) {D : va_G} {g : Nat → ClassId} {ad : Nat → Nat} {N : Nat} {F : Nat → va_E} {R : Nat → Vn} {ln sh : List Nat} {what a to : Int}
    (hN : 109 ≤ N) (hC : cst ad g R ln sh F) (hok : ∀ r, r < 8 → okv (R r)) (hw : inI what) (ha : inI a) (hto : inI to) :
    JC l y_X_turn b_X_turn 5 (Option.some Jvm.ClassFile.FieldType.int) rm_X_turn (0, 0) D jCl (jTys g) ad N F [.ref (ad 0), .int (iI what), .int (iI a), .int (iI to)] (QX ad N g R ln sh to (turnO R what a to) F) := by
  obtain ⟨F0, W, K, S, hS, hV, hFc⟩ := hC
  have hS0 := hS
  obtain ⟨hX0, ⟨rf, hX1, hrf⟩, hDk, ⟨hl7, hT7, hln, hA7, tt7⟩, ⟨hl40, hch⟩, ⟨ra, rt, hRd⟩, ⟨x1, x2, x3, x4, x5, x6, x7, x8, x9, x10, hSp⟩, ⟨ex, hPn⟩, ⟨hl44, hT44, hsh, hA44, tt44⟩, ⟨wH, hl46, hT46, hH, hA46, tt46⟩, ⟨wB, hl48, hT48, hB, hA48, tt48⟩, ⟨wD, hl50, hT50, hD, hA50, tt50⟩⟩ := hS0
  have hW := hV.1
  obtain ⟨p1, k1, s1, u1, d1, hpA1, hpU1, hp12, hu1, hd1, hk1, hs1, hr1, hz1, hkV1, hreg1⟩ := cV_at hV hok a
  have hpL1 := (isU_1 hpU1).1
  replace hreg1 : hold _ := hreg1
  replace hz1 : hold _ := hz1
  refine JC.go hfl (own := "NumberTower") (lv := [(0, .ref (ad 0)), (1, .int (iI what)), (2, .int (iI a)), (3, .int (iI to))]) rfl (by decide +kernel) (Nat.le_of_ble_eq_true rfl) rfl (fun A => ?_)
  refine J_eqF (F2 := cF ad g F0 W K S) hFc ?_
  refine J_aload_n 0 d_X_turn_0 rfl rfl ?_
  refine J_iload_n 2 d_X_turn_1 rfl rfl ?_
  refine J_callVr cw_X_121 nh_X_numberAt pn_X_numberAt rfl rfl (by omega) ((cF_0 (by decide)).trans hX0) (As := [.int (iI a)]) (rest := []) rfl (Nat.le_of_ble_eq_true rfl) ⟨by decide, by decide⟩ rfl ⟨by decide, by decide⟩ d_X_turn_2 (c_X_numberAt hfl (F0 := F0) (W := W) (K := K) (S := S) (r := a) (p := p1) hN hW (hX0) (hX1) hrf (by omega) hpA1) (fun zr F1 hq => ?_)
  obtain ⟨rfl, eF1⟩ := hq
  refine J_eqF eF1 ?_
  refine J_astore (lv' := [(4, .ref (ad p1)), (0, .ref (ad 0)), (1, .int (iI what)), (2, .int (iI a)), (3, .int (iI to))]) d_X_turn_5 (by decide) rfl ?_
  refine J_iload_n 2 d_X_turn_7 rfl rfl ?_
  refine J_iflt (tgt := 31) d_X_turn_8 (by decide) ⟨by omega, by omega⟩ (fun c8 => ?_) (fun c8 => ?_)
  · refine J_throw (k := 0) (by decide) wd_525 wd_526 wd_15 wd_567 (List.mem_of_getElem? (i := 7) rfl) d_X_turn_31 d_X_turn_34 d_X_turn_35 d_X_turn_37 d_X_turn_40 ⟨by decide, by decide⟩ (by decide) (by decide) ?_
    exact Or.inr ⟨_, rfl, rfl, rfl, (by unfold turnO; rw [if_neg (by omega)]; rfl), ⟨_, _, _, _, hS, hV, rfl⟩, (offC_e hFc (fun j hj => by rfl))⟩
  · refine J_iload_n 2 d_X_turn_11 rfl rfl ?_
    refine J_iconst d_X_turn_12 ?_
    refine J_if_icmpgt (tgt := 31) d_X_turn_13 (by decide) ⟨by omega, by omega⟩ ⟨by omega, by omega⟩ (fun c13 => ?_) (fun c13 => ?_)
    · refine J_throw (k := 0) (by decide) wd_525 wd_526 wd_15 wd_567 (List.mem_of_getElem? (i := 7) rfl) d_X_turn_31 d_X_turn_34 d_X_turn_35 d_X_turn_37 d_X_turn_40 ⟨by decide, by decide⟩ (by decide) (by decide) ?_
      exact Or.inr ⟨_, rfl, rfl, rfl, (by unfold turnO; rw [if_neg (by omega)]; rfl), ⟨_, _, _, _, hS, hV, rfl⟩, (offC_e hFc (fun j hj => by rfl))⟩
    · refine J_iload_n 4 d_X_turn_16 rfl rfl ?_
      refine J_callSi cw_X_75 nh_X_isRegister pn_X_isRegister rfl (As := [.int (iI to)]) (rest := []) rfl (Nat.le_of_ble_eq_true rfl) ⟨by decide, by decide⟩ rfl ⟨by decide, by decide⟩ d_X_turn_17 (c_X_isRegister hfl (r := to) (by omega)) (fun z1 F2 hq => ?_)
      obtain ⟨hz1, eF2⟩ := hq
      refine J_eqF eF2 ?_
      refine J_ifeq (tgt := 31) d_X_turn_20 (by decide) ⟨by omega, by omega⟩ (fun c20 => ?_) (fun c20 => ?_)
      · refine J_throw (k := 0) (by decide) wd_525 wd_526 wd_15 wd_567 (List.mem_of_getElem? (i := 7) rfl) d_X_turn_31 d_X_turn_34 d_X_turn_35 d_X_turn_37 d_X_turn_40 ⟨by decide, by decide⟩ (by decide) (by decide) ?_
        exact Or.inr ⟨_, rfl, rfl, rfl, (by unfold turnO; rw [if_neg (by omega)]; rfl), ⟨_, _, _, _, hS, hV, rfl⟩, (offC_e hFc (fun j hj => by rfl))⟩
      · refine J_aload 0 d_X_turn_23 rfl ?_
        refine J_callVi cw_X_125 nh_U_isThere pn_U_isThere rfl rfl (by omega) (cF_U hpU1 hk1 hs1) (As := []) (rest := []) rfl (Nat.le_of_ble_eq_true rfl) ⟨by decide, by decide⟩ rfl ⟨by decide, by decide⟩ d_X_turn_25 (u_isThere hfl (F0 := F0) (W := W) (K := K) (S := S) (k := p1) (by omega) hW hpU1 (by rw [hk1]; exact ⟨by omega, by omega⟩)) (fun z2 F3 hq => ?_)
        obtain ⟨hz2, eF3⟩ := hq
        refine J_eqF eF3 ?_
        rw [hk1] at hz2
        refine J_ifne (tgt := 41) d_X_turn_28 (by decide) ⟨by omega, by omega⟩ (fun c28 => ?_) (fun c28 => ?_)
        · have hg1 := hreg1
          unfold hold at hg1
          obtain ⟨hRV1, hokv1, hp581⟩ := hg1.resolve_left (by omega)
          obtain ⟨hk11, hd01, hs11, hfin1, hcop1, hk01, hb1, hs01, hb21, hre1⟩ := okv_b hokv1 (by omega)
          clear hg1
          have hs01x := hs01
          replace hk01 : hold _ := hk01
          replace hs01 : hold _ := hs01
          replace hb21 : hold _ := hb21
          replace hre1 : hold _ := hre1
          have hO : turnO R what a to = optO (turnF what k1 s1 u1 d1) := by unfold turnO; rw [if_pos (by omega), hRV1]
          refine J_aload_n 1 d_X_turn_41 rfl rfl ?_
          refine gf_X_30 (by omega) ((cF_0 (by decide)).trans hX0) rfl d_X_turn_42 ?_
          refine J_iload_n 2 d_X_turn_45 rfl rfl ?_
          refine J_aload 0 d_X_turn_46 rfl ?_
          refine J_callVvx cw_X_177 nh_D_turnTo pn_D_turnTo rfl rfl (by omega) ((cF_0 (by decide)).trans hDk) (As := [.int (iI what), .ref (ad p1)]) (rest := []) rfl (Nat.le_of_ble_eq_true rfl) ⟨by decide, by decide⟩ rfl ⟨by decide, by decide⟩ d_X_turn_48 (c_D_turnTo hfl (F0 := F0) (W := W) (K := K) (S := S) (x := p1) (ux := u1) (dx := d1) (kx := k1) (sx := s1) (what := what) hN hW (hDk) hpU1 (by omega) hu1 hd1 hk1 hs1 hr1 hb1 ⟨by omega, by omega⟩ hd01 (by omega) hcop1 hs01x) (fun  F18 hq => ?_) (fun k9 F9 hq => by exact Or.inr ⟨_, rfl, rfl, rfl, QX_thr hO hFc hS hV (fun j hj => by rfl) hq⟩)
          obtain ⟨kd3, sx4, u5, d6, W7, K8, S9, hr10, hb11, hf12, hk13, hs14, hu15, hd16, eF17⟩ := hq
          refine J_eqF (F2 := cF ad g F0 W7 K8 S9) eF17 ?_
          have hkn9 : kd3 ≠ -1 := turn_k hr10 (by omega)
          refine J_aload_n 1 d_X_turn_51 rfl rfl ?_
          refine J_iload_n 4 d_X_turn_52 rfl rfl ?_
          refine J_callVi cw_X_107 nh_X_keep pn_X_keep rfl rfl (by omega) ((cF_0 (by decide)).trans hX0) (As := [.int (iI to)]) (rest := []) rfl (Nat.le_of_ble_eq_true rfl) ⟨by decide, by decide⟩ rfl ⟨by decide, by decide⟩ d_X_turn_53 (c_X_keep hfl (F0 := F0) (W := W7) (K := K8) (S := S9) (to := to) (r := to.toNat) (u := u5) (d := d6) (q := 58 + 5 * to.toNat) (kd := kd3) (sx := sx4) hN hb11 (hX0) (hX1) hrf (hDk) ⟨by omega, by omega⟩ rfl rfl hk13 hs14 hu15 hd16) (fun z21 F22 hq => ?_)
          obtain ⟨hz21, hb19, eF20⟩ := hq
          refine J_eqF (F2 := cF ad g F0 (va_up (va_up W7 (58 + 5 * to.toNat + 1) u5) (58 + 5 * to.toNat + 3) d6) (va_up K8 (58 + 5 * to.toNat) kd3) (va_up S9 (58 + 5 * to.toNat) sx4)) eF20 ?_
          refine J_topi (r := kd3) (congrArg iI hz21) ?_
          refine J_iret rfl rfl d_X_turn_56 ⟨by decide, by decide⟩ ?_
          exact Or.inl ⟨_, rfl, rfl, rfl, (kd3, sx4, u5, d6), (hO.trans (by rw [hr10]; rfl)), rfl, ⟨_, _, _, _, hS, (cV_put (cV_fr hV hb11 (fun j hj => hf12 j (by omega))) (by omega) hb19 hkn9), rfl⟩, (offC_e hFc (fun j hj => by rfl))⟩
        · refine J_throw (k := 0) (by decide) wd_525 wd_526 wd_15 wd_567 (List.mem_of_getElem? (i := 7) rfl) d_X_turn_31 d_X_turn_34 d_X_turn_35 d_X_turn_37 d_X_turn_40 ⟨by decide, by decide⟩ (by decide) (by decide) ?_
          exact Or.inr ⟨_, rfl, rfl, rfl, (by unfold turnO; rw [if_neg (by omega)]; rfl), ⟨_, _, _, _, hS, hV, rfl⟩, (offC_e hFc (fun j hj => by rfl))⟩
set_option maxRecDepth 100000 in
set_option maxHeartbeats 4000000 in
theorem c_X_round {l : Launch} (hfl : l.flags = flags0) {D : va_G} {g : Nat → ClassId} {ad : Nat → Nat} {N : Nat} {F : Nat → va_E} {R : Nat → Vn} {ln sh : List Nat} {a n to : Int}
    (hN : 109 ≤ N) (hC : cst ad g R ln sh F) (hok : ∀ r, r < 8 → okv (R r)) (ha : inI a) (hn : inI n) (hto : inI to) :
    JC l y_X_round b_X_round 5 (Option.some Jvm.ClassFile.FieldType.int) rm_X_round (0, 0) D jCl (jTys g) ad N F [.ref (ad 0), .int (iI a), .int (iI n), .int (iI to)] (QX ad N g R ln sh to (roundO R a n to) F) := by
  obtain ⟨F0, W, K, S, hS, hV, hFc⟩ := hC
  have hS0 := hS
  obtain ⟨hX0, ⟨rf, hX1, hrf⟩, hDk, ⟨hl7, hT7, hln, hA7, tt7⟩, ⟨hl40, hch⟩, ⟨ra, rt, hRd⟩, ⟨x1, x2, x3, x4, x5, x6, x7, x8, x9, x10, hSp⟩, ⟨ex, hPn⟩, ⟨hl44, hT44, hsh, hA44, tt44⟩, ⟨wH, hl46, hT46, hH, hA46, tt46⟩, ⟨wB, hl48, hT48, hB, hA48, tt48⟩, ⟨wD, hl50, hT50, hD, hA50, tt50⟩⟩ := hS0
  have hW := hV.1
  obtain ⟨p1, k1, s1, u1, d1, hpA1, hpU1, hp12, hu1, hd1, hk1, hs1, hr1, hz1, hkV1, hreg1⟩ := cV_at hV hok a
  have hpL1 := (isU_1 hpU1).1
  replace hreg1 : hold _ := hreg1
  replace hz1 : hold _ := hz1
  refine JC.go hfl (own := "NumberTower") (lv := [(0, .ref (ad 0)), (1, .int (iI a)), (2, .int (iI n)), (3, .int (iI to))]) rfl (by decide +kernel) (Nat.le_of_ble_eq_true rfl) rfl (fun A => ?_)
  refine J_eqF (F2 := cF ad g F0 W K S) hFc ?_
  refine J_aload_n 0 d_X_round_0 rfl rfl ?_
  refine J_iload_n 1 d_X_round_1 rfl rfl ?_
  refine J_callVr cw_X_121 nh_X_numberAt pn_X_numberAt rfl rfl (by omega) ((cF_0 (by decide)).trans hX0) (As := [.int (iI a)]) (rest := []) rfl (Nat.le_of_ble_eq_true rfl) ⟨by decide, by decide⟩ rfl ⟨by decide, by decide⟩ d_X_round_2 (c_X_numberAt hfl (F0 := F0) (W := W) (K := K) (S := S) (r := a) (p := p1) hN hW (hX0) (hX1) hrf (by omega) hpA1) (fun zr F1 hq => ?_)
  obtain ⟨rfl, eF1⟩ := hq
  refine J_eqF eF1 ?_
  refine J_astore (lv' := [(4, .ref (ad p1)), (0, .ref (ad 0)), (1, .int (iI a)), (2, .int (iI n)), (3, .int (iI to))]) d_X_round_5 (by decide) rfl ?_
  refine J_iload_n 3 d_X_round_7 rfl rfl ?_
  refine J_bipush d_X_round_8 (i8_ok (by decide)) ?_
  refine J_if_icmplt (tgt := 34) d_X_round_10 (by decide) ⟨by omega, by omega⟩ ⟨by omega, by omega⟩ (fun c10 => ?_) (fun c10 => ?_)
  · refine J_throw (k := 0) (by decide) wd_525 wd_526 wd_15 wd_567 (List.mem_of_getElem? (i := 8) rfl) d_X_round_34 d_X_round_37 d_X_round_38 d_X_round_40 d_X_round_43 ⟨by decide, by decide⟩ (by decide) (by decide) ?_
    exact Or.inr ⟨_, rfl, rfl, rfl, (by unfold roundO; rw [if_neg (by omega)]; rfl), ⟨_, _, _, _, hS, hV, rfl⟩, (offC_e hFc (fun j hj => by rfl))⟩
  · refine J_iload_n 3 d_X_round_13 rfl rfl ?_
    refine J_bipush d_X_round_14 (i8_ok (by decide)) ?_
    refine J_if_icmpgt (tgt := 34) d_X_round_16 (by decide) ⟨by omega, by omega⟩ ⟨by omega, by omega⟩ (fun c16 => ?_) (fun c16 => ?_)
    · refine J_throw (k := 0) (by decide) wd_525 wd_526 wd_15 wd_567 (List.mem_of_getElem? (i := 8) rfl) d_X_round_34 d_X_round_37 d_X_round_38 d_X_round_40 d_X_round_43 ⟨by decide, by decide⟩ (by decide) (by decide) ?_
      exact Or.inr ⟨_, rfl, rfl, rfl, (by unfold roundO; rw [if_neg (by omega)]; rfl), ⟨_, _, _, _, hS, hV, rfl⟩, (offC_e hFc (fun j hj => by rfl))⟩
    · refine J_iload_n 4 d_X_round_19 rfl rfl ?_
      refine J_callSi cw_X_75 nh_X_isRegister pn_X_isRegister rfl (As := [.int (iI to)]) (rest := []) rfl (Nat.le_of_ble_eq_true rfl) ⟨by decide, by decide⟩ rfl ⟨by decide, by decide⟩ d_X_round_20 (c_X_isRegister hfl (r := to) (by omega)) (fun z23 F2 hq => ?_)
      obtain ⟨hz23, eF2⟩ := hq
      refine J_eqF eF2 ?_
      refine J_ifeq (tgt := 34) d_X_round_23 (by decide) ⟨by omega, by omega⟩ (fun c23 => ?_) (fun c23 => ?_)
      · refine J_throw (k := 0) (by decide) wd_525 wd_526 wd_15 wd_567 (List.mem_of_getElem? (i := 8) rfl) d_X_round_34 d_X_round_37 d_X_round_38 d_X_round_40 d_X_round_43 ⟨by decide, by decide⟩ (by decide) (by decide) ?_
        exact Or.inr ⟨_, rfl, rfl, rfl, (by unfold roundO; rw [if_neg (by omega)]; rfl), ⟨_, _, _, _, hS, hV, rfl⟩, (offC_e hFc (fun j hj => by rfl))⟩
      · refine J_aload 0 d_X_round_26 rfl ?_
        refine J_callVi cw_X_125 nh_U_isThere pn_U_isThere rfl rfl (by omega) (cF_U hpU1 hk1 hs1) (As := []) (rest := []) rfl (Nat.le_of_ble_eq_true rfl) ⟨by decide, by decide⟩ rfl ⟨by decide, by decide⟩ d_X_round_28 (u_isThere hfl (F0 := F0) (W := W) (K := K) (S := S) (k := p1) (by omega) hW hpU1 (by rw [hk1]; exact ⟨by omega, by omega⟩)) (fun z24 F3 hq => ?_)
        obtain ⟨hz24, eF3⟩ := hq
        refine J_eqF eF3 ?_
        rw [hk1] at hz24
        refine J_ifne (tgt := 44) d_X_round_31 (by decide) ⟨by omega, by omega⟩ (fun c31 => ?_) (fun c31 => ?_)
        · have hg1 := hreg1
          unfold hold at hg1
          obtain ⟨hRV1, hokv1, hp581⟩ := hg1.resolve_left (by omega)
          obtain ⟨hk11, hd01, hs11, hfin1, hcop1, hk01, hb1, hs01, hb21, hre1⟩ := okv_b hokv1 (by omega)
          clear hg1
          have hk01x := hk01
          replace hk01 : hold _ := hk01
          replace hs01 : hold _ := hs01
          replace hb21 : hold _ := hb21
          replace hre1 : hold _ := hre1
          have hO : roundO R a n to = optO (rndF k1 s1 u1 d1 n) := by unfold roundO; rw [if_pos (by omega), hRV1]
          refine J_aload_n 1 d_X_round_44 rfl rfl ?_
          refine gf_X_30 (by omega) ((cF_0 (by decide)).trans hX0) rfl d_X_round_45 ?_
          refine J_aload 0 d_X_round_48 rfl ?_
          refine J_iload_n 3 d_X_round_50 rfl rfl ?_
          refine J_callVvx cw_X_183 nh_D_roundTo pn_D_roundTo rfl rfl (by omega) ((cF_0 (by decide)).trans hDk) (As := [.ref (ad p1), .int (iI n)]) (rest := []) rfl (Nat.le_of_ble_eq_true rfl) ⟨by decide, by decide⟩ rfl ⟨by decide, by decide⟩ d_X_round_51 (c_D_roundTo hfl (F0 := F0) (W := W) (K := K) (S := S) (x := p1) (ux := u1) (dx := d1) (kx := k1) (sx := s1) (n := n) hN hW (hDk) hpU1 (by omega) hu1 hd1 hk1 hs1 hr1 hb1 ⟨by omega, by omega⟩ hd01 (by omega) hk01x) (fun  F40 hq => ?_) (fun k9 F9 hq => by exact Or.inr ⟨_, rfl, rfl, rfl, QX_thr hO hFc hS hV (fun j hj => by rfl) hq⟩)
          obtain ⟨kd25, sx26, u27, d28, W29, K30, S31, hr32, hb33, hf34, hk35, hs36, hu37, hd38, eF39⟩ := hq
          refine J_eqF (F2 := cF ad g F0 W29 K30 S31) eF39 ?_
          have hkn9 : kd25 ≠ -1 := rnd_k hr32 (by omega)
          refine J_aload_n 1 d_X_round_54 rfl rfl ?_
          refine J_iload_n 4 d_X_round_55 rfl rfl ?_
          refine J_callVi cw_X_107 nh_X_keep pn_X_keep rfl rfl (by omega) ((cF_0 (by decide)).trans hX0) (As := [.int (iI to)]) (rest := []) rfl (Nat.le_of_ble_eq_true rfl) ⟨by decide, by decide⟩ rfl ⟨by decide, by decide⟩ d_X_round_56 (c_X_keep hfl (F0 := F0) (W := W29) (K := K30) (S := S31) (to := to) (r := to.toNat) (u := u27) (d := d28) (q := 58 + 5 * to.toNat) (kd := kd25) (sx := sx26) hN hb33 (hX0) (hX1) hrf (hDk) ⟨by omega, by omega⟩ rfl rfl hk35 hs36 hu37 hd38) (fun z43 F44 hq => ?_)
          obtain ⟨hz43, hb41, eF42⟩ := hq
          refine J_eqF (F2 := cF ad g F0 (va_up (va_up W29 (58 + 5 * to.toNat + 1) u27) (58 + 5 * to.toNat + 3) d28) (va_up K30 (58 + 5 * to.toNat) kd25) (va_up S31 (58 + 5 * to.toNat) sx26)) eF42 ?_
          refine J_topi (r := kd25) (congrArg iI hz43) ?_
          refine J_iret rfl rfl d_X_round_59 ⟨by decide, by decide⟩ ?_
          exact Or.inl ⟨_, rfl, rfl, rfl, (kd25, sx26, u27, d28), (hO.trans (by rw [hr32]; rfl)), rfl, ⟨_, _, _, _, hS, (cV_put (cV_fr hV hb33 (fun j hj => hf34 j (by omega))) (by omega) hb41 hkn9), rfl⟩, (offC_e hFc (fun j hj => by rfl))⟩
        · refine J_throw (k := 0) (by decide) wd_525 wd_526 wd_15 wd_567 (List.mem_of_getElem? (i := 8) rfl) d_X_round_34 d_X_round_37 d_X_round_38 d_X_round_40 d_X_round_43 ⟨by decide, by decide⟩ (by decide) (by decide) ?_
          exact Or.inr ⟨_, rfl, rfl, rfl, (by unfold roundO; rw [if_neg (by omega)]; rfl), ⟨_, _, _, _, hS, hV, rfl⟩, (offC_e hFc (fun j hj => by rfl))⟩
set_option maxRecDepth 100000 in
set_option maxHeartbeats 4000000 in
theorem c_X_compare {l : Launch} (hfl : l.flags = flags0) {D : va_G} {g : Nat → ClassId} {ad : Nat → Nat} {N : Nat} {F : Nat → va_E} {R : Nat → Vn} {ln sh : List Nat} {a b : Int}
    (hN : 109 ≤ N) (hC : cst ad g R ln sh F) (hok : ∀ r, r < 8 → okv (R r)) (ha : inI a) (hb : inI b) :
    JC l y_X_compare b_X_compare 5 (Option.some Jvm.ClassFile.FieldType.int) rm_X_compare (0, 0) D jCl (jTys g) ad N F [.ref (ad 0), .int (iI a), .int (iI b)] (ji ad N (fun z F' => z = cmpQ (regV R a) (regV R b) ∧ cst ad g R ln sh F' ∧ offC F F')) := by
  obtain ⟨F0, W, K, S, hS, hV, hFc⟩ := hC
  have hS0 := hS
  obtain ⟨hX0, ⟨rf, hX1, hrf⟩, hDk, ⟨hl7, hT7, hln, hA7, tt7⟩, ⟨hl40, hch⟩, ⟨ra, rt, hRd⟩, ⟨x1, x2, x3, x4, x5, x6, x7, x8, x9, x10, hSp⟩, ⟨ex, hPn⟩, ⟨hl44, hT44, hsh, hA44, tt44⟩, ⟨wH, hl46, hT46, hH, hA46, tt46⟩, ⟨wB, hl48, hT48, hB, hA48, tt48⟩, ⟨wD, hl50, hT50, hD, hA50, tt50⟩⟩ := hS0
  have hW := hV.1
  obtain ⟨p1, k1, s1, u1, d1, hpA1, hpU1, hp12, hu1, hd1, hk1, hs1, hr1, hz1, hkV1, hreg1⟩ := cV_at hV hok a
  have hpL1 := (isU_1 hpU1).1
  replace hreg1 : hold _ := hreg1
  replace hz1 : hold _ := hz1
  obtain ⟨p2, k2, s2, u2, d2, hpA2, hpU2, hp22, hu2, hd2, hk2, hs2, hr2, hz2, hkV2, hreg2⟩ := cV_at hV hok b
  have hpL2 := (isU_1 hpU2).1
  replace hreg2 : hold _ := hreg2
  replace hz2 : hold _ := hz2
  refine JC.go hfl (own := "NumberTower") (lv := [(0, .ref (ad 0)), (1, .int (iI a)), (2, .int (iI b))]) rfl (by decide +kernel) (Nat.le_of_ble_eq_true rfl) rfl (fun A => ?_)
  refine J_eqF (F2 := cF ad g F0 W K S) hFc ?_
  refine J_aload_n 0 d_X_compare_0 rfl rfl ?_
  refine J_iload_n 1 d_X_compare_1 rfl rfl ?_
  refine J_callVr cw_X_121 nh_X_numberAt pn_X_numberAt rfl rfl (by omega) ((cF_0 (by decide)).trans hX0) (As := [.int (iI a)]) (rest := []) rfl (Nat.le_of_ble_eq_true rfl) ⟨by decide, by decide⟩ rfl ⟨by decide, by decide⟩ d_X_compare_2 (c_X_numberAt hfl (F0 := F0) (W := W) (K := K) (S := S) (r := a) (p := p1) hN hW (hX0) (hX1) hrf (by omega) hpA1) (fun zr F1 hq => ?_)
  obtain ⟨rfl, eF1⟩ := hq
  refine J_eqF eF1 ?_
  refine J_astore_n (lv' := [(3, .ref (ad p1)), (0, .ref (ad 0)), (1, .int (iI a)), (2, .int (iI b))]) d_X_compare_5 rfl (by decide) rfl ?_
  refine J_aload_n 1 d_X_compare_6 rfl rfl ?_
  refine J_iload_n 3 d_X_compare_7 rfl rfl ?_
  refine J_callVr cw_X_121 nh_X_numberAt pn_X_numberAt rfl rfl (by omega) ((cF_0 (by decide)).trans hX0) (As := [.int (iI b)]) (rest := []) rfl (Nat.le_of_ble_eq_true rfl) ⟨by decide, by decide⟩ rfl ⟨by decide, by decide⟩ d_X_compare_8 (c_X_numberAt hfl (F0 := F0) (W := W) (K := K) (S := S) (r := b) (p := p2) hN hW (hX0) (hX1) hrf (by omega) hpA2) (fun zr F2 hq => ?_)
  obtain ⟨rfl, eF2⟩ := hq
  refine J_eqF eF2 ?_
  refine J_astore (lv' := [(4, .ref (ad p2)), (3, .ref (ad p1)), (0, .ref (ad 0)), (1, .int (iI a)), (2, .int (iI b))]) d_X_compare_11 (by decide) rfl ?_
  refine J_aload_n 1 d_X_compare_13 rfl rfl ?_
  refine J_callVi cw_X_125 nh_U_isThere pn_U_isThere rfl rfl (by omega) (cF_U hpU1 hk1 hs1) (As := []) (rest := []) rfl (Nat.le_of_ble_eq_true rfl) ⟨by decide, by decide⟩ rfl ⟨by decide, by decide⟩ d_X_compare_14 (u_isThere hfl (F0 := F0) (W := W) (K := K) (S := S) (k := p1) (by omega) hW hpU1 (by rw [hk1]; exact ⟨by omega, by omega⟩)) (fun z45 F3 hq => ?_)
  obtain ⟨hz45, eF3⟩ := hq
  refine J_eqF eF3 ?_
  rw [hk1] at hz45
  refine J_ifeq (tgt := 28) d_X_compare_17 (by decide) ⟨by omega, by omega⟩ (fun c17 => ?_) (fun c17 => ?_)
  · refine J_iconst d_X_compare_28 ?_
    refine J_iret rfl rfl d_X_compare_29 ⟨by decide, by decide⟩ ?_
    exact ⟨_, rfl, rfl, rfl, (by unfold cmpQ; rw [if_pos (by omega)]), ⟨_, _, _, _, hS, hV, rfl⟩, (offC_e hFc (fun j hj => by rfl))⟩
  · refine J_aload 0 d_X_compare_20 rfl ?_
    refine J_callVi cw_X_125 nh_U_isThere pn_U_isThere rfl rfl (by omega) (cF_U hpU2 hk2 hs2) (As := []) (rest := []) rfl (Nat.le_of_ble_eq_true rfl) ⟨by decide, by decide⟩ rfl ⟨by decide, by decide⟩ d_X_compare_22 (u_isThere hfl (F0 := F0) (W := W) (K := K) (S := S) (k := p2) (by omega) hW hpU2 (by rw [hk2]; exact ⟨by omega, by omega⟩)) (fun z46 F4 hq => ?_)
    obtain ⟨hz46, eF4⟩ := hq
    refine J_eqF eF4 ?_
    rw [hk2] at hz46
    refine J_ifne (tgt := 30) d_X_compare_25 (by decide) ⟨by omega, by omega⟩ (fun c25 => ?_) (fun c25 => ?_)
    · have hg1 := hreg1
      unfold hold at hg1
      obtain ⟨hRV1, hokv1, hp581⟩ := hg1.resolve_left (by omega)
      obtain ⟨hk11, hd01, hs11, hfin1, hcop1, hk01, hb1, hs01, hb21, hre1⟩ := okv_b hokv1 (by omega)
      clear hg1
      replace hk01 : hold _ := hk01
      replace hs01 : hold _ := hs01
      replace hb21 : hold _ := hb21
      replace hre1 : hold _ := hre1
      have hg2 := hreg2
      unfold hold at hg2
      obtain ⟨hRV2, hokv2, hp582⟩ := hg2.resolve_left (by omega)
      obtain ⟨hk12, hd02, hs12, hfin2, hcop2, hk02, hb2, hs02, hb22, hre2⟩ := okv_b hokv2 (by omega)
      clear hg2
      replace hk02 : hold _ := hk02
      replace hs02 : hold _ := hs02
      replace hb22 : hold _ := hb22
      replace hre2 : hold _ := hre2
      refine J_aload_n 2 d_X_compare_30 rfl rfl ?_
      refine gf_X_30 (by omega) ((cF_0 (by decide)).trans hX0) rfl d_X_compare_31 ?_
      refine J_aload_n 1 d_X_compare_34 rfl rfl ?_
      refine J_aload 0 d_X_compare_35 rfl ?_
      refine J_callVi cw_X_201 nh_D_orderOf pn_D_orderOf rfl rfl (by omega) ((cF_0 (by decide)).trans hDk) (As := [.ref (ad p1), .ref (ad p2)]) (rest := []) rfl (Nat.le_of_ble_eq_true rfl) ⟨by decide, by decide⟩ rfl ⟨by decide, by decide⟩ d_X_compare_37 (c_D_orderOf hfl (F0 := F0) (W := W) (K := K) (S := S) (p := p1) (q := p2) (xp := u1) (yp := d1) (xq := u2) (yq := d2) hN hW (hDk) hpU1 (by omega) hpU2 (by omega) hu1 hd1 hu2 hd2 (by rw [hs1]; omega) (by rw [hs2]; omega) (Nat.lt_trans (Nat.mul_lt_mul_of_lt_of_le hb1.1 (Nat.le_of_lt hb2.2) (by decide)) (by decide +kernel)) (Nat.lt_trans (Nat.mul_lt_mul_of_lt_of_le hb2.1 (Nat.le_of_lt hb1.2) (by decide)) (by decide +kernel))) (fun zo F51 hq => ?_)
      obtain ⟨hor, W47, hb48, hf49, eF50⟩ := hq
      rw [hs1, hs2] at hor
      refine J_eqF (F2 := cF ad g F0 W47 K S) eF50 ?_
      refine J_iret rfl rfl d_X_compare_40 ⟨by decide, by decide⟩ ?_
      exact ⟨_, rfl, rfl, rfl, (by rw [hor, hRV1, hRV2]; unfold cmpQ; rw [if_neg (show ¬(k1 = -1 ∨ k2 = -1) by omega)]), ⟨_, _, _, _, hS, (cV_fr hV hb48 (fun j hj => ⟨hf49 j (by omega) (by omega), rfl, rfl⟩)), rfl⟩, (offC_e hFc (fun j hj => by rfl))⟩
    · refine J_iconst d_X_compare_28 ?_
      refine J_iret rfl rfl d_X_compare_29 ⟨by decide, by decide⟩ ?_
      exact ⟨_, rfl, rfl, rfl, (by unfold cmpQ; rw [if_pos (by omega)]), ⟨_, _, _, _, hS, hV, rfl⟩, (offC_e hFc (fun j hj => by rfl))⟩
set_option maxRecDepth 100000 in
set_option maxHeartbeats 4000000 in
theorem c_X_hash {l : Launch} (hfl : l.flags = flags0) {D : va_G} {g : Nat → ClassId} {ad : Nat → Nat} {N : Nat} {F : Nat → va_E} {R : Nat → Vn} {ln sh : List Nat} {a : Int}
    (hN : 109 ≤ N) (hC : cst ad g R ln sh F) (hok : ∀ r, r < 8 → okv (R r)) (ha : inI a) :
    JC l y_X_hash b_X_hash 3 (Option.some Jvm.ClassFile.FieldType.long) rm_X_hash (0, 0) D jCl (jTys g) ad N F [.ref (ad 0), .int (iI a)] (jl ad N (fun z F' => hashQ (regV R a) z ∧ cst ad g R ln sh F' ∧ offC F F')) := by
  obtain ⟨F0, W, K, S, hS, hV, hFc⟩ := hC
  have hS0 := hS
  obtain ⟨hX0, ⟨rf, hX1, hrf⟩, hDk, ⟨hl7, hT7, hln, hA7, tt7⟩, ⟨hl40, hch⟩, ⟨ra, rt, hRd⟩, ⟨x1, x2, x3, x4, x5, x6, x7, x8, x9, x10, hSp⟩, ⟨ex, hPn⟩, ⟨hl44, hT44, hsh, hA44, tt44⟩, ⟨wH, hl46, hT46, hH, hA46, tt46⟩, ⟨wB, hl48, hT48, hB, hA48, tt48⟩, ⟨wD, hl50, hT50, hD, hA50, tt50⟩⟩ := hS0
  have hW := hV.1
  obtain ⟨p1, k1, s1, u1, d1, hpA1, hpU1, hp12, hu1, hd1, hk1, hs1, hr1, hz1, hkV1, hreg1⟩ := cV_at hV hok a
  have hpL1 := (isU_1 hpU1).1
  replace hreg1 : hold _ := hreg1
  replace hz1 : hold _ := hz1
  refine JC.go hfl (own := "NumberTower") (lv := [(0, .ref (ad 0)), (1, .int (iI a))]) rfl (by decide +kernel) (Nat.le_of_ble_eq_true rfl) rfl (fun A => ?_)
  refine J_eqF (F2 := cF ad g F0 W K S) hFc ?_
  refine J_aload_n 0 d_X_hash_0 rfl rfl ?_
  refine J_iload_n 1 d_X_hash_1 rfl rfl ?_
  refine J_callVr cw_X_121 nh_X_numberAt pn_X_numberAt rfl rfl (by omega) ((cF_0 (by decide)).trans hX0) (As := [.int (iI a)]) (rest := []) rfl (Nat.le_of_ble_eq_true rfl) ⟨by decide, by decide⟩ rfl ⟨by decide, by decide⟩ d_X_hash_2 (c_X_numberAt hfl (F0 := F0) (W := W) (K := K) (S := S) (r := a) (p := p1) hN hW (hX0) (hX1) hrf (by omega) hpA1) (fun zr F1 hq => ?_)
  obtain ⟨rfl, eF1⟩ := hq
  refine J_eqF eF1 ?_
  refine J_astore_n (lv' := [(2, .ref (ad p1)), (0, .ref (ad 0)), (1, .int (iI a))]) d_X_hash_5 rfl (by decide) rfl ?_
  refine J_aload_n 0 d_X_hash_6 rfl rfl ?_
  refine J_callVi cw_X_125 nh_U_isThere pn_U_isThere rfl rfl (by omega) (cF_U hpU1 hk1 hs1) (As := []) (rest := []) rfl (Nat.le_of_ble_eq_true rfl) ⟨by decide, by decide⟩ rfl ⟨by decide, by decide⟩ d_X_hash_7 (u_isThere hfl (F0 := F0) (W := W) (K := K) (S := S) (k := p1) (by omega) hW hpU1 (by rw [hk1]; exact ⟨by omega, by omega⟩)) (fun z52 F2 hq => ?_)
  obtain ⟨hz52, eF2⟩ := hq
  refine J_eqF eF2 ?_
  rw [hk1] at hz52
  refine J_ifeq (tgt := 24) d_X_hash_10 (by decide) ⟨by omega, by omega⟩ (fun c10 => ?_) (fun c10 => ?_)
  · refine J_lconst (v := 0) d_X_hash_24 rfl ?_
    refine J_lret rfl d_X_hash_25 ⟨by decide, by decide⟩ ?_
    exact ⟨_, rfl, rfl, rfl, Or.inl ⟨by omega, rfl⟩, ⟨_, _, _, _, hS, hV, rfl⟩, (offC_e hFc (fun j hj => by rfl))⟩
  · have hg1 := hreg1
    unfold hold at hg1
    obtain ⟨hRV1, hokv1, hp581⟩ := hg1.resolve_left (by omega)
    obtain ⟨hk11, hd01, hs11, hfin1, hcop1, hk01, hb1, hs01, hb21, hre1⟩ := okv_b hokv1 (by omega)
    clear hg1
    replace hk01 : hold _ := hk01
    replace hs01 : hold _ := hs01
    replace hb21 : hold _ := hb21
    replace hre1 : hold _ := hre1
    refine J_aload_n 1 d_X_hash_13 rfl rfl ?_
    refine gf_X_30 (by omega) ((cF_0 (by decide)).trans hX0) rfl d_X_hash_14 ?_
    refine J_aload_n 0 d_X_hash_17 rfl rfl ?_
    refine J_callVl cw_X_205 nh_D_hashOf pn_D_hashOf rfl rfl (by omega) ((cF_0 (by decide)).trans hDk) (As := [.ref (ad p1)]) (rest := []) rfl (Nat.le_of_ble_eq_true rfl) ⟨by decide, by decide⟩ rfl ⟨by decide, by decide⟩ d_X_hash_18 (c_D_hashOf hfl (F0 := F0) (W := W) (K := K) (S := S) (x := p1) (ux := u1) (dx := d1) (kx := k1) (sx := s1) hN hW (hDk) hpU1 (by omega) hu1 hd1 hk1 hs1 hr1 hb1) (fun zh F57 hq => ?_)
    obtain ⟨hhs, W53, hb54, hf55, eF56⟩ := hq
    refine J_eqF (F2 := cF ad g F0 W53 K S) eF56 ?_
    refine J_goto (tgt := 25) d_X_hash_21 (by decide) ?_
    refine J_lret rfl d_X_hash_25 ⟨by decide, by decide⟩ ?_
    exact ⟨_, rfl, rfl, rfl, (by rw [hRV1]; exact Or.inr ⟨by omega, hhs⟩), ⟨_, _, _, _, hS, (cV_fr hV hb54 (fun j hj => ⟨hf55 j (by omega), rfl, rfl⟩)), rfl⟩, (offC_e hFc (fun j hj => by rfl))⟩
