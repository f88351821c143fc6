/-! the class: show, format -/

/-- what show and format of the class may end in -/
abbrev QW (ad : Nat → Nat) (N : Nat) (g : Nat → ClassId) (R : Nat → Vn) (ln sh : List Nat) (o : Sum Int (List Nat)) (F : Nat → va_E) : JQ :=
  jix ad N (fun z F' => ∃ w, o = .inr w ∧ z = (w.length : Int) ∧ cst ad g R ln w F' ∧ offC F F') (fun k F' => o = .inl (k : Int) ∧ cst ad g R ln sh F' ∧ offC F F')
theorem fmt_cls {w : List Nat} {k s : Int} {u d : Nat} : padT (padW (sAl w) (sZe w)) (max 0 (sWi w) - (((hedT s (sPl w) (sSh w) (sTy w k)).length + (bodT (sTy w k) (sPr w) (sPa w) (sSh w) u d).length : Nat) : Int)).toNat (padC (sFi w) (sZe w)) (hedT s (sPl w) (sSh w) (sTy w k)) (bodT (sTy w k) (sPr w) (sPa w) (sSh w) u d) = fmtV w (k, s, u, d) := by
  have e : (max 0 (sWi w) - (((hedT s (sPl w) (sSh w) (sTy w k)).length + (bodT (sTy w k) (sPr w) (sPa w) (sSh w) u d).length : Nat) : Int)).toNat = (sWi w - (((hedT s (sPl w) (sSh w) (sTy w k)).length + (bodT (sTy w k) (sPr w) (sPa w) (sSh w) u d).length : Nat) : Int)).toNat := by omega
  rw [e]; rfl
theorem fmt_len {w : List Nat} {k s : Int} {u d : Nat} (hw : sWi w ≤ 40) (h1 : (hedT s (sPl w) (sSh w) (sTy w k)).length ≤ 3) (h2 : (bodT (sTy w k) (sPr w) (sPa w) (sSh w) u d).length ≤ 160) : (fmtV w (k, s, u, d)).length ≤ 200 := by
  rw [← fmt_cls, padT_l]
  omega
set_option maxRecDepth 100000 in
set_option maxHeartbeats 4000000 in
theorem c_X_show {l : Launch} (hfl : l.flags = flags0) {D : va_G} {g : Nat → ClassId} {ad : Nat → Nat} {N : Nat} {F : Nat → va_E} {R : Nat → Vn} {ln sh : List Nat} {a : Int}
    (hN : 109 ≤ N) (hC : cst ad g R ln sh F) (hok : ∀ r, r < 8 → okv (R r)) (ha : inI a) :
    JC l y_X_show b_X_show 3 (Option.some Jvm.ClassFile.FieldType.int) rm_X_show (0, 0) D jCl (jTys g) ad N F [.ref (ad 0), .int (iI a)] (QW ad N g R ln sh (showO R a) F) := by
  obtain ⟨F0, W, K, S, hS, hV, hFc⟩ := hC
  have hS0 := hS
  obtain ⟨hX0, ⟨rf, hX1, hrf⟩, hDk, ⟨hl7, hT7, hln, hA7, tt7⟩, ⟨hl40, hch⟩, ⟨ra, rt, hRd⟩, ⟨x1, x2, x3, x4, x5, x6, x7, x8, x9, x10, hSp⟩, ⟨ex, hPn⟩, ⟨hl44, hT44, hsh, hA44, tt44⟩, ⟨wH, hl46, hT46, hH, hA46, tt46⟩, ⟨wB, hl48, hT48, hB, hA48, tt48⟩, ⟨wD, hl50, hT50, hD, hA50, tt50⟩⟩ := hS0
  have hW := hV.1
  obtain ⟨p1, k1, s1, u1, d1, hpA1, hpU1, hp12, hu1, hd1, hk1, hs1, hr1, hz1, hkV1, hreg1⟩ := cV_at hV hok a
  have hpL1 := (isU_1 hpU1).1
  replace hreg1 : hold _ := hreg1
  replace hz1 : hold _ := hz1
  refine JC.go hfl (own := "NumberTower") (lv := [(0, .ref (ad 0)), (1, .int (iI a))]) rfl (by decide +kernel) (Nat.le_of_ble_eq_true rfl) rfl (fun A => ?_)
  refine J_eqF (F2 := cF ad g F0 W K S) hFc ?_
  refine J_aload_n 0 d_X_show_0 rfl rfl ?_
  refine J_iload_n 1 d_X_show_1 rfl rfl ?_
  refine J_callVr cw_X_121 nh_X_numberAt pn_X_numberAt rfl rfl (by omega) ((cF_0 (by decide)).trans hX0) (As := [.int (iI a)]) (rest := []) rfl (Nat.le_of_ble_eq_true rfl) ⟨by decide, by decide⟩ rfl ⟨by decide, by decide⟩ d_X_show_2 (c_X_numberAt hfl (F0 := F0) (W := W) (K := K) (S := S) (r := a) (p := p1) hN hW (hX0) (hX1) hrf (by omega) hpA1) (fun zr F1 hq => ?_)
  obtain ⟨rfl, eF1⟩ := hq
  refine J_eqF eF1 ?_
  refine J_astore_n (lv' := [(2, .ref (ad p1)), (0, .ref (ad 0)), (1, .int (iI a))]) d_X_show_5 rfl (by decide) rfl ?_
  refine J_aload_n 0 d_X_show_6 rfl rfl ?_
  refine J_callVi cw_X_125 nh_U_isThere pn_U_isThere rfl rfl (by omega) (cF_U hpU1 hk1 hs1) (As := []) (rest := []) rfl (Nat.le_of_ble_eq_true rfl) ⟨by decide, by decide⟩ rfl ⟨by decide, by decide⟩ d_X_show_7 (u_isThere hfl (F0 := F0) (W := W) (K := K) (S := S) (k := p1) (by omega) hW hpU1 (by rw [hk1]; exact ⟨by omega, by omega⟩)) (fun z1 F2 hq => ?_)
  obtain ⟨hz1, eF2⟩ := hq
  refine J_eqF eF2 ?_
  rw [hk1] at hz1
  refine J_ifne (tgt := 23) d_X_show_10 (by decide) ⟨by omega, by omega⟩ (fun c10 => ?_) (fun c10 => ?_)
  · have hg1 := hreg1
    unfold hold at hg1
    obtain ⟨hRV1, hokv1, hp581⟩ := hg1.resolve_left (by omega)
    obtain ⟨hk11, hd01, hs11, hfin1, hcop1, hk01, hb1, hs01, hb21, hre1⟩ := okv_b hokv1 (by omega)
    clear hg1
    replace hk01 : hold _ := hk01
    replace hs01 : hold _ := hs01
    replace hb21 : hold _ := hb21
    replace hre1 : hold _ := hre1
    refine J_aload_n 1 d_X_show_23 rfl rfl ?_
    refine gf_X_53 (by omega) ((cF_0 (by decide)).trans hX0) rfl d_X_show_24 ?_
    refine J_aload_n 0 d_X_show_27 rfl rfl ?_
    refine J_callVv cw_X_211 nh_P_showNumber pn_P_showNumber rfl rfl (by omega) ((cF_0 (by decide)).trans hPn) (As := [.ref (ad p1)]) (rest := []) rfl (Nat.le_of_ble_eq_true rfl) ⟨by decide, by decide⟩ rfl ⟨by decide, by decide⟩ d_X_show_28 (c_P_showNumber hfl (F0 := F0) (W := W) (K := K) (S := S) (ex := ex) (wS := sh) (hS := hsh) (wD := wD) (hD := hD) (p := p1) (u := u1) (d := d1) (kd := k1) (sx := s1) hN hW (hPn) (hT44) (hA44) tt44 hl44 (hT50) (hA50) tt50 hl50 hpU1 (by omega) hu1 hd1 hk1 hs1 hokv1 (by omega)) (fun  F2 hq => ?_)
    obtain ⟨W9, g1, g2, w1, ex9, hW9, hw1, th1, th2, hshl, hf9, eF9⟩ := hq
    refine J_eqF (F2 := cF ad g (va_up (va_up (va_up (va_up (va_up F0 43 (.inr (4, [.ref (ad 44), .ref (ad 46), .ref (ad 48), .ref (ad 50), .ref (ad 52), .ref (ad 54), .ref (ad 56), .int (iI ex9)]))) 51 (.inl (g 1, 200, .inl (aI g1)))) 50 (.inr (7, [.ref (ad 51), .int (iI ((w1.length : Nat) : Int))]))) 45 (.inl (g 1, 200, .inl (aI g2)))) 44 (.inr (7, [.ref (ad 45), .int (iI (((showV (k1, s1, u1, d1)).length : Nat) : Int))]))) W9 K S) eF9 ?_
    refine J_aload_n 1 d_X_show_31 rfl rfl ?_
    refine gf_X_53 (by omega) ((cF_0 (by decide)).trans (by rw [va_up_ne _ _ (by decide), va_up_ne _ _ (by decide), va_up_ne _ _ (by decide), va_up_ne _ _ (by decide), va_up_ne _ _ (by decide)]; exact hX0)) rfl d_X_show_32 ?_
    refine gf_X_214 (by omega) ((cF_0 (by decide)).trans (by rw [va_up_ne _ _ (by decide), va_up_ne _ _ (by decide), va_up_ne _ _ (by decide), va_up_ne _ _ (by decide), va_up_self])) rfl d_X_show_35 ?_
    refine gf_X_57 (by omega) ((cF_0 (by decide)).trans (by rw [va_up_self])) rfl d_X_show_38 ?_
    refine J_iret rfl rfl d_X_show_41 ⟨by decide, by decide⟩ ?_
    exact Or.inl ⟨_, rfl, rfl, rfl, _, showO_y hRV1 (by omega), rfl, ⟨_, _, _, _, (cS_44 (cS_50 (cS_43 hS) th1 hw1) th2 (Nat.le_trans hshl (by decide))), (cV_fr hV hW9 (fun j hj => ⟨hf9 j (by omega) (by omega) (by omega), rfl, rfl⟩)), rfl⟩, (offC_e hFc (fun j hj => by rw [va_up_ne _ _ (by omega), va_up_ne _ _ (by omega), va_up_ne _ _ (by omega), va_up_ne _ _ (by omega), va_up_ne _ _ (by omega)]))⟩
  · refine J_throw (k := 0) (by decide) wd_525 wd_526 wd_15 wd_567 (List.mem_of_getElem? (i := 10) rfl) d_X_show_13 d_X_show_16 d_X_show_17 d_X_show_19 d_X_show_22 ⟨by decide, by decide⟩ (by decide) (by decide) ?_
    exact Or.inr ⟨_, rfl, rfl, rfl, showO_n (by omega), ⟨_, _, _, _, hS, hV, rfl⟩, (offC_e hFc (fun j hj => by rfl))⟩
set_option maxRecDepth 100000 in
set_option maxHeartbeats 4000000 in
theorem c_X_format {l : Launch} (hfl : l.flags = flags0) {D : va_G} {g : Nat → ClassId} {ad : Nat → Nat} {N : Nat} {F : Nat → va_E} {R : Nat → Vn} {ln sh : List Nat} {a : Int}
    (hN : 109 ≤ N) (hC : cst ad g R ln sh F) (hok : ∀ r, r < 8 → okv (R r)) (ha : inI a) :
    JC l y_X_format b_X_format 4 (Option.some Jvm.ClassFile.FieldType.int) rm_X_format (0, 0) D jCl (jTys g) ad N F [.ref (ad 0), .int (iI a)] (QW ad N g R [] sh (formatO ln R a) F) := by
  obtain ⟨F0, W, K, S, hS, hV, hFc⟩ := hC
  have hS0 := hS
  obtain ⟨hX0, ⟨rf, hX1, hrf⟩, hDk, ⟨hl7, hT7, hln, hA7, tt7⟩, ⟨hl40, hch⟩, ⟨ra, rt, hRd⟩, ⟨x1, x2, x3, x4, x5, x6, x7, x8, x9, x10, hSp⟩, ⟨ex, hPn⟩, ⟨hl44, hT44, hsh, hA44, tt44⟩, ⟨wH, hl46, hT46, hH, hA46, tt46⟩, ⟨wB, hl48, hT48, hB, hA48, tt48⟩, ⟨wD, hl50, hT50, hD, hA50, tt50⟩⟩ := hS0
  have hW := hV.1
  obtain ⟨p1, k1, s1, u1, d1, hpA1, hpU1, hp12, hu1, hd1, hk1, hs1, hr1, hz1, hkV1, hreg1⟩ := cV_at hV hok a
  have hpL1 := (isU_1 hpU1).1
  replace hreg1 : hold _ := hreg1
  replace hz1 : hold _ := hz1
  refine JC.go hfl (own := "NumberTower") (lv := [(0, .ref (ad 0)), (1, .int (iI a))]) rfl (by decide +kernel) (Nat.le_of_ble_eq_true rfl) rfl (fun A => ?_)
  refine J_eqF (F2 := cF ad g F0 W K S) hFc ?_
  refine J_aload_n 0 d_X_format_0 rfl rfl ?_
  refine J_iload_n 1 d_X_format_1 rfl rfl ?_
  refine J_callVr cw_X_121 nh_X_numberAt pn_X_numberAt rfl rfl (by omega) ((cF_0 (by decide)).trans hX0) (As := [.int (iI a)]) (rest := []) rfl (Nat.le_of_ble_eq_true rfl) ⟨by decide, by decide⟩ rfl ⟨by decide, by decide⟩ d_X_format_2 (c_X_numberAt hfl (F0 := F0) (W := W) (K := K) (S := S) (r := a) (p := p1) hN hW (hX0) (hX1) hrf (by omega) hpA1) (fun zr F1 hq => ?_)
  obtain ⟨rfl, eF1⟩ := hq
  refine J_eqF eF1 ?_
  refine J_astore_n (lv' := [(2, .ref (ad p1)), (0, .ref (ad 0)), (1, .int (iI a))]) d_X_format_5 rfl (by decide) rfl ?_
  refine J_aload_n 1 d_X_format_6 rfl rfl ?_
  refine gf_X_46 (by omega) ((cF_0 (by decide)).trans hX0) rfl d_X_format_7 ?_
  refine J_callVi cw_X_217 nh_S_parse pn_S_parse rfl rfl (by omega) ((cF_0 (by decide)).trans hSp) (As := []) (rest := []) rfl (Nat.le_of_ble_eq_true rfl) ⟨by decide, by decide⟩ rfl ⟨by decide, by decide⟩ d_X_format_10 (c_S_parse hfl (lh := hln) (ln := ln) hN ((cF_0 (by decide)).trans hT7) ((cF_0 (by decide)).trans hA7) tt7 hl40 hch ((cF_0 (by decide)).trans hSp)) (fun zp F3 hq => ?_)
  obtain ⟨hsp, y1, y2, y3, y4, y5, y6, y7, y8, y9, y10, hys, eF8⟩ := hq
  have hzp : zp = 0 ∨ zp = 1 := by
    rcases hsp with w | w
    · exact Or.inr w.1
    · exact Or.inl w.1
  replace hsp : hold _ := hsp
  replace hys : hold _ := hys
  refine J_eqF (F2 := cF ad g (va_up F0 42 (.inr (6, [.ref (ad 7), .int (iI y1), .int (iI y2), .int (iI y3), .int (iI y4), .int (iI y5), .int (iI y6), .int (iI y7), .int (iI y8), .int (iI y9), .int (iI y10)]))) W K S) (eF8.trans (cF_up0 (by decide))) ?_
  refine J_istore_n (lv' := [(3, .int (iI zp)), (2, .ref (ad p1)), (0, .ref (ad 0)), (1, .int (iI a))]) d_X_format_13 rfl (by decide) rfl ?_
  refine J_aload_n 2 d_X_format_14 rfl rfl ?_
  refine gf_X_23 (by omega) ((cF_0 (by decide)).trans (by rw [va_up_ne _ _ (by decide)]; exact hX0)) rfl d_X_format_15 ?_
  refine J_callVv cw_X_65 nh_T_clear pn_T_clear rfl rfl (by omega) ((cF_0 (by decide)).trans (by rw [va_up_ne _ _ (by decide)]; exact hT7)) (As := []) (rest := []) rfl (Nat.le_of_ble_eq_true rfl) ⟨by decide, by decide⟩ rfl ⟨by decide, by decide⟩ d_X_format_18 (c_T_clearN hfl (k := 7) (w := ln) (hh := hln) (by omega) ((cF_0 (by decide)).trans (by rw [va_up_ne _ _ (by decide)]; exact hT7)) ((cF_0 (by decide)).trans (by rw [va_up_ne _ _ (by decide)]; exact hA7)) tt7 hl7) (fun  F2 hq => ?_)
  have eF2 := hq
  refine J_eqF (F2 := cF ad g (va_up (va_up F0 42 (.inr (6, [.ref (ad 7), .int (iI y1), .int (iI y2), .int (iI y3), .int (iI y4), .int (iI y5), .int (iI y6), .int (iI y7), .int (iI y8), .int (iI y9), .int (iI y10)]))) 7 (.inr (7, [.ref (ad 8), .int (iI ((([] : List Nat).length : Nat) : Int))]))) W K S) (eF2.trans (cF_up0 (by decide))) ?_
  refine J_aload_n 1 d_X_format_21 rfl rfl ?_
  refine J_callVi cw_X_125 nh_U_isThere pn_U_isThere rfl rfl (by omega) (cF_U hpU1 hk1 hs1) (As := []) (rest := []) rfl (Nat.le_of_ble_eq_true rfl) ⟨by decide, by decide⟩ rfl ⟨by decide, by decide⟩ d_X_format_22 (u_isThere hfl (F0 := va_up (va_up F0 42 (.inr (6, [.ref (ad 7), .int (iI y1), .int (iI y2), .int (iI y3), .int (iI y4), .int (iI y5), .int (iI y6), .int (iI y7), .int (iI y8), .int (iI y9), .int (iI y10)]))) 7 (.inr (7, [.ref (ad 8), .int (iI ((([] : List Nat).length : Nat) : Int))]))) (W := W) (K := K) (S := S) (k := p1) (by omega) hW hpU1 (by rw [hk1]; exact ⟨by omega, by omega⟩)) (fun z4 F3 hq => ?_)
  obtain ⟨hz4, eF3⟩ := hq
  refine J_eqF eF3 ?_
  rw [hk1] at hz4
  refine J_ifeq (tgt := 46) d_X_format_25 (by decide) ⟨by omega, by omega⟩ (fun c25 => ?_) (fun c25 => ?_)
  · refine J_throw (k := 0) (by decide) wd_525 wd_526 wd_15 wd_567 (List.mem_of_getElem? (i := 11) rfl) d_X_format_46 d_X_format_49 d_X_format_50 d_X_format_52 d_X_format_55 ⟨by decide, by decide⟩ (by decide) (by decide) ?_
    exact Or.inr ⟨_, rfl, rfl, rfl, (formatO_n (by omega)), ⟨_, _, _, _, (cS_0 (cS_42 hS)), hV, rfl⟩, (offC_e hFc (fun j hj => by rw [va_up_ne _ _ (by omega), va_up_ne _ _ (by omega)]))⟩
  · have hg1 := hreg1
    unfold hold at hg1
    obtain ⟨hRV1, hokv1, hp581⟩ := hg1.resolve_left (by omega)
    obtain ⟨hk11, hd01, hs11, hfin1, hcop1, hk01, hb1, hs01, hb21, hre1⟩ := okv_b hokv1 (by omega)
    clear hg1
    replace hk01 : hold _ := hk01
    replace hs01 : hold _ := hs01
    replace hb21 : hold _ := hb21
    replace hre1 : hold _ := hre1
    refine J_iload_n 0 d_X_format_28 rfl rfl ?_
    refine J_ifeq (tgt := 46) d_X_format_29 (by decide) ⟨by omega, by omega⟩ (fun c29 => ?_) (fun c29 => ?_)
    · refine J_throw (k := 0) (by decide) wd_525 wd_526 wd_15 wd_567 (List.mem_of_getElem? (i := 11) rfl) d_X_format_46 d_X_format_49 d_X_format_50 d_X_format_52 d_X_format_55 ⟨by decide, by decide⟩ (by decide) (by decide) ?_
      exact Or.inr ⟨_, rfl, rfl, rfl, (formatO_s hRV1 (fun q => by
          unfold hold at hsp
          rcases hsp with w | w
          · omega
          · exact w.2 (spG_iff.mp q).1)), ⟨_, _, _, _, (cS_0 (cS_42 hS)), hV, rfl⟩, (offC_e hFc (fun j hj => by rw [va_up_ne _ _ (by omega), va_up_ne _ _ (by omega)]))⟩
    · have hspP : spP ln := by
        unfold hold at hsp
        rcases hsp with w | w
        · exact w.2
        · omega
      unfold hold at hys
      obtain ⟨e1, e2, e3, e4, e5, e6, e7, e8, e9, e10⟩ := hys (by omega)
      refine J_eqF (F2 := cF ad g (va_up (va_up F0 42 (.inr (6, [.ref (ad 7), .int (iI (s9 ln : Int)), .int (iI (sFi ln : Int)), .int (iI (sAl ln : Int)), .int (iI (sPl ln : Int)), .int (iI (sSh ln)), .int (iI (sZe ln)), .int (iI (max 0 (sWi ln))), .int (iI (sPa ln : Int)), .int (iI (sPr ln)), .int (iI (sTc ln : Int))]))) 7 (.inr (7, [.ref (ad 8), .int (iI ((([] : List Nat).length : Nat) : Int))]))) W K S) (by rw [e1, e2, e3, e4, e5, e6, e7, e8, e9, e10]) ?_
      clear e1 e2 e3 e4 e5 e6 e7 e8 e9 e10 hys
      refine J_aload_n 2 d_X_format_32 rfl rfl ?_
      refine gf_X_46 (by omega) ((cF_0 (by decide)).trans (by rw [va_up_ne _ _ (by decide), va_up_ne _ _ (by decide)]; exact hX0)) rfl d_X_format_33 ?_
      refine J_aload_n 1 d_X_format_36 rfl rfl ?_
      refine gf_X_157 (by omega) (cF_U hpU1 hk1 hs1) rfl d_X_format_37 ?_
      refine J_callVi cw_X_219 nh_S_suits pn_S_suits rfl rfl (by omega) ((cF_0 (by decide)).trans (by rw [va_up_ne _ _ (by decide), va_up_self])) (As := [.int (iI k1)]) (rest := []) rfl (Nat.le_of_ble_eq_true rfl) ⟨by decide, by decide⟩ rfl ⟨by decide, by decide⟩ d_X_format_40 (c_S_suits hfl (ln := ln) (x1 := (s9 ln : Int)) (x7 := max 0 (sWi ln)) (kd := k1) hN ((cF_0 (by decide)).trans (by rw [va_up_ne _ _ (by decide), va_up_self])) ⟨by omega, by omega⟩) (fun zu F5 hq => ?_)
      obtain ⟨hsu, eF8⟩ := hq
      have hzu : zu = 0 ∨ zu = 1 := by
        rcases hsu with w | w
        · exact Or.inr w.1
        · exact Or.inl w.1
      replace hsu : hold _ := hsu
      refine J_eqF (F2 := cF ad g (va_up (va_up F0 42 (.inr (6, [.ref (ad 7), .int (iI (s9 ln : Int)), .int (iI (sFi ln : Int)), .int (iI (sAl ln : Int)), .int (iI (sPl ln : Int)), .int (iI (sSh ln)), .int (iI (sZe ln)), .int (iI (max 0 (sWi ln))), .int (iI (sPa ln : Int)), .int (iI (sPr ln)), .int (iI (sTy ln k1 : Int))]))) 7 (.inr (7, [.ref (ad 8), .int (iI ((([] : List Nat).length : Nat) : Int))]))) W K S) (eF8.trans ((cF_up0 (by decide)).trans (congrArg (fun qq => cF ad g qq W K S) (up_in1 (by decide))))) ?_
      refine J_ifne (tgt := 56) d_X_format_43 (by decide) ⟨by omega, by omega⟩ (fun c43 => ?_) (fun c43 => ?_)
      · have hspK : spK ln k1 := by
          unfold hold at hsu
          rcases hsu with w | w
          · exact w.2
          · omega
        have hsG : spG ln k1 := spG_iff.mpr ⟨hspP, hspK⟩
        have htB := sTy_b (w := ln) (kd := k1)
        have htl := sTy_l (w := ln) (kd := k1)
        have hprb : -1 ≤ sPr ln ∧ sPr ln ≤ 20 := by
          have h1 := sPr_b (w := ln)
          have h2 := hspP.2.2
          have h3 := sPr_t hspP
          omega
        have hpaB := sPa_b (w := ln)
        have hpab : sPa ln < 128 := by omega
        have hwi2 : sWi ln ≤ 40 := hspP.2.1
        have hwi : 0 ≤ max 0 (sWi ln) ∧ max 0 (sWi ln) ≤ 40 := by omega
        have hfi : sFi ln < 128 := by
          have := sFi_b hch
          omega
        unfold hold at hk01 hb21 hre1 hz1
        have hxy1 := xy_b hd01 hk11 hb21 hre1
        have hI1 : (sTy ln k1 = 100 ∨ sTy ln k1 = 98 ∨ sTy ln k1 = 120 ∨ sTy ln k1 = 88) → u1 < 2 ^ 120 := fun q => (hb21 (by rw [spG_i hsG q]; decide)).1
        have hokB := (okT_bod (sh := sSh ln) hd01 hxy1 (Nat.lt_trans hb1.1 (by decide)) (Nat.lt_trans hb1.2 (by decide)) hprb.2 hpab (show sTy ln k1 < 128 by omega) hI1).1
        have hokH := (okT_hed (s := s1) (sh := sSh ln) (show sPl ln < 128 by have := sPl_b (w := ln); omega) (show sTy ln k1 < 128 by omega)).1
        have hfl9 := fmt_len hwi2 hokH hokB
        refine J_aload_n 2 d_X_format_56 rfl rfl ?_
        refine gf_X_53 (by omega) ((cF_0 (by decide)).trans (by rw [va_up_ne _ _ (by decide), va_up_ne _ _ (by decide)]; exact hX0)) rfl d_X_format_57 ?_
        refine J_aload_n 1 d_X_format_60 rfl rfl ?_
        refine J_aload_n 2 d_X_format_61 rfl rfl ?_
        refine gf_X_46 (by omega) ((cF_0 (by decide)).trans (by rw [va_up_ne _ _ (by decide), va_up_ne _ _ (by decide)]; exact hX0)) rfl d_X_format_62 ?_
        refine J_callVv cw_X_224 nh_P_formatNumber pn_P_formatNumber rfl rfl (by omega) ((cF_0 (by decide)).trans (by rw [va_up_ne _ _ (by decide), va_up_ne _ _ (by decide)]; exact hPn)) (As := [.ref (ad p1), .ref (ad 42)]) (rest := []) rfl (Nat.le_of_ble_eq_true rfl) ⟨by decide, by decide⟩ rfl ⟨by decide, by decide⟩ d_X_format_65 (c_P_formatNumber hfl (F0 := va_up (va_up F0 42 (.inr (6, [.ref (ad 7), .int (iI (s9 ln : Int)), .int (iI (sFi ln : Int)), .int (iI (sAl ln : Int)), .int (iI (sPl ln : Int)), .int (iI (sSh ln)), .int (iI (sZe ln)), .int (iI (max 0 (sWi ln))), .int (iI (sPa ln : Int)), .int (iI (sPr ln)), .int (iI (sTy ln k1 : Int))]))) 7 (.inr (7, [.ref (ad 8), .int (iI ((([] : List Nat).length : Nat) : Int))]))) (W := W) (K := K) (S := S) (ex := ex) (wS := sh) (hS := hsh) (wH := wH) (hH := hH) (wB := wB) (hB := hB) (wD := wD) (hD := hD) (fi := sFi ln) (al := sAl ln) (sg := sPl ln) (ty := sTy ln k1) (pa := sPa ln) (x1 := (s9 ln : Int)) (sh := sSh ln) (ze := sZe ln) (wi := max 0 (sWi ln)) (pr := sPr ln) (p := p1) (u := u1) (d := d1) (sx := s1) hN hW (by rw [va_up_ne _ _ (by decide), va_up_ne _ _ (by decide)]; exact hPn) (by rw [va_up_ne _ _ (by decide), va_up_ne _ _ (by decide)]; exact hT44) (by rw [va_up_ne _ _ (by decide), va_up_ne _ _ (by decide)]; exact hA44) tt44 hl44 (by rw [va_up_ne _ _ (by decide), va_up_ne _ _ (by decide)]; exact hT46) (by rw [va_up_ne _ _ (by decide), va_up_ne _ _ (by decide)]; exact hA46) tt46 hl46 (by rw [va_up_ne _ _ (by decide), va_up_ne _ _ (by decide)]; exact hT48) (by rw [va_up_ne _ _ (by decide), va_up_ne _ _ (by decide)]; exact hA48) tt48 hl48 (by rw [va_up_ne _ _ (by decide), va_up_ne _ _ (by decide)]; exact hT50) (by rw [va_up_ne _ _ (by decide), va_up_ne _ _ (by decide)]; exact hA50) tt50 hl50 (by rw [va_up_ne _ _ (by decide), va_up_self]) sSh_b hpab (by omega) hpU1 (by omega) hu1 hd1 hb1 hd01 hs1 hs11 hz1 hxy1 hI1 hprb htB sPl_b sAl_b hfi sZe_b hwi) (fun  F6 hq => ?_)
        obtain ⟨W9, g1, g2, g3, g4, w1, w2, w3, hW9, ⟨hw1, hw2, hw3⟩, th1, th2, th3, th4, hf9, eF9⟩ := hq
        rw [fmt_cls] at th4 eF9
        refine J_eqF (F2 := cF ad g (va_up (va_up (va_up (va_up (va_up (va_up (va_up (va_up (va_up (va_up F0 42 (.inr (6, [.ref (ad 7), .int (iI (s9 ln : Int)), .int (iI (sFi ln : Int)), .int (iI (sAl ln : Int)), .int (iI (sPl ln : Int)), .int (iI (sSh ln)), .int (iI (sZe ln)), .int (iI (max 0 (sWi ln))), .int (iI (sPa ln : Int)), .int (iI (sPr ln)), .int (iI (sTy ln k1 : Int))]))) 7 (.inr (7, [.ref (ad 8), .int (iI ((([] : List Nat).length : Nat) : Int))]))) 51 (.inl (g 1, 200, .inl (aI g1)))) 50 (.inr (7, [.ref (ad 51), .int (iI ((w1.length : Nat) : Int))]))) 49 (.inl (g 1, 200, .inl (aI g2)))) 48 (.inr (7, [.ref (ad 49), .int (iI ((w2.length : Nat) : Int))]))) 47 (.inl (g 1, 200, .inl (aI g3)))) 46 (.inr (7, [.ref (ad 47), .int (iI ((w3.length : Nat) : Int))]))) 45 (.inl (g 1, 200, .inl (aI g4)))) 44 (.inr (7, [.ref (ad 45), .int (iI (((fmtV ln (k1, s1, u1, d1)).length : Nat) : Int))]))) W9 K S) eF9 ?_
        refine J_aload_n 2 d_X_format_68 rfl rfl ?_
        refine gf_X_53 (by omega) ((cF_0 (by decide)).trans (by rw [va_up_ne _ _ (by decide), va_up_ne _ _ (by decide), va_up_ne _ _ (by decide), va_up_ne _ _ (by decide), va_up_ne _ _ (by decide), va_up_ne _ _ (by decide), va_up_ne _ _ (by decide), va_up_ne _ _ (by decide), va_up_ne _ _ (by decide), va_up_ne _ _ (by decide)]; exact hX0)) rfl d_X_format_69 ?_
        refine gf_X_214 (by omega) ((cF_0 (by decide)).trans (by rw [va_up_ne _ _ (by decide), va_up_ne _ _ (by decide), va_up_ne _ _ (by decide), va_up_ne _ _ (by decide), va_up_ne _ _ (by decide), va_up_ne _ _ (by decide), va_up_ne _ _ (by decide), va_up_ne _ _ (by decide), va_up_ne _ _ (by decide), va_up_ne _ _ (by decide)]; exact hPn)) rfl d_X_format_72 ?_
        refine gf_X_57 (by omega) ((cF_0 (by decide)).trans (by rw [va_up_self])) rfl d_X_format_75 ?_
        refine J_iret rfl rfl d_X_format_78 ⟨by decide, by decide⟩ ?_
        exact Or.inl ⟨_, rfl, rfl, rfl, _, formatO_y hRV1 (by omega) hsG, rfl, ⟨_, _, _, _, (cS_44 (cS_46 (cS_48 (cS_50 (cS_0 (cS_42 hS)) th1 hw1) th2 hw2) th3 hw3) th4 hfl9), (cV_fr hV hW9 (fun j hj => ⟨hf9 j (by omega) (by omega) (by omega), rfl, rfl⟩)), rfl⟩, (offC_e hFc (fun j hj => by rw [va_up_ne _ _ (by omega), va_up_ne _ _ (by omega), va_up_ne _ _ (by omega), va_up_ne _ _ (by omega), va_up_ne _ _ (by omega), va_up_ne _ _ (by omega), va_up_ne _ _ (by omega), va_up_ne _ _ (by omega), va_up_ne _ _ (by omega), va_up_ne _ _ (by omega)]))⟩
      · refine J_throw (k := 0) (by decide) wd_525 wd_526 wd_15 wd_567 (List.mem_of_getElem? (i := 11) rfl) d_X_format_46 d_X_format_49 d_X_format_50 d_X_format_52 d_X_format_55 ⟨by decide, by decide⟩ (by decide) (by decide) ?_
        exact Or.inr ⟨_, rfl, rfl, rfl, (formatO_s hRV1 (fun q => by
            unfold hold at hsu
            rcases hsu with w | w
            · omega
            · exact w.2 (spG_iff.mp q).2)), ⟨_, _, _, _, (cS_0 (cS_42 hS)), hV, rfl⟩, (offC_e hFc (fun j hj => by rw [va_up_ne _ _ (by omega), va_up_ne _ _ (by omega)]))⟩
