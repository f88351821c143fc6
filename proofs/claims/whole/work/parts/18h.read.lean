/-! the class: read -/
theorem readF_k {k s t : Int} {X Y : Nat} {w : Vn} (h : readF k s X Y t = some w) : w.1 = k := by
  unfold readF at h
  split at h
  · rename_i c
    split at h
    · exact absurd h (by simp)
    · rw [fin_k h]; exact c.1.symm
  · exact fin_k h
set_option maxRecDepth 100000 in
set_option maxHeartbeats 4000000 in
theorem c_X_read {l : Launch} (hfl : l.flags = flags0) {D : va_G} {g : Nat → ClassId} {ad : Nat → Nat} {N : Nat} {F : Nat → va_E} {R : Nat → Vn} {ln sh : List Nat} {r : Int}
    (hN : 109 ≤ N) (hC : cst ad g R ln sh F) (hok : ∀ r, r < 8 → okv (R r)) (hr : inI r) :
    JC l y_X_read b_X_read 3 (Option.some Jvm.ClassFile.FieldType.int) rm_X_read (0, 0) D jCl (jTys g) ad N F [.ref (ad 0), .int (iI r)] (QX ad N g R [] sh r (readO ln r) F) := by
  obtain ⟨F0, W, K, S, hS, hV, hFc⟩ := hC
  have hS0 := hS
  obtain ⟨hX0, ⟨rf, hX1, hrf⟩, hDk, ⟨hl7, hT7, hln, hA7, tt7⟩, ⟨hl40, hch⟩, ⟨ra, rt, hRd⟩, ⟨x1, x2, x3, x4, x5, x6, x7, x8, x9, x10, hSp⟩, ⟨ex, hPn⟩, ⟨hl44, hT44, hsh, hA44, tt44⟩, ⟨wH, hl46, hT46, hH, hA46, tt46⟩, ⟨wB, hl48, hT48, hB, hA48, tt48⟩, ⟨wD, hl50, hT50, hD, hA50, tt50⟩⟩ := hS0
  have hW := hV.1
  
  refine JC.go hfl (own := "NumberTower") (lv := [(0, .ref (ad 0)), (1, .int (iI r))]) rfl (by decide +kernel) (Nat.le_of_ble_eq_true rfl) rfl (fun A => ?_)
  refine J_eqF (F2 := cF ad g F0 W K S) hFc ?_
  refine J_aload_n 0 d_X_read_0 rfl rfl ?_
  refine gf_X_39 (by omega) ((cF_0 (by decide)).trans hX0) rfl d_X_read_1 ?_
  refine J_aload_n 0 d_X_read_4 rfl rfl ?_
  refine gf_X_30 (by omega) ((cF_0 (by decide)).trans hX0) rfl d_X_read_5 ?_
  refine gf_X_68 (by omega) ((cF_0 (by decide)).trans hDk) rfl d_X_read_8 ?_
  refine J_callVi cw_X_71 nh_R_parse pn_R_parse rfl rfl (by omega) ((cF_0 (by decide)).trans hRd) (As := [.ref (ad 10)]) (rest := []) rfl (Nat.le_of_ble_eq_true rfl) ⟨by decide, by decide⟩ rfl ⟨by decide, by decide⟩ d_X_read_11 (c_R_parse hfl (F0 := F0) (W := W) (K := K) (S := S) (lh := hln) (ln := ln) hN hW (hT7) (hA7) tt7 hl40 hch (hRd)) (fun zp F1 hq => ?_)
  obtain ⟨a9, kq, u9, d9, t9, hpc, hz01, ht9, hW9, eF9⟩ := hq
  replace hpc : hold _ := hpc
  refine J_eqF (F2 := cF ad g (va_up F0 41 (.inr (5, [.ref (ad 7), .int (iI (a9 : Int)), .int (iI t9)]))) (va_up (va_up W 11 u9) 13 d9) (va_up K 10 kq) (va_up S 10 (psv ln))) eF9 ?_
  refine J_istore_n (lv' := [(2, .int (iI zp)), (0, .ref (ad 0)), (1, .int (iI r))]) d_X_read_14 rfl (by decide) rfl ?_
  refine J_aload_n 1 d_X_read_15 rfl rfl ?_
  refine gf_X_23 (by omega) ((cF_0 (by decide)).trans (by rw [va_up_ne _ _ (by decide)]; exact hX0)) rfl d_X_read_16 ?_
  refine J_callVv cw_X_65 nh_T_clear pn_T_clear rfl rfl (by omega) ((cF_0 (by decide)).trans (by rw [va_up_ne _ _ (by decide)]; exact hT7)) (As := []) (rest := []) rfl (Nat.le_of_ble_eq_true rfl) ⟨by decide, by decide⟩ rfl ⟨by decide, by decide⟩ d_X_read_19 (c_T_clearN hfl (k := 7) (w := ln) (hh := hln) (by omega) ((cF_0 (by decide)).trans (by rw [va_up_ne _ _ (by decide)]; exact hT7)) ((cF_0 (by decide)).trans (by rw [va_up_ne _ _ (by decide)]; exact hA7)) tt7 hl7) (fun  F1 hq => ?_)
  have eF1 := hq
  refine J_eqF (F2 := cF ad g (va_up (va_up F0 41 (.inr (5, [.ref (ad 7), .int (iI (a9 : Int)), .int (iI t9)]))) 7 (.inr (7, [.ref (ad 8), .int (iI ((([] : List Nat).length : Nat) : Int))]))) (va_up (va_up W 11 u9) 13 d9) (va_up K 10 kq) (va_up S 10 (psv ln))) (eF1.trans (cF_up0 (by decide))) ?_
  refine J_iload_n 0 d_X_read_22 rfl rfl ?_
  refine J_ifeq (tgt := 33) d_X_read_23 (by decide) ⟨by omega, by omega⟩ (fun c23 => ?_) (fun c23 => ?_)
  · refine J_throw (k := 0) (by decide) wd_525 wd_526 wd_15 wd_567 (List.mem_of_getElem? (i := 0) rfl) d_X_read_33 d_X_read_36 d_X_read_37 d_X_read_39 d_X_read_42 ⟨by decide, by decide⟩ (by decide) (by decide) ?_
    exact Or.inr ⟨_, rfl, rfl, rfl, (readO_n (by
        unfold hold at hpc
        rcases hpc with w | w
        · omega
        · exact w.2)), ⟨_, _, _, _, (cS_0 (cS_41 hS)), (cV_fr hV hW9 (fun j hj => ⟨(show (va_up (va_up W 11 u9) 13 d9) j = W j from by rw [va_up_ne _ _ (by omega), va_up_ne _ _ (by omega)]), (show (va_up K 10 kq) j = K j from by rw [va_up_ne _ _ (by omega)]), (show (va_up S 10 (psv ln)) j = S j from by rw [va_up_ne _ _ (by omega)])⟩)), rfl⟩, (offC_e hFc (fun j hj => by rw [va_up_ne _ _ (by omega), va_up_ne _ _ (by omega)]))⟩
  · refine J_iload_n 2 d_X_read_26 rfl rfl ?_
    refine J_callSi cw_X_75 nh_X_isRegister pn_X_isRegister rfl (As := [.int (iI r)]) (rest := []) rfl (Nat.le_of_ble_eq_true rfl) ⟨by decide, by decide⟩ rfl ⟨by decide, by decide⟩ d_X_read_27 (c_X_isRegister hfl (r := r) (by omega)) (fun z2 F2 hq => ?_)
    obtain ⟨hz2, eF2⟩ := hq
    refine J_eqF eF2 ?_
    refine J_ifne (tgt := 43) d_X_read_30 (by decide) ⟨by omega, by omega⟩ (fun c30 => ?_) (fun c30 => ?_)
    · have hps : prs ln = some (kq, u9, d9, t9) := by
        unfold hold at hpc
        rcases hpc with w | w
        · exact w.2
        · omega
      obtain ⟨hB1, hB2, hB3, hB4, hB5⟩ := prs_bd hl40 hch _ _ _ _ hps
      replace hB4 : hold _ := hB4
      refine J_aload_n 1 d_X_read_43 rfl rfl ?_
      refine gf_X_30 (by omega) ((cF_0 (by decide)).trans (by rw [va_up_ne _ _ (by decide), va_up_ne _ _ (by decide)]; exact hX0)) rfl d_X_read_44 ?_
      refine gf_X_68 (by omega) ((cF_0 (by decide)).trans (by rw [va_up_ne _ _ (by decide), va_up_ne _ _ (by decide)]; exact hDk)) rfl d_X_read_47 ?_
      refine gf_X_86 (by omega) (cF_U (by decide) (va_up_self ..) (va_up_self ..)) rfl d_X_read_50 ?_
      refine J_callVi cw_X_90 nh_N_isZero pn_N_isZero rfl rfl (by omega) (cF_N (by decide) (va_up_self ..)) (As := []) (rest := []) rfl (Nat.le_of_ble_eq_true rfl) ⟨by decide, by decide⟩ rfl ⟨by decide, by decide⟩ d_X_read_53 (n_isZero hfl (F0 := va_up (va_up F0 41 (.inr (5, [.ref (ad 7), .int (iI (a9 : Int)), .int (iI t9)]))) 7 (.inr (7, [.ref (ad 8), .int (iI ((([] : List Nat).length : Nat) : Int))]))) (W := va_up (va_up W 11 u9) 13 d9) (K := va_up K 10 kq) (S := va_up S 10 (psv ln)) (k := 13) (hN := by omega) (hW := hW9) (hk := (by decide)) (x := d9) (hx := (va_up_self ..))) (fun z3 F3 hq => ?_)
      obtain ⟨hz3, eF3⟩ := hq
      refine J_eqF eF3 ?_
      refine J_ifeq (tgt := 69) d_X_read_56 (by decide) ⟨by omega, by omega⟩ (fun c56 => ?_) (fun c56 => ?_)
      · have hO : readO ln r = optO (readF kq (psv ln) u9 d9 t9) := readO_s (by omega) hps (by omega)
        have hpv : -1 ≤ psv ln ∧ psv ln ≤ 1 := by unfold psv; split <;> decide
        unfold hold at hB4
        refine J_aload_n 1 d_X_read_69 rfl rfl ?_
        refine gf_X_30 (by omega) ((cF_0 (by decide)).trans (by rw [va_up_ne _ _ (by decide), va_up_ne _ _ (by decide)]; exact hX0)) rfl d_X_read_70 ?_
        refine J_aload_n 1 d_X_read_73 rfl rfl ?_
        refine gf_X_39 (by omega) ((cF_0 (by decide)).trans (by rw [va_up_ne _ _ (by decide), va_up_ne _ _ (by decide)]; exact hX0)) rfl d_X_read_74 ?_
        refine gf_X_101 (by omega) ((cF_0 (by decide)).trans (by rw [va_up_ne _ _ (by decide), va_up_self])) rfl d_X_read_77 ?_
        refine J_callVvx cw_X_104 nh_D_finishReading pn_D_finishReading rfl rfl (by omega) ((cF_0 (by decide)).trans (by rw [va_up_ne _ _ (by decide), va_up_ne _ _ (by decide)]; exact hDk)) (As := [.int (iI t9)]) (rest := []) rfl (Nat.le_of_ble_eq_true rfl) ⟨by decide, by decide⟩ rfl ⟨by decide, by decide⟩ d_X_read_80 (c_D_finishReading hfl (F0 := va_up (va_up F0 41 (.inr (5, [.ref (ad 7), .int (iI (a9 : Int)), .int (iI t9)]))) 7 (.inr (7, [.ref (ad 8), .int (iI ((([] : List Nat).length : Nat) : Int))]))) (W := va_up (va_up W 11 u9) 13 d9) (K := va_up K 10 kq) (S := va_up S 10 (psv ln)) (X := u9) (Y := d9) (kx := kq) (s := psv ln) (t := t9) hN hW9 (by rw [va_up_ne _ _ (by decide), va_up_ne _ _ (by decide)]; exact hDk) ((va_up_ne _ _ (by decide)).trans (va_up_self ..)) (va_up_self ..) (va_up_self ..) (va_up_self ..) hB2 ⟨by omega, hB3⟩ hB4 hpv hB1 ⟨by omega, by omega⟩) (fun  F19 hq => ?_) (fun k9 F9 hq => by exact Or.inr ⟨_, rfl, rfl, rfl, QX_thr hO hFc (cS_0 (cS_41 hS)) (cV_fr hV hW9 (fun j hj => ⟨(show (va_up (va_up W 11 u9) 13 d9) j = W j from by rw [va_up_ne _ _ (by omega), va_up_ne _ _ (by omega)]), (show (va_up K 10 kq) j = K j from by rw [va_up_ne _ _ (by omega)]), (show (va_up S 10 (psv ln)) j = S j from by rw [va_up_ne _ _ (by omega)])⟩)) (fun j hj => by rw [va_up_ne _ _ (by omega), va_up_ne _ _ (by omega)]) hq⟩)
        obtain ⟨kd4, sx5, u6, d7, W8, K9, S10, hr11, hb12, hf13, hk14, hs15, hu16, hd17, eF18⟩ := hq
        refine J_eqF (F2 := cF ad g (va_up (va_up F0 41 (.inr (5, [.ref (ad 7), .int (iI (a9 : Int)), .int (iI t9)]))) 7 (.inr (7, [.ref (ad 8), .int (iI ((([] : List Nat).length : Nat) : Int))]))) W8 K9 S10) eF18 ?_
        have hkn9 : kd4 ≠ -1 := (by have q9 := readF_k hr11; dsimp only at q9; omega)
        refine J_aload_n 1 d_X_read_83 rfl rfl ?_
        refine J_iload_n 2 d_X_read_84 rfl rfl ?_
        refine J_callVi cw_X_107 nh_X_keep pn_X_keep rfl rfl (by omega) ((cF_0 (by decide)).trans (by rw [va_up_ne _ _ (by decide), va_up_ne _ _ (by decide)]; exact hX0)) (As := [.int (iI r)]) (rest := []) rfl (Nat.le_of_ble_eq_true rfl) ⟨by decide, by decide⟩ rfl ⟨by decide, by decide⟩ d_X_read_85 (c_X_keep hfl (F0 := va_up (va_up F0 41 (.inr (5, [.ref (ad 7), .int (iI (a9 : Int)), .int (iI t9)]))) 7 (.inr (7, [.ref (ad 8), .int (iI ((([] : List Nat).length : Nat) : Int))]))) (W := W8) (K := K9) (S := S10) (to := r) (r := r.toNat) (u := u6) (d := d7) (q := 58 + 5 * r.toNat) (kd := kd4) (sx := sx5) hN hb12 (by rw [va_up_ne _ _ (by decide), va_up_ne _ _ (by decide)]; exact hX0) (by rw [va_up_ne _ _ (by decide), va_up_ne _ _ (by decide)]; exact hX1) hrf (by rw [va_up_ne _ _ (by decide), va_up_ne _ _ (by decide)]; exact hDk) ⟨by omega, by omega⟩ rfl rfl hk14 hs15 hu16 hd17) (fun z22 F23 hq => ?_)
        obtain ⟨hz22, hb20, eF21⟩ := hq
        refine J_eqF (F2 := cF ad g (va_up (va_up F0 41 (.inr (5, [.ref (ad 7), .int (iI (a9 : Int)), .int (iI t9)]))) 7 (.inr (7, [.ref (ad 8), .int (iI ((([] : List Nat).length : Nat) : Int))]))) (va_up (va_up W8 (58 + 5 * r.toNat + 1) u6) (58 + 5 * r.toNat + 3) d7) (va_up K9 (58 + 5 * r.toNat) kd4) (va_up S10 (58 + 5 * r.toNat) sx5)) eF21 ?_
        refine J_topi (r := kd4) (congrArg iI hz22) ?_
        refine J_iret rfl rfl d_X_read_88 ⟨by decide, by decide⟩ ?_
        exact Or.inl ⟨_, rfl, rfl, rfl, (kd4, sx5, u6, d7), (hO.trans (by rw [hr11]; rfl)), rfl, ⟨_, _, _, _, (cS_0 (cS_41 hS)), (cV_put (cV_fr (cV_fr hV hW9 (fun j hj => ⟨(show (va_up (va_up W 11 u9) 13 d9) j = W j from by rw [va_up_ne _ _ (by omega), va_up_ne _ _ (by omega)]), (show (va_up K 10 kq) j = K j from by rw [va_up_ne _ _ (by omega)]), (show (va_up S 10 (psv ln)) j = S j from by rw [va_up_ne _ _ (by omega)])⟩)) hb12 (fun j hj => hf13 j (by omega))) (by omega) hb20 hkn9), rfl⟩, (offC_e hFc (fun j hj => by rw [va_up_ne _ _ (by omega), va_up_ne _ _ (by omega)]))⟩
      · refine J_throw (k := 1) (by decide) wd_594 wd_595 wd_16 wd_604 (List.mem_of_getElem? (i := 1) rfl) d_X_read_59 d_X_read_62 d_X_read_63 d_X_read_65 d_X_read_68 ⟨by decide, by decide⟩ (by decide) (by decide) ?_
        exact Or.inr ⟨_, rfl, rfl, rfl, (readO_z (by omega) hps (by omega)), ⟨_, _, _, _, (cS_0 (cS_41 hS)), (cV_fr hV hW9 (fun j hj => ⟨(show (va_up (va_up W 11 u9) 13 d9) j = W j from by rw [va_up_ne _ _ (by omega), va_up_ne _ _ (by omega)]), (show (va_up K 10 kq) j = K j from by rw [va_up_ne _ _ (by omega)]), (show (va_up S 10 (psv ln)) j = S j from by rw [va_up_ne _ _ (by omega)])⟩)), rfl⟩, (offC_e hFc (fun j hj => by rw [va_up_ne _ _ (by omega), va_up_ne _ _ (by omega)]))⟩
    · refine J_throw (k := 0) (by decide) wd_525 wd_526 wd_15 wd_567 (List.mem_of_getElem? (i := 0) rfl) d_X_read_33 d_X_read_36 d_X_read_37 d_X_read_39 d_X_read_42 ⟨by decide, by decide⟩ (by decide) (by decide) ?_
      exact Or.inr ⟨_, rfl, rfl, rfl, (readO_out (by omega)), ⟨_, _, _, _, (cS_0 (cS_41 hS)), (cV_fr hV hW9 (fun j hj => ⟨(show (va_up (va_up W 11 u9) 13 d9) j = W j from by rw [va_up_ne _ _ (by omega), va_up_ne _ _ (by omega)]), (show (va_up K 10 kq) j = K j from by rw [va_up_ne _ _ (by omega)]), (show (va_up S 10 (psv ln)) j = S j from by rw [va_up_ne _ _ (by omega)])⟩)), rfl⟩, (offC_e hFc (fun j hj => by rw [va_up_ne _ _ (by omega), va_up_ne _ _ (by omega)]))⟩
