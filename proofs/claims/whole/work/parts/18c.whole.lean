/-! the class: whole, real -/

theorem sign_0 (v : Int) : (-1 ≤ v.sign ∧ v.sign ≤ 1) ∧ (v.sign = 0 ↔ v.natAbs = 0) := by
  have := sign_c v
  omega
theorem near_s {s s' : Int} {X Y u d : Nat} (h : near s X Y = some (2, s', u, d)) (hY : 0 < Y) (hs : -1 ≤ s ∧ s ≤ 1) (h0 : s = 0 → X = 0) : (-1 ≤ s' ∧ s' ≤ 1) ∧ (s' = 0 ↔ u = 0) := by
  have hf : fin 2 s X Y = some (2, s', u, d) := by unfold fin; rw [if_pos rfl]; exact h
  obtain ⟨-, -, -, -, h1, h2, -⟩ := fin_out hf hY
  rw [h2]
  by_cases c : X = 0
  · rw [if_pos c]; exact ⟨by decide, ⟨fun _ => h1.mpr c, fun _ => rfl⟩⟩
  · rw [if_neg c]; exact ⟨hs, ⟨fun q => absurd (h0 q) c, fun q => absurd (h1.mp q) c⟩⟩
set_option maxRecDepth 100000 in
set_option maxHeartbeats 4000000 in
theorem c_X_whole {l : Launch} (hfl : l.flags = flags0) {D : va_G} {g : Nat → ClassId} {ad : Nat → Nat} {N : Nat} {F : Nat → va_E} {R : Nat → Vn} {ln sh : List Nat} {r v0 : Int}
    (hN : 109 ≤ N) (hC : cst ad g R ln sh F) (hok : ∀ r, r < 8 → okv (R r)) (hr : inI r) (hv : inL v0) :
    JC l y_X_whole b_X_whole 4 (Option.some Jvm.ClassFile.FieldType.boolean) rm_X_whole (0, 0) D jCl (jTys g) ad N F [.ref (ad 0), .int (iI r), .long (lI v0)] (ji ad N (fun z F' => ((z = 1 ∧ (0 ≤ r ∧ r ≤ 7) ∧ cst ad g (va_up R r.toNat (wholeV v0)) ln sh F') ∨ (z = 0 ∧ ¬(0 ≤ r ∧ r ≤ 7) ∧ cst ad g R ln sh F')) ∧ offC F F')) := by
  obtain ⟨F0, W, K, S, hS, hV, hFc⟩ := hC
  have hS0 := hS
  obtain ⟨hX0, ⟨rf, hX1, hrf⟩, hDk, ⟨hl7, hT7, hln, hA7, tt7⟩, ⟨hl40, hch⟩, ⟨ra, rt, hRd⟩, ⟨x1, x2, x3, x4, x5, x6, x7, x8, x9, x10, hSp⟩, ⟨ex, hPn⟩, ⟨hl44, hT44, hsh, hA44, tt44⟩, ⟨wH, hl46, hT46, hH, hA46, tt46⟩, ⟨wB, hl48, hT48, hB, hA48, tt48⟩, ⟨wD, hl50, hT50, hD, hA50, tt50⟩⟩ := hS0
  have hW := hV.1
  
  refine JC.go hfl (own := "NumberTower") (lv := [(0, .ref (ad 0)), (1, .int (iI r)), (2, .long (lI v0))]) rfl (by decide +kernel) (Nat.le_of_ble_eq_true rfl) rfl (fun A => ?_)
  refine J_eqF (F2 := cF ad g F0 W K S) hFc ?_
  refine J_iload_n 1 d_X_whole_0 rfl rfl ?_
  refine J_callSi cw_X_75 nh_X_isRegister pn_X_isRegister rfl (As := [.int (iI r)]) (rest := []) rfl (Nat.le_of_ble_eq_true rfl) ⟨by decide, by decide⟩ rfl ⟨by decide, by decide⟩ d_X_whole_1 (c_X_isRegister hfl (r := r) (by omega)) (fun z1 F1 hq => ?_)
  obtain ⟨hz1, eF1⟩ := hq
  refine J_eqF eF1 ?_
  refine J_ifne (tgt := 9) d_X_whole_4 (by decide) ⟨by omega, by omega⟩ (fun c4 => ?_) (fun c4 => ?_)
  · refine J_aload_n 0 d_X_whole_9 rfl rfl ?_
    refine gf_X_30 (by omega) ((cF_0 (by decide)).trans hX0) rfl d_X_whole_10 ?_
    refine gf_X_68 (by omega) ((cF_0 (by decide)).trans hDk) rfl d_X_whole_13 ?_
    refine J_lload_n 2 d_X_whole_16 rfl rfl ?_
    refine J_callVv cw_X_111 nh_U_setWhole pn_U_setWhole rfl rfl (by omega) (cF_U (by decide) rfl rfl) (As := [.long (lI v0)]) (rest := []) rfl (Nat.le_of_ble_eq_true rfl) ⟨by decide, by decide⟩ rfl ⟨by decide, by decide⟩ d_X_whole_17 (u_setWhole hfl (F0 := F0) (W := W) (K := K) (S := S) (k := 10) (v := v0) (by omega) hW (by decide) hv) (fun  F4 hq => ?_)
    obtain ⟨hW2, eF3⟩ := hq
    refine J_eqF (F2 := cF ad g F0 (va_up (va_up W 11 v0.natAbs) 13 1) (va_up K 10 0) (va_up S 10 v0.sign)) eF3 ?_
    refine J_aload_n 0 d_X_whole_20 rfl rfl ?_
    refine J_iload_n 1 d_X_whole_21 rfl rfl ?_
    refine J_callVi cw_X_107 nh_X_keep pn_X_keep rfl rfl (by omega) ((cF_0 (by decide)).trans hX0) (As := [.int (iI r)]) (rest := []) rfl (Nat.le_of_ble_eq_true rfl) ⟨by decide, by decide⟩ rfl ⟨by decide, by decide⟩ d_X_whole_22 (c_X_keep hfl (F0 := F0) (W := va_up (va_up W 11 v0.natAbs) 13 1) (K := va_up K 10 0) (S := va_up S 10 v0.sign) (to := r) (r := r.toNat) (u := v0.natAbs) (d := 1) (q := 58 + 5 * r.toNat) (kd := 0) (sx := v0.sign) hN hW2 (hX0) (hX1) hrf (hDk) ⟨by omega, by omega⟩ rfl rfl (va_up_self ..) (va_up_self ..) ((va_up_ne _ _ (by decide)).trans (va_up_self ..)) (va_up_self ..)) (fun z7 F8 hq => ?_)
    obtain ⟨hz7, hb5, eF6⟩ := hq
    refine J_eqF (F2 := cF ad g F0 (va_up (va_up (va_up (va_up W 11 v0.natAbs) 13 1) (58 + 5 * r.toNat + 1) v0.natAbs) (58 + 5 * r.toNat + 3) 1) (va_up (va_up K 10 0) (58 + 5 * r.toNat) 0) (va_up (va_up S 10 v0.sign) (58 + 5 * r.toNat) v0.sign)) eF6 ?_
    refine J_topi (r := 0) (congrArg iI hz7) ?_
    refine J_pop d_X_whole_25 rfl ?_
    refine J_iconst d_X_whole_26 ?_
    refine J_iret rfl (nb01 (by omega)).1 d_X_whole_27 ⟨by decide, by decide⟩ ?_
    exact ⟨_, rfl, rfl, rfl, Or.inl ⟨rfl, by omega, ⟨_, _, _, _, hS, (cV_put (cV_fr hV hW2 (fun j hj => ⟨(show (va_up (va_up W 11 v0.natAbs) 13 1) j = W j from by rw [va_up_ne _ _ (by omega), va_up_ne _ _ (by omega)]), (show (va_up K 10 0) j = K j from by rw [va_up_ne _ _ (by omega)]), (show (va_up S 10 v0.sign) j = S j from by rw [va_up_ne _ _ (by omega)])⟩)) (by omega) hb5 (by decide)), rfl⟩⟩, (offC_e hFc (fun j hj => by rfl))⟩
  · refine J_iconst d_X_whole_7 ?_
    refine J_iret rfl (nb01 (by omega)).1 d_X_whole_8 ⟨by decide, by decide⟩ ?_
    exact ⟨_, rfl, rfl, rfl, Or.inr ⟨rfl, by omega, ⟨_, _, _, _, hS, hV, rfl⟩⟩, (offC_e hFc (fun j hj => by rfl))⟩
set_option maxRecDepth 100000 in
set_option maxHeartbeats 4000000 in
theorem c_X_real {l : Launch} (hfl : l.flags = flags0) {D : va_G} {g : Nat → ClassId} {ad : Nat → Nat} {N : Nat} {F : Nat → va_E} {R : Nat → Vn} {ln sh : List Nat} {r z : Int}
    (hN : 109 ≤ N) (hC : cst ad g R ln sh F) (hok : ∀ r, r < 8 → okv (R r)) (hr : inI r) (hz : inI z) :
    JC l y_X_real b_X_real 9 (Option.some Jvm.ClassFile.FieldType.boolean) rm_X_real (0, 0) D jCl (jTys g) ad N F [.ref (ad 0), .int (iI r), .double (fd (decide (z < 0)) z.natAbs (-3))] (ji ad N (fun z9 F' => ((z9 = 1 ∧ (0 ≤ r ∧ r ≤ 7) ∧ ∃ w, near z.sign z.natAbs 8 = some w ∧ cst ad g (va_up R r.toNat w) ln sh F') ∨ (z9 = 0 ∧ ¬(0 ≤ r ∧ r ≤ 7) ∧ cst ad g R ln sh F')) ∧ offC F F')) := by
  obtain ⟨F0, W, K, S, hS, hV, hFc⟩ := hC
  have hS0 := hS
  obtain ⟨hX0, ⟨rf, hX1, hrf⟩, hDk, ⟨hl7, hT7, hln, hA7, tt7⟩, ⟨hl40, hch⟩, ⟨ra, rt, hRd⟩, ⟨x1, x2, x3, x4, x5, x6, x7, x8, x9, x10, hSp⟩, ⟨ex, hPn⟩, ⟨hl44, hT44, hsh, hA44, tt44⟩, ⟨wH, hl46, hT46, hH, hA46, tt46⟩, ⟨wB, hl48, hT48, hB, hA48, tt48⟩, ⟨wD, hl50, hT50, hD, hA50, tt50⟩⟩ := hS0
  have hW := hV.1
  
  obtain ⟨m, e0, hme, hmm, hee, hsu, hisr, hz0, -⟩ := real_me hz
  have hx : exD m e0 := ⟨by omega, by omega, by omega⟩
  obtain ⟨o1, a1, a2⟩ := fd_pow hx (show exD 1 100 from ⟨by decide, by decide, by decide⟩) (k := 0) rfl
  obtain ⟨o2, b1, b2⟩ := fd_pow hx (show exD 1 (0 - 100 - (0 : Nat)) from ⟨by decide, by decide, by decide⟩) (k := 0) rfl
  have hq1 : ¬ 0 ≤ Op.cmpValue (Jvm.FP.dcmp (fd false m e0) (fd false 1 100)) .g := by
    rw [a1, cv_lt.2.2.2.2, Ne, a2]
    unfold isR at hisr
    omega
  have hq2 : m ≠ 0 → ¬ Op.cmpValue (Jvm.FP.dcmp (fd false m e0) (fd false 1 (0 - 100 - (0 : Nat)))) .l < 0 := by
    intro hm0
    rw [b1, cv_lt.1, b2]
    unfold isR at hisr
    omega
  replace hmm : hold _ := hmm
  replace hisr : hold _ := hisr
  have hze := (sp_ze hx).2
  replace hze : hold _ := hze
  replace hq2 : hold _ := hq2
  replace hz0 : hold _ := hz0
  refine JC.go hfl (own := "NumberTower") (lv := [(0, .ref (ad 0)), (1, .int (iI r)), (2, .double (fd (decide (z < 0)) z.natAbs (-3)))]) rfl (by decide +kernel) (Nat.le_of_ble_eq_true rfl) rfl (fun A => ?_)
  have lab12 : J l rm_X_real (0, 0) "NumberTower" b_X_real 9 (Option.some Jvm.ClassFile.FieldType.boolean) D jCl (jTys g) A (fun _ me => me.name = y_X_real.name) (ji ad N (fun z9 F' => ((z9 = 1 ∧ (0 ≤ r ∧ r ≤ 7) ∧ ∃ w, near z.sign z.natAbs 8 = some w ∧ cst ad g (va_up R r.toNat w) ln sh F') ∨ (z9 = 0 ∧ ¬(0 ≤ r ∧ r ≤ 7) ∧ cst ad g R ln sh F')) ∧ offC F F')) ad N 0 0 12 [(0, .ref (ad 0)), (1, .int (iI r)), (2, .double (fd (decide (z < 0)) z.natAbs (-3)))] [.double (fd false m e0)] (cF ad g F0 W K S) := by
    refine J_dstore (lv' := [(4, .double (fd false m e0)), (0, .ref (ad 0)), (1, .int (iI r)), (2, .double (fd (decide (z < 0)) z.natAbs (-3)))]) d_X_real_12 (by decide) rfl ?_
    refine J_ldc2d d_X_real_14 wd_334 ?_
    refine J_topd (y := (fd false 1 100)) c_lim ?_
    refine J_dstore (lv' := [(6, .double (fd false 1 100)), (4, .double (fd false m e0)), (0, .ref (ad 0)), (1, .int (iI r)), (2, .double (fd (decide (z < 0)) z.natAbs (-3)))]) d_X_real_17 (by decide) rfl ?_
    have lab49 : J l rm_X_real (0, 0) "NumberTower" b_X_real 9 (Option.some Jvm.ClassFile.FieldType.boolean) D jCl (jTys g) A (fun _ me => me.name = y_X_real.name) (ji ad N (fun z9 F' => ((z9 = 1 ∧ (0 ≤ r ∧ r ≤ 7) ∧ ∃ w, near z.sign z.natAbs 8 = some w ∧ cst ad g (va_up R r.toNat w) ln sh F') ∨ (z9 = 0 ∧ ¬(0 ≤ r ∧ r ≤ 7) ∧ cst ad g R ln sh F')) ∧ offC F F')) ad N 0 0 49 [(0, .ref (ad 0)), (1, .int (iI r)), (2, .double (fd (decide (z < 0)) z.natAbs (-3))), (4, .double (fd false m e0)), (6, .double (fd false 1 100))] [.int (iI 1)] (cF ad g F0 W K S) := by
      refine J_istore (lv' := [(8, .int (iI 1)), (0, .ref (ad 0)), (1, .int (iI r)), (2, .double (fd (decide (z < 0)) z.natAbs (-3))), (4, .double (fd false m e0)), (6, .double (fd false 1 100))]) d_X_real_49 (by decide) rfl ?_
      refine J_iload 0 d_X_real_51 rfl ?_
      refine J_ifeq (tgt := 63) d_X_real_53 (by decide) ⟨by omega, by omega⟩ (fun c53 => ?_) (fun c53 => ?_)
      · exact absurd c53 (by decide)
      · refine J_iload_n 2 d_X_real_56 rfl rfl ?_
        refine J_callSi cw_X_75 nh_X_isRegister pn_X_isRegister rfl (As := [.int (iI r)]) (rest := []) rfl (Nat.le_of_ble_eq_true rfl) ⟨by decide, by decide⟩ rfl ⟨by decide, by decide⟩ d_X_real_57 (c_X_isRegister hfl (r := r) (by omega)) (fun z9 F1 hq => ?_)
        obtain ⟨hz9, eF1⟩ := hq
        refine J_eqF eF1 ?_
        refine J_ifne (tgt := 65) d_X_real_60 (by decide) ⟨by omega, by omega⟩ (fun c60 => ?_) (fun c60 => ?_)
        · unfold hold at hmm hz0
          refine J_aload_n 1 d_X_real_65 rfl rfl ?_
          refine gf_X_30 (by omega) ((cF_0 (by decide)).trans hX0) rfl d_X_real_66 ?_
          refine gf_X_68 (by omega) ((cF_0 (by decide)).trans hDk) rfl d_X_real_69 ?_
          have lab83 : ∀ (ns : Int) (hns : ns = if z < 0 then -1 else 1) , J l rm_X_real (0, 0) "NumberTower" b_X_real 9 (Option.some Jvm.ClassFile.FieldType.boolean) D jCl (jTys g) A (fun _ me => me.name = y_X_real.name) (ji ad N (fun z9 F' => ((z9 = 1 ∧ (0 ≤ r ∧ r ≤ 7) ∧ ∃ w, near z.sign z.natAbs 8 = some w ∧ cst ad g (va_up R r.toNat w) ln sh F') ∨ (z9 = 0 ∧ ¬(0 ≤ r ∧ r ≤ 7) ∧ cst ad g R ln sh F')) ∧ offC F F')) ad N 0 0 83 [(0, .ref (ad 0)), (1, .int (iI r)), (2, .double (fd (decide (z < 0)) z.natAbs (-3))), (4, .double (fd false m e0))] [.int (iI ns), .ref (ad 10)] (cF ad g F0 W K S) := by
            intro ns hns
            refine J_dload 3 d_X_real_83 rfl ?_
            refine J_callVv cw_X_117 nh_U_setReal pn_U_setReal rfl rfl (by omega) (cF_U (by decide) rfl rfl) (As := [.int (iI ns), .double (fd false m e0)]) (rest := []) rfl (Nat.le_of_ble_eq_true rfl) ⟨by decide, by decide⟩ rfl ⟨by decide, by decide⟩ d_X_real_85 (c_U_setReal hfl (F0 := F0) (W := W) (K := K) (S := S) (k := 10) (m := m) (ns0 := ns) (e0 := e0) hN hW (by decide) (by rw [hns]; split <;> decide) hmm hee) (fun  F12 hq => ?_)
            obtain ⟨hW10, eF11⟩ := hq
            have hnz : (if m = 0 then 0 else ns) = (if m = 0 then 0 else z.sign) := by
              by_cases c : m = 0
              · rw [if_pos c, if_pos c]
              · rw [if_neg c, if_neg c, hns]
                have hsc := sign_c z
                have : z ≠ 0 := fun q => c (hz0 q)
                split <;> omega
            rw [hnz] at eF11
            have hnm := near_me hmm hee hsu hz0
            refine J_eqF (F2 := cF ad g F0 (va_up (va_up W 11 (lowu (su m e0) (sd 1 e0))) 13 (lowd (su m e0) (sd 1 e0))) (va_up K 10 2) (va_up S 10 (if m = 0 then 0 else z.sign))) eF11 ?_
            refine J_aload_n 0 d_X_real_88 rfl rfl ?_
            refine J_iload_n 1 d_X_real_89 rfl rfl ?_
            refine J_callVi cw_X_107 nh_X_keep pn_X_keep rfl rfl (by omega) ((cF_0 (by decide)).trans hX0) (As := [.int (iI r)]) (rest := []) rfl (Nat.le_of_ble_eq_true rfl) ⟨by decide, by decide⟩ rfl ⟨by decide, by decide⟩ d_X_real_90 (c_X_keep hfl (F0 := F0) (W := va_up (va_up W 11 (lowu (su m e0) (sd 1 e0))) 13 (lowd (su m e0) (sd 1 e0))) (K := va_up K 10 2) (S := va_up S 10 (if m = 0 then 0 else z.sign)) (to := r) (r := r.toNat) (u := (lowu (su m e0) (sd 1 e0))) (d := (lowd (su m e0) (sd 1 e0))) (q := 58 + 5 * r.toNat) (kd := 2) (sx := (if m = 0 then 0 else z.sign)) hN hW10 (hX0) (hX1) hrf (hDk) ⟨by omega, by omega⟩ rfl rfl (va_up_self ..) (va_up_self ..) ((va_up_ne _ _ (by decide)).trans (va_up_self ..)) (va_up_self ..)) (fun z15 F16 hq => ?_)
            obtain ⟨hz15, hb13, eF14⟩ := hq
            refine J_eqF (F2 := cF ad g F0 (va_up (va_up (va_up (va_up W 11 (lowu (su m e0) (sd 1 e0))) 13 (lowd (su m e0) (sd 1 e0))) (58 + 5 * r.toNat + 1) (lowu (su m e0) (sd 1 e0))) (58 + 5 * r.toNat + 3) (lowd (su m e0) (sd 1 e0))) (va_up (va_up K 10 2) (58 + 5 * r.toNat) 2) (va_up (va_up S 10 (if m = 0 then 0 else z.sign)) (58 + 5 * r.toNat) (if m = 0 then 0 else z.sign))) eF14 ?_
            refine J_topi (r := 2) (congrArg iI hz15) ?_
            refine J_pop d_X_real_93 rfl ?_
            refine J_iconst d_X_real_94 ?_
            refine J_iret rfl (nb01 (by omega)).1 d_X_real_95 ⟨by decide, by decide⟩ ?_
            exact ⟨_, rfl, rfl, rfl, Or.inl ⟨rfl, by omega, _, hnm, ⟨_, _, _, _, hS, (cV_put (cV_fr hV hW10 (fun j hj => ⟨(show (va_up (va_up W 11 (lowu (su m e0) (sd 1 e0))) 13 (lowd (su m e0) (sd 1 e0))) j = W j from by rw [va_up_ne _ _ (by omega), va_up_ne _ _ (by omega)]), (show (va_up K 10 2) j = K j from by rw [va_up_ne _ _ (by omega)]), (show (va_up S 10 (if m = 0 then 0 else z.sign)) j = S j from by rw [va_up_ne _ _ (by omega)])⟩)) (by omega) hb13 (by decide)), rfl⟩⟩, (offC_e hFc (fun j hj => by rfl))⟩
          refine J_dload_n 3 d_X_real_72 rfl rfl ?_
          refine J_dconst0 d_X_real_73 ?_
          refine J_topd (y := (fd false 0 0)) c_d0 ?_
          refine J_dcmp d_X_real_74 ?_
          refine J_rifge (tgt := 82) d_X_real_75 (by decide) (fun c74 => ?_) (fun c74 => ?_)
          · have hzz := (rg0 hz).mp c74
            refine J_iconst d_X_real_82 ?_
            refine J_pick (lv' := [(0, .ref (ad 0)), (1, .int (iI r)), (2, .double (fd (decide (z < 0)) z.natAbs (-3))), (4, .double (fd false m e0))]) [1, 2, 3, 4] rfl ?_
            exact lab83 (1 : Int) (by rw [if_neg (by omega)])
          · have hzz : z < 0 := by
              have h5 := rg0 hz
              have h6 : ¬ 0 ≤ z := fun w => c74 (h5.mpr w)
              omega
            refine J_iconst d_X_real_78 ?_
            refine J_goto (tgt := 83) d_X_real_79 (by decide) ?_
            refine J_pick (lv' := [(0, .ref (ad 0)), (1, .int (iI r)), (2, .double (fd (decide (z < 0)) z.natAbs (-3))), (4, .double (fd false m e0))]) [1, 2, 3, 4] rfl ?_
            exact lab83 (-1 : Int) (by rw [if_pos (by omega)])
        · refine J_iconst d_X_real_63 ?_
          refine J_iret rfl (nb01 (by omega)).1 d_X_real_64 ⟨by decide, by decide⟩ ?_
          exact ⟨_, rfl, rfl, rfl, Or.inr ⟨rfl, by omega, ⟨_, _, _, _, hS, hV, rfl⟩⟩, (offC_e hFc (fun j hj => by rfl))⟩
    refine J_dload 1 d_X_real_19 rfl ?_
    refine J_dconst0 d_X_real_21 ?_
    refine J_topd (y := (fd false 0 0)) c_d0 ?_
    refine J_dcmp d_X_real_22 ?_
    refine J_rifeq (tgt := 44) d_X_real_23 (by decide) (fun c22 => ?_) (fun c22 => ?_)
    · refine J_iconst d_X_real_44 ?_
      refine J_goto (tgt := 49) d_X_real_45 (by decide) ?_
      refine J_pick (lv' := [(0, .ref (ad 0)), (1, .int (iI r)), (2, .double (fd (decide (z < 0)) z.natAbs (-3))), (4, .double (fd false m e0)), (6, .double (fd false 1 100))]) [2, 3, 4, 1, 0] rfl ?_
      exact lab49  
    · have hze2 := hze
      unfold hold at hze2
      have hq3 := hq2
      unfold hold at hq3
      have hq4 := hq3 (fun q => c22 (hze2.mpr q))
      refine J_dload 1 d_X_real_26 rfl ?_
      refine J_dconst1 d_X_real_28 ?_
      refine J_topd (y := (fd false 1 0)) c_d1 ?_
      refine J_dload 0 d_X_real_29 rfl ?_
      refine J_ddiv (r := (fd false 1 (0 - 100 - (0 : Nat)))) d_X_real_31 (fd_div (k := 0) ⟨by decide, by decide, by decide⟩ ⟨by decide, by decide, by decide⟩ (by decide) rfl) (fd_n64 _ _ _) ?_
      refine J_dcmp d_X_real_32 ?_
      refine J_riflt (tgt := 48) d_X_real_33 (by decide) (fun c32 => ?_) (fun c32 => ?_)
      · exact absurd c32 hq4
      · refine J_dload 1 d_X_real_36 rfl ?_
        refine J_dload 0 d_X_real_38 rfl ?_
        refine J_dcmp d_X_real_40 ?_
        refine J_rifge (tgt := 48) d_X_real_41 (by decide) (fun c40 => ?_) (fun c40 => ?_)
        · exact absurd c40 hq1
        · refine J_iconst d_X_real_44 ?_
          refine J_goto (tgt := 49) d_X_real_45 (by decide) ?_
          refine J_pick (lv' := [(0, .ref (ad 0)), (1, .int (iI r)), (2, .double (fd (decide (z < 0)) z.natAbs (-3))), (4, .double (fd false m e0)), (6, .double (fd false 1 100))]) [2, 3, 4, 1, 0] rfl ?_
          exact lab49  
  refine J_eqF (F2 := cF ad g F0 W K S) hFc ?_
  refine J_dload_n 2 d_X_real_0 rfl rfl ?_
  refine J_dconst0 d_X_real_1 ?_
  refine J_topd (y := (fd false 0 0)) c_d0 ?_
  refine J_dcmp d_X_real_2 ?_
  refine J_rifge (tgt := 11) d_X_real_3 (by decide) (fun c2 => ?_) (fun c2 => ?_)
  · have hzz := (rg0 hz).mp c2
    refine J_dload_n 2 d_X_real_11 rfl rfl ?_
    refine J_topd (y := (fd false m e0)) (by rw [show decide (z < 0) = false from decide_eq_false (by omega)]; exact hme) ?_
    exact lab12  
  · have hzz : z < 0 := by
      have h5 := rg0 hz
      have h6 : ¬ 0 ≤ z := fun w => c2 (h5.mpr w)
      omega
    refine J_dload_n 2 d_X_real_6 rfl rfl ?_
    refine J_dneg d_X_real_7 ?_
    refine J_goto (tgt := 12) d_X_real_8 (by decide) ?_
    refine J_topd (y := (fd false m e0)) (by rw [show decide (z < 0) = true from decide_eq_true (by omega)]; exact fd_neg.trans hme) ?_
    exact lab12  
