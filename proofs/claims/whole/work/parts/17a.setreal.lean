/-! the class: a real from a double -/

theorem near_me {z : Int} {m : Nat} {e0 : Int} (hmm : (m = 0 ∧ e0 = 0) ∨ (4503599627370496 ≤ m ∧ m < 9007199254740992)) (he : -60 ≤ e0 ∧ e0 ≤ 0) (hsu : su m e0 * 8 = z.natAbs * sd 1 e0) (hz : z = 0 → m = 0) : near z.sign z.natAbs 8 = some (2, (if m = 0 then 0 else z.sign), lowu (su m e0) (sd 1 e0), lowd (su m e0) (sd 1 e0)) := by
  rcases hmm with ⟨rfl, rfl⟩ | hmm
  · have h0 : z.natAbs = 0 := by
      have h1 : su 0 0 * 8 = 0 := by decide
      rw [h1] at hsu
      have h2 : sd 1 0 = 1 := by decide
      rw [h2, Nat.mul_one] at hsu
      exact hsu.symm
    rw [h0, if_pos rfl]
    unfold near
    rw [if_pos rfl]
    rfl
  · have hm0 : m ≠ 0 := by omega
    rw [if_neg hm0, near_ratio (by decide) (sd_pos (by decide) e0) hsu.symm, (near_exact (s := z.sign) hmm.1 hmm.2 (e := e0)).2.2, if_pos ⟨by omega, by omega⟩]
set_option maxRecDepth 100000 in
set_option maxHeartbeats 4000000 in
theorem c_U_setReal {l : Launch} (hfl : l.flags = flags0) {D : va_G} {g : Nat → ClassId} {ad : Nat → Nat} {N : Nat} {F0 : Nat → va_E} {W : Nat → Nat} {K S : Nat → Int} {k m : Nat} {ns0 e0 : Int}
    (hN : 109 ≤ N) (hW : bW W) (hk : isU k) (hns : -1 ≤ ns0 ∧ ns0 ≤ 1) (hmm : (m = 0 ∧ e0 = 0) ∨ (4503599627370496 ≤ m ∧ m < 9007199254740992)) (he : -60 ≤ e0 ∧ e0 ≤ 0) :
    JC l y_U_setReal b_U_setReal 8 (Option.none : Option Jvm.ClassFile.FieldType) rm_U_setReal (0, 0) D jCl (jTys g) ad N (cF ad g F0 W K S) [.ref (ad k), .int (iI ns0), .double (fd false m e0)] (jv ad N (fun F' => bW (va_up (va_up W (k + 1) (lowu (su m e0) (sd 1 e0))) (k + 3) (lowd (su m e0) (sd 1 e0))) ∧ F' = cF ad g F0 (va_up (va_up W (k + 1) (lowu (su m e0) (sd 1 e0))) (k + 3) (lowd (su m e0) (sd 1 e0))) (va_up K k 2) (va_up S k (if m = 0 then 0 else ns0)))) := by
  have hk4 := (isU_1 hk).1
  have hm2 : m = 0 ∨ (4503599627370496 ≤ m ∧ m < 9007199254740992) := by omega
  have hmb : m < 9007199254740992 := by omega
  refine JC.go hfl (own := "NumberTower$Num") (lv := [(0, .ref (ad k)), (1, .int (iI ns0)), (2, .double (fd false m e0))]) rfl (by decide +kernel) (Nat.le_of_ble_eq_true rfl) rfl (fun A => ?_)
  refine J_dload_n 2 d_U_setReal_0 rfl rfl ?_
  refine J_topd (y := (fd false m (e0 - 0))) (by rw [Int.sub_zero]) ?_
  refine J_dstore (lv' := [(4, .double (fd false m (e0 - 0))), (0, .ref (ad k)), (1, .int (iI ns0)), (2, .double (fd false m e0))]) d_U_setReal_1 (by decide) rfl ?_
  refine J_iconst d_U_setReal_3 ?_
  refine J_istore (lv' := [(6, .int (iI 0)), (4, .double (fd false m (e0 - 0))), (0, .ref (ad k)), (1, .int (iI ns0)), (2, .double (fd false m e0))]) d_U_setReal_4 (by decide) rfl ?_
  refine J_iconst d_U_setReal_6 ?_
  refine J_istore (lv' := [(7, .int (iI 0)), (6, .int (iI 0)), (4, .double (fd false m (e0 - 0))), (0, .ref (ad k)), (1, .int (iI ns0)), (2, .double (fd false m e0))]) d_U_setReal_7 (by decide) rfl ?_
  refine J_iload 0 d_U_setReal_9 rfl ?_
  refine J_bipush d_U_setReal_11 (i8_ok (by decide)) ?_
  refine J_if_icmpge (tgt := 42) d_U_setReal_13 (by decide) ⟨by omega, by omega⟩ ⟨by omega, by omega⟩ (fun c13 => ?_) (fun c13 => ?_)
  · exact absurd c13 (by omega)
  · refine J_dload 2 d_U_setReal_16 rfl ?_
    refine J_ldc2d d_U_setReal_18 wd_339 ?_
    refine J_topd (y := (fd false 9007199254740992 0)) c_high ?_
    refine J_dcmp d_U_setReal_21 ?_
    refine J_riflt (tgt := 42) d_U_setReal_22 (by decide) (fun c21 => ?_) (fun c21 => ?_)
    · have lab86 : ∀ (x : Int) (hxe : x = e0) , J l rm_U_setReal (0, 0) "NumberTower$Num" b_U_setReal 8 (Option.none : Option Jvm.ClassFile.FieldType) D jCl (jTys g) A (fun _ me => me.name = y_U_setReal.name) (jv ad N (fun F' => bW (va_up (va_up W (k + 1) (lowu (su m e0) (sd 1 e0))) (k + 3) (lowd (su m e0) (sd 1 e0))) ∧ F' = cF ad g F0 (va_up (va_up W (k + 1) (lowu (su m e0) (sd 1 e0))) (k + 3) (lowd (su m e0) (sd 1 e0))) (va_up K k 2) (va_up S k (if m = 0 then 0 else ns0)))) ad N 0 0 86 [(0, .ref (ad k)), (1, .int (iI ns0)), (4, .double (fd false m (e0 - x))), (6, .int (iI x))] [] (cF ad g F0 W K S) := by
        intro x hxe
        refine J_aload_n 0 d_U_setReal_86 rfl rfl ?_
        refine J_iload_n 1 d_U_setReal_87 rfl rfl ?_
        refine J_dload 2 d_U_setReal_88 rfl ?_
        refine J_topd (y := (fd false m 0)) (by rw [show e0 - x = 0 by omega]) ?_
        refine J_d2l d_U_setReal_90 ?_
        refine J_topl (r := (m : Int)) (fd_d2l (by omega)) ?_
        refine J_iload 3 d_U_setReal_91 rfl ?_
        refine J_callVv cw_U_48 nh_U_setBinary pn_U_setBinary rfl rfl (by omega) (cF_U hk rfl rfl) (As := [.int (iI ns0), .long (lI (m : Int)), .int (iI x)]) (rest := []) rfl (Nat.le_of_ble_eq_true rfl) ⟨by decide, by decide⟩ rfl ⟨by decide, by decide⟩ d_U_setReal_93 (c_U_setBinary hfl (F0 := F0) (W := W) (K := K) (S := S) (k := k) (m := m) (ns0 := ns0) (e := x) hN hW hk hns (by omega) ⟨by omega, by omega⟩) (fun  F1 hq => ?_)
        obtain ⟨hWs, eFs⟩ := hq
        refine J_vret rfl d_U_setReal_96 ⟨by decide, by decide⟩ ?_
        rw [hxe] at hWs eFs
        exact ⟨rfl, rfl, rfl, hWs, eFs⟩
      refine J_iconst d_U_setReal_42 ?_
      refine J_istore (lv' := [(7, .int (iI 0)), (6, .int (iI 0)), (4, .double (fd false m (e0 - 0))), (0, .ref (ad k)), (1, .int (iI ns0)), (2, .double (fd false m e0))]) d_U_setReal_43 (by decide) rfl ?_
      refine J_pick (lv' := [(0, .ref (ad k)), (1, .int (iI ns0)), (2, .double (fd false m e0)), (4, .double (fd false m (e0 - 0))), (6, .int (iI 0)), (7, .int (iI 0))]) [3, 4, 5, 2, 1, 0] rfl ?_
      have loop45 : ∀ (fuel : Nat) (x : Int) (t : Int) (hx : x ≤ 0 ∧ e0 ≤ x ∧ t = -x ∧ (m = 0 → x = 0)) (hfu : (x - e0).toNat < fuel), J l rm_U_setReal (0, 0) "NumberTower$Num" b_U_setReal 8 (Option.none : Option Jvm.ClassFile.FieldType) D jCl (jTys g) A (fun _ me => me.name = y_U_setReal.name) (jv ad N (fun F' => bW (va_up (va_up W (k + 1) (lowu (su m e0) (sd 1 e0))) (k + 3) (lowd (su m e0) (sd 1 e0))) ∧ F' = cF ad g F0 (va_up (va_up W (k + 1) (lowu (su m e0) (sd 1 e0))) (k + 3) (lowd (su m e0) (sd 1 e0))) (va_up K k 2) (va_up S k (if m = 0 then 0 else ns0)))) ad N 0 0 45 [(0, .ref (ad k)), (1, .int (iI ns0)), (2, .double (fd false m e0)), (4, .double (fd false m (e0 - x))), (6, .int (iI x)), (7, .int (iI t))] [] (cF ad g F0 W K S) := by
        intro fuel
        induction fuel with
        | zero => intro x t hx hfu; exact absurd hfu (Nat.not_lt_zero _)
        | succ fuel ih =>
          intro x t hx hfu
          refine J_iload 5 d_U_setReal_45 rfl ?_
          refine J_sipush d_U_setReal_47 (i16_ok (by decide)) ?_
          refine J_if_icmpge (tgt := 86) d_U_setReal_50 (by decide) ⟨by omega, by omega⟩ ⟨by omega, by omega⟩ (fun c50 => ?_) (fun c50 => ?_)
          · exact absurd c50 (by omega)
          · refine J_dload 3 d_U_setReal_53 rfl ?_
            refine J_dconst0 d_U_setReal_55 ?_
            refine J_topd (y := (fd false 0 0)) c_d0 ?_
            refine J_dcmp d_U_setReal_56 ?_
            refine J_rifle (tgt := 86) d_U_setReal_57 (by decide) (fun c56 => ?_) (fun c56 => ?_)
            · have hq := (sp_ze (show exD m (e0 - x) from ⟨by omega, by omega, by omega⟩)).1.mp c56
              refine J_pick (lv' := [(0, .ref (ad k)), (1, .int (iI ns0)), (4, .double (fd false m (e0 - x))), (6, .int (iI x))]) [0, 1, 3, 4] rfl ?_
              exact lab86 x (by omega)
            · have hq : m ≠ 0 := fun w => c56 ((sp_ze (show exD m (e0 - x) from ⟨by omega, by omega, by omega⟩)).1.mpr w)
              refine J_dload 3 d_U_setReal_60 rfl ?_
              refine J_ldc2d d_U_setReal_62 wd_341 ?_
              refine J_topd (y := (fd false 4503599627370496 0)) c_low ?_
              refine J_dcmp d_U_setReal_65 ?_
              refine J_rifge (tgt := 86) d_U_setReal_66 (by decide) (fun c65 => ?_) (fun c65 => ?_)
              · have hq2 := (sp_lo hm2 (by omega) (by omega)).mp c65
                refine J_pick (lv' := [(0, .ref (ad k)), (1, .int (iI ns0)), (4, .double (fd false m (e0 - x))), (6, .int (iI x))]) [0, 1, 3, 4] rfl ?_
                exact lab86 x (by omega)
              · have hq2 : ¬(m ≠ 0 ∧ 0 ≤ e0 - x) := fun w => c65 ((sp_lo hm2 (by omega) (by omega)).mpr w)
                refine J_dload 3 d_U_setReal_69 rfl ?_
                refine J_ldc2d d_U_setReal_71 wd_340 ?_
                refine J_topd (y := (fd false 1 1)) c_two ?_
                refine J_dmul (r := (fd false m (e0 - x + 1))) d_U_setReal_74 (fd_two ⟨by omega, by omega, by omega⟩) (fd_n64 _ _ _) ?_
                refine J_topd (y := (fd false m (e0 - (x - 1)))) (by rw [show e0 - (x - 1) = e0 - x + 1 by omega]) ?_
                refine J_dstore (lv' := [(4, .double (fd false m (e0 - (x - 1)))), (0, .ref (ad k)), (1, .int (iI ns0)), (2, .double (fd false m e0)), (6, .int (iI x)), (7, .int (iI t))]) d_U_setReal_75 (by decide) rfl ?_
                refine J_iinc (j := 4) (b := x - 1) (lv' := [(6, .int (iI (x - 1))), (4, .double (fd false m (e0 - (x - 1)))), (0, .ref (ad k)), (1, .int (iI ns0)), (2, .double (fd false m e0)), (7, .int (iI t))]) d_U_setReal_77 rfl (by omega) (by decide) rfl ?_
                refine J_iinc (j := 5) (b := t + 1) (lv' := [(7, .int (iI (t + 1))), (6, .int (iI (x - 1))), (4, .double (fd false m (e0 - (x - 1)))), (0, .ref (ad k)), (1, .int (iI ns0)), (2, .double (fd false m e0))]) d_U_setReal_80 rfl (by omega) (by decide) rfl ?_
                refine J_goto (tgt := 45) d_U_setReal_83 (by decide) ?_
                refine J_pick (lv' := [(0, .ref (ad k)), (1, .int (iI ns0)), (2, .double (fd false m e0)), (4, .double (fd false m (e0 - (x - 1)))), (6, .int (iI (x - 1))), (7, .int (iI (t + 1)))]) [3, 4, 5, 2, 1, 0] rfl ?_
                exact ih (x - 1) (t + 1) (by omega) (by omega)
      exact loop45 ((((0 : Int) - e0).toNat) + 1) (0 : Int) (0 : Int) (by omega) (Nat.lt_succ_self _)
    · exact absurd ((sp_hi hm2 (by omega) (by omega)).mpr (by omega)) c21
