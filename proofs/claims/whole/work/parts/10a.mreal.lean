/-! the Model: reals -/
abbrev oM (ad : Nat → Nat) (f : Nat → Int) (v : UInt64) : va_E := .inr (8, [.ref (ad 99), .ref (ad 100), .ref (ad 101), .ref (ad 102), .ref (ad 103), .int (iI (f 5)), .int (iI (f 6)), .int (iI (f 7)), .int (iI (f 8)), .double v, .int (iI (f 10)), .ref (ad 104), .int (iI (f 12)), .ref (ad 105), .int (iI (f 14)), .ref (ad 106), .int (iI (f 16)), .ref (ad 107), .int (iI (f 18)), .int (iI (f 19)), .int (iI (f 20)), .int (iI (f 21)), .int (iI (f 22)), .int (iI (f 23)), .int (iI (f 24)), .int (iI (f 25)), .int (iI (f 26)), .int (iI (f 27)), .int (iI (f 28)), .int (iI (f 29))])
theorem sp_hi {m : Nat} {e : Int} (hm : m = 0 ∨ (4503599627370496 ≤ m ∧ m < 9007199254740992)) (h1 : -310 ≤ e) (h2 : e ≤ 310) : Op.cmpValue (Jvm.FP.dcmp (fd false m e) (fd false 9007199254740992 0)) .l < 0 ↔ ¬(m ≠ 0 ∧ 1 ≤ e) := by
  obtain ⟨o, c1, c2⟩ := fd_pow (show exD m e from ⟨by omega, by omega, by omega⟩) (show exD 9007199254740992 0 from ⟨by decide, by decide, by decide⟩) (k := 53) rfl
  rw [c1, cv_lt.1, c2]
  rcases hm with z | z
  · simp [z]
  · have b1 : blen m ≤ 53 := blen_le.mpr (by omega)
    have b2 : ¬ blen m ≤ 52 := fun w => by have := blen_le.mp w; omega
    omega
theorem sp_lo {m : Nat} {e : Int} (hm : m = 0 ∨ (4503599627370496 ≤ m ∧ m < 9007199254740992)) (h1 : -310 ≤ e) (h2 : e ≤ 310) : 0 ≤ Op.cmpValue (Jvm.FP.dcmp (fd false m e) (fd false 4503599627370496 0)) .g ↔ (m ≠ 0 ∧ 0 ≤ e) := by
  obtain ⟨o, c1, c2⟩ := fd_pow (show exD m e from ⟨by omega, by omega, by omega⟩) (show exD 4503599627370496 0 from ⟨by decide, by decide, by decide⟩) (k := 52) rfl
  rw [c1, cv_lt.2.2.2.2, Ne, c2]
  rcases hm with z | z
  · simp [z]
  · have b1 : blen m ≤ 53 := blen_le.mpr (by omega)
    have b2 : ¬ blen m ≤ 52 := fun w => by have := blen_le.mp w; omega
    omega
theorem sp_ze {m : Nat} {e : Int} (h : exD m e) : (Op.cmpValue (Jvm.FP.dcmp (fd false m e) (fd false 0 0)) .l ≤ 0 ↔ m = 0) ∧ (Op.cmpValue (Jvm.FP.dcmp (fd false m e) (fd false 0 0)) .l = 0 ↔ m = 0) := by
  obtain ⟨c1, c2⟩ := fd_zero h
  by_cases z : m = 0
  · rw [c1 z]; simp [z, Op.cmpValue]
  · rw [c2 z]; simp [z, Op.cmpValue]
/-- a double is a real -/
def isR (q : Nat) (e : Int) : Prop := q = 0 ∨ ((blen q : Int) + e ≤ 100 ∧ 0 < (blen q : Int) + e + 100)
set_option maxRecDepth 100000 in
set_option maxHeartbeats 4000000 in
theorem c_M_split {l : Launch} (hfl : l.flags = flags0) {D : va_G} {g : Nat → ClassId} {ad : Nat → Nat} {N : Nat} {F : Nat → va_E} {hh ll f : Nat → Int} {v : UInt64} {V : Nat → Nat} {br : Nat → Nat} {u d m : Nat} {e0 : Int}
    (hN : 109 ≤ N) (hO : F 98 = oM ad f v) (hB : F 99 = aB g hh) (hL : F 100 = aL g ll) (hR : reg br hh ll V) (hzz : okB br) (hu : u < 33) (hd : d < 33) (bru : br u = 0) (brd : br d = 0) (hud : u ≠ d) (hm : (m = 0 ∧ e0 = 0) ∨ (4503599627370496 ≤ m ∧ m < 9007199254740992)) (he : -200 ≤ e0 ∧ e0 ≤ 110) :
    JC l y_M_split b_M_split 8 (Option.none : Option Jvm.ClassFile.FieldType) rm_M_split (0, 0) D jCl (jTys g) ad N F [.ref (ad 98), .double (fd false m e0), .int (iI (u : Int)), .int (iI (d : Int))] (jv ad N (fun F' => ∃ hh' ll' : Nat → Int, reg br hh' ll' (va_up (va_up V d (sd 1 e0)) u (su m e0)) ∧ F' = va_up (va_up F 99 (aB g hh')) 100 (aL g ll'))) := by
  have hm2 : m = 0 ∨ (4503599627370496 ≤ m ∧ m < 9007199254740992) := by omega
  have hlm : lnw 28 m ≤ 2 := (lnw_le (by decide)).mpr (by omega)
  have hl1 : lnw 28 1 = 1 := by decide
  refine JC.go hfl (own := "NumberTowerModel") (lv := [(0, .ref (ad 98)), (1, .double (fd false m e0)), (3, .int (iI (u : Int))), (4, .int (iI (d : Int)))]) rfl (by decide +kernel) (Nat.le_of_ble_eq_true rfl) rfl (fun A => ?_)
  refine J_dload_n 1 d_M_split_0 rfl rfl ?_
  refine J_topd (y := (fd false m (e0 - 0))) (by rw [Int.sub_zero]) ?_
  refine J_dstore (lv' := [(5, .double (fd false m (e0 - 0))), (0, .ref (ad 98)), (1, .double (fd false m e0)), (3, .int (iI (u : Int))), (4, .int (iI (d : Int)))]) d_M_split_1 (by decide) rfl ?_
  refine J_iconst d_M_split_3 ?_
  refine J_istore (lv' := [(7, .int (iI 0)), (5, .double (fd false m (e0 - 0))), (0, .ref (ad 98)), (1, .double (fd false m e0)), (3, .int (iI (u : Int))), (4, .int (iI (d : Int)))]) d_M_split_4 (by decide) rfl ?_
  refine J_aload_n 2 d_M_split_6 rfl rfl ?_
  refine J_iload 5 d_M_split_7 rfl ?_
  refine J_lconst (v := 1) d_M_split_9 rfl ?_
  refine J_callVv cw_M_82 nh_M_put pn_M_put rfl rfl (by omega) hO (As := [.int (iI (d : Int)), .long (lI 1)]) (rest := []) rfl (Nat.le_of_ble_eq_true rfl) ⟨by decide, by decide⟩ rfl ⟨by decide, by decide⟩ d_M_split_10 (k_M_put hfl (a := d) (n := 1) (hh := hh) (ll := ll) (V := V) (br := br) (hN := hN) (hO := hO) (hB := hB) (hL := hL) (hR := hR) (ha := by omega) (hn := by decide)) (fun  F1 hq => ?_)
  obtain ⟨bh1, bl2, hR3, eF1⟩ := hq
  refine J_eqF (F2 := va_up (va_up F 99 (.inl (g 0, 858, .inl (aI bh1)))) 100 (.inl (g 0, 33, .inl (aI bl2)))) eF1 ?_
  have hR6 := reg_w1 (hzz.1 _) hR3
  refine J_pick (lv' := [(0, .ref (ad 98)), (3, .int (iI (u : Int))), (4, .int (iI (d : Int))), (5, .double (fd false m (e0 - 0))), (7, .int (iI 0))]) [2, 4, 5, 1, 0] rfl ?_
  have loop13 : ∀ (fuel : Nat) (e : Int) (h1 : 0 ≤ e ∧ (e = 0 ∨ e ≤ e0)) (hfu : (e0 - e).toNat < fuel), J l rm_M_split (0, 0) "NumberTowerModel" b_M_split 8 (Option.none : Option Jvm.ClassFile.FieldType) D jCl (jTys g) A (fun _ me => me.name = y_M_split.name) (jv ad N (fun F' => ∃ hh' ll' : Nat → Int, reg br hh' ll' (va_up (va_up V d (sd 1 e0)) u (su m e0)) ∧ F' = va_up (va_up F 99 (aB g hh')) 100 (aL g ll'))) ad N 0 0 13 [(0, .ref (ad 98)), (3, .int (iI (u : Int))), (4, .int (iI (d : Int))), (5, .double (fd false m (e0 - e))), (7, .int (iI e))] [] (va_up (va_up F 99 (.inl (g 0, 858, .inl (aI bh1)))) 100 (.inl (g 0, 33, .inl (aI bl2)))) := by
    intro fuel
    induction fuel with
    | zero => intro e h1 hfu; exact absurd hfu (Nat.not_lt_zero _)
    | succ fuel ih =>
      intro e h1 hfu
      refine J_dload 3 d_M_split_13 rfl ?_
      refine J_ldc2d d_M_split_15 wd_1165 ?_
      refine J_topd (y := (fd false 9007199254740992 0)) c_high ?_
      refine J_dcmp d_M_split_18 ?_
      refine J_riflt (tgt := 36) d_M_split_19 (by decide) (fun c18 => ?_) (fun c18 => ?_)
      · have hq := (sp_hi hm2 (by omega) (by omega)).mp c18
        have loop36 : ∀ (fuel : Nat) (e : Int) (h2 : e0 ≤ e ∧ e ≤ 110 ∧ (m = 0 → e = 0) ∧ (e ≤ 0 ∨ e = e0)) (hfu : (e - e0).toNat < fuel), J l rm_M_split (0, 0) "NumberTowerModel" b_M_split 8 (Option.none : Option Jvm.ClassFile.FieldType) D jCl (jTys g) A (fun _ me => me.name = y_M_split.name) (jv ad N (fun F' => ∃ hh' ll' : Nat → Int, reg br hh' ll' (va_up (va_up V d (sd 1 e0)) u (su m e0)) ∧ F' = va_up (va_up F 99 (aB g hh')) 100 (aL g ll'))) ad N 0 0 36 [(0, .ref (ad 98)), (3, .int (iI (u : Int))), (4, .int (iI (d : Int))), (5, .double (fd false m (e0 - e))), (7, .int (iI e))] [] (va_up (va_up F 99 (.inl (g 0, 858, .inl (aI bh1)))) 100 (.inl (g 0, 33, .inl (aI bl2)))) := by
          intro fuel
          induction fuel with
          | zero => intro e h2 hfu; exact absurd hfu (Nat.not_lt_zero _)
          | succ fuel ih =>
            intro e h2 hfu
            refine J_dload 3 d_M_split_36 rfl ?_
            refine J_dconst0 d_M_split_38 ?_
            refine J_topd (y := (fd false 0 0)) c_d0 ?_
            refine J_dcmp d_M_split_39 ?_
            refine J_rifle (tgt := 66) d_M_split_40 (by decide) (fun c39 => ?_) (fun c39 => ?_)
            · have hq := (sp_ze (show exD m (e0 - e) from ⟨by omega, by omega, by omega⟩)).1.mp c39
              have lab66 : ∀ (e : Int) (h3 : e = e0) , J l rm_M_split (0, 0) "NumberTowerModel" b_M_split 8 (Option.none : Option Jvm.ClassFile.FieldType) D jCl (jTys g) A (fun _ me => me.name = y_M_split.name) (jv ad N (fun F' => ∃ hh' ll' : Nat → Int, reg br hh' ll' (va_up (va_up V d (sd 1 e0)) u (su m e0)) ∧ F' = va_up (va_up F 99 (aB g hh')) 100 (aL g ll'))) ad N 0 0 66 [(0, .ref (ad 98)), (3, .int (iI (u : Int))), (4, .int (iI (d : Int))), (5, .double (fd false m (e0 - e))), (7, .int (iI e))] [] (va_up (va_up F 99 (.inl (g 0, 858, .inl (aI bh1)))) 100 (.inl (g 0, 33, .inl (aI bl2)))) := by
                intro e h3
                refine J_aload_n 0 d_M_split_66 rfl rfl ?_
                refine J_iload_n 1 d_M_split_67 rfl rfl ?_
                refine J_dload 3 d_M_split_68 rfl ?_
                refine J_topd (y := (fd false m 0)) (by rw [show e0 - e = 0 by omega]) ?_
                refine J_d2l d_M_split_70 ?_
                refine J_topl (r := (m : Int)) (fd_d2l (by omega)) ?_
                refine J_callVv cw_M_82 nh_M_put pn_M_put rfl rfl (by omega) (by rw [va_up_ne _ _ (by decide), va_up_ne _ _ (by decide)]; exact hO) (As := [.int (iI (u : Int)), .long (lI (m : Int))]) (rest := []) rfl (Nat.le_of_ble_eq_true rfl) ⟨by decide, by decide⟩ rfl ⟨by decide, by decide⟩ d_M_split_71 (k_M_put hfl (a := u) (n := m) (hh := bh1) (ll := bl2) (V := va_up V d 1) (br := br) (hN := hN) (hO := (by rw [va_up_ne _ _ (by decide), va_up_ne _ _ (by decide)]; exact hO)) (hB := (by rw [va_up_ne _ _ (by decide), va_up_self])) (hL := (by rw [va_up_self])) (hR := hR6) (ha := by omega) (hn := by omega)) (fun  F2 hq => ?_)
                obtain ⟨bh7, bl8, hR9, eF2⟩ := hq
                refine J_eqF (F2 := va_up (va_up F 99 (.inl (g 0, 858, .inl (aI bh7)))) 100 (.inl (g 0, 33, .inl (aI bl8)))) (eF2.trans (Eq.trans (congrArg (fun q : Nat → va_E => va_up q 100 (.inl (g 0, 33, .inl (aI bl8)))) (up_in1 (by decide))) (up_in0))) ?_
                have hR12 := reg_w1 (hzz.1 _) hR9
                refine J_iload 4 d_M_split_74 rfl ?_
                refine J_ifle (tgt := 89) d_M_split_76 (by decide) ⟨by omega, by omega⟩ (fun c76 => ?_) (fun c76 => ?_)
                · refine J_aload_n 0 d_M_split_89 rfl rfl ?_
                  refine J_iload 2 d_M_split_90 rfl ?_
                  refine J_iload 4 d_M_split_92 rfl ?_
                  refine J_ineg d_M_split_94 ?_
                  refine J_topi (r := (((-e).toNat : Nat) : Int)) (congrArg iI (by omega)) ?_
                  refine J_callVv cw_M_66 nh_M_up pn_M_up rfl rfl (by omega) (by rw [va_up_ne _ _ (by decide), va_up_ne _ _ (by decide)]; exact hO) (As := [.int (iI (d : Int)), .int (iI (((-e).toNat : Nat) : Int))]) (rest := []) rfl (Nat.le_of_ble_eq_true rfl) ⟨by decide, by decide⟩ rfl ⟨by decide, by decide⟩ d_M_split_95 (k_M_up hfl (a := d) (n := (-e).toNat) (hh := bh7) (ll := bl8) (V := va_up (va_up V d 1) u m) (br := br) (hN := hN) (hO := (by rw [va_up_ne _ _ (by decide), va_up_ne _ _ (by decide)]; exact hO)) (hB := (by rw [va_up_ne _ _ (by decide), va_up_self])) (hL := (by rw [va_up_self])) (hR := hR12) (ha := by omega) (hxa := ((va_up_ne _ _ (by omega)).trans (va_up_self ..))) (bra := brd) (hn := by omega) (hT := Or.inr (by omega))) (fun  F3 hq => ?_)
                  obtain ⟨bh13, bl14, hR15, eF3⟩ := hq
                  refine J_eqF (F2 := va_up (va_up F 99 (.inl (g 0, 858, .inl (aI bh13)))) 100 (.inl (g 0, 33, .inl (aI bl14)))) (eF3.trans (Eq.trans (congrArg (fun q : Nat → va_E => va_up q 100 (.inl (g 0, 33, .inl (aI bl14)))) (up_in1 (by decide))) (up_in0))) ?_
                  have hR18 := reg_w1 (hzz.1 _) hR15
                  have hR19 := (congrArg (fun qq : Nat → Nat => reg _ _ _ (qq)) (up_in1 (by omega))).mp hR18
                  have hR20 := (congrArg (fun qq : Nat => reg _ _ _ (va_up (va_up V d (1 * 2 ^ ((-e).toNat))) u qq)) (show (m) = (su m e0) from (by unfold su; rw [show e0.toNat = 0 by omega, Nat.pow_zero, Nat.mul_one]))).mp hR19
                  have hR21 := (congrArg (fun qq : Nat => reg _ _ _ (va_up (va_up V d qq) u (su m e0))) (show (1 * 2 ^ ((-e).toNat)) = (sd 1 e0) from (by unfold sd; rw [show e0 = e by omega]))).mp hR20
                  refine J_vret rfl d_M_split_98 ⟨by decide, by decide⟩ ?_
                  exact ⟨rfl, rfl, rfl, _, _, hR21, rfl⟩
                · refine J_aload_n 0 d_M_split_79 rfl rfl ?_
                  refine J_iload_n 1 d_M_split_80 rfl rfl ?_
                  refine J_iload 4 d_M_split_81 rfl ?_
                  refine J_topi (r := ((e.toNat : Nat) : Int)) (congrArg iI (by omega)) ?_
                  refine J_callVv cw_M_66 nh_M_up pn_M_up rfl rfl (by omega) (by rw [va_up_ne _ _ (by decide), va_up_ne _ _ (by decide)]; exact hO) (As := [.int (iI (u : Int)), .int (iI ((e.toNat : Nat) : Int))]) (rest := []) rfl (Nat.le_of_ble_eq_true rfl) ⟨by decide, by decide⟩ rfl ⟨by decide, by decide⟩ d_M_split_83 (k_M_up hfl (a := u) (n := e.toNat) (hh := bh7) (ll := bl8) (V := va_up (va_up V d 1) u m) (br := br) (hN := hN) (hO := (by rw [va_up_ne _ _ (by decide), va_up_ne _ _ (by decide)]; exact hO)) (hB := (by rw [va_up_ne _ _ (by decide), va_up_self])) (hL := (by rw [va_up_self])) (hR := hR12) (ha := by omega) (hxa := (va_up_self ..)) (bra := bru) (hn := by omega) (hT := Or.inr (by omega))) (fun  F4 hq => ?_)
                  obtain ⟨bh22, bl23, hR24, eF4⟩ := hq
                  refine J_eqF (F2 := va_up (va_up F 99 (.inl (g 0, 858, .inl (aI bh22)))) 100 (.inl (g 0, 33, .inl (aI bl23)))) (eF4.trans (Eq.trans (congrArg (fun q : Nat → va_E => va_up q 100 (.inl (g 0, 33, .inl (aI bl23)))) (up_in1 (by decide))) (up_in0))) ?_
                  have hR27 := reg_w1 (hzz.1 _) hR24
                  have hR28 := (congrArg (fun qq : Nat → Nat => reg _ _ _ (qq)) (up_in0)).mp hR27
                  refine J_goto (tgt := 98) d_M_split_86 (by decide) ?_
                  have hR29 := (congrArg (fun qq : Nat => reg _ _ _ (va_up (va_up V d 1) u qq)) (show (m * 2 ^ e.toNat) = (su m e0) from (by unfold su; rw [show e0 = e by omega]))).mp hR28
                  have hR30 := (congrArg (fun qq : Nat => reg _ _ _ (va_up (va_up V d qq) u (su m e0))) (show (1) = (sd 1 e0) from (by unfold sd; rw [show (-e0).toNat = 0 by omega, Nat.pow_zero]))).mp hR29
                  refine J_vret rfl d_M_split_98 ⟨by decide, by decide⟩ ?_
                  exact ⟨rfl, rfl, rfl, _, _, hR30, rfl⟩
              exact lab66 e (by omega)
            · have hq : m ≠ 0 := fun w => c39 ((sp_ze (show exD m (e0 - e) from ⟨by omega, by omega, by omega⟩)).1.mpr w)
              refine J_dload 3 d_M_split_43 rfl ?_
              refine J_ldc2d d_M_split_45 wd_1166 ?_
              refine J_topd (y := (fd false 4503599627370496 0)) c_low ?_
              refine J_dcmp d_M_split_48 ?_
              refine J_rifge (tgt := 66) d_M_split_49 (by decide) (fun c48 => ?_) (fun c48 => ?_)
              · have hq2 := (sp_lo hm2 (by omega) (by omega)).mp c48
                have lab66 : ∀ (e : Int) (h3 : e = e0) , J l rm_M_split (0, 0) "NumberTowerModel" b_M_split 8 (Option.none : Option Jvm.ClassFile.FieldType) D jCl (jTys g) A (fun _ me => me.name = y_M_split.name) (jv ad N (fun F' => ∃ hh' ll' : Nat → Int, reg br hh' ll' (va_up (va_up V d (sd 1 e0)) u (su m e0)) ∧ F' = va_up (va_up F 99 (aB g hh')) 100 (aL g ll'))) ad N 0 0 66 [(0, .ref (ad 98)), (3, .int (iI (u : Int))), (4, .int (iI (d : Int))), (5, .double (fd false m (e0 - e))), (7, .int (iI e))] [] (va_up (va_up F 99 (.inl (g 0, 858, .inl (aI bh1)))) 100 (.inl (g 0, 33, .inl (aI bl2)))) := by
                  intro e h3
                  refine J_aload_n 0 d_M_split_66 rfl rfl ?_
                  refine J_iload_n 1 d_M_split_67 rfl rfl ?_
                  refine J_dload 3 d_M_split_68 rfl ?_
                  refine J_topd (y := (fd false m 0)) (by rw [show e0 - e = 0 by omega]) ?_
                  refine J_d2l d_M_split_70 ?_
                  refine J_topl (r := (m : Int)) (fd_d2l (by omega)) ?_
                  refine J_callVv cw_M_82 nh_M_put pn_M_put rfl rfl (by omega) (by rw [va_up_ne _ _ (by decide), va_up_ne _ _ (by decide)]; exact hO) (As := [.int (iI (u : Int)), .long (lI (m : Int))]) (rest := []) rfl (Nat.le_of_ble_eq_true rfl) ⟨by decide, by decide⟩ rfl ⟨by decide, by decide⟩ d_M_split_71 (k_M_put hfl (a := u) (n := m) (hh := bh1) (ll := bl2) (V := va_up V d 1) (br := br) (hN := hN) (hO := (by rw [va_up_ne _ _ (by decide), va_up_ne _ _ (by decide)]; exact hO)) (hB := (by rw [va_up_ne _ _ (by decide), va_up_self])) (hL := (by rw [va_up_self])) (hR := hR6) (ha := by omega) (hn := by omega)) (fun  F5 hq => ?_)
                  obtain ⟨bh31, bl32, hR33, eF5⟩ := hq
                  refine J_eqF (F2 := va_up (va_up F 99 (.inl (g 0, 858, .inl (aI bh31)))) 100 (.inl (g 0, 33, .inl (aI bl32)))) (eF5.trans (Eq.trans (congrArg (fun q : Nat → va_E => va_up q 100 (.inl (g 0, 33, .inl (aI bl32)))) (up_in1 (by decide))) (up_in0))) ?_
                  have hR36 := reg_w1 (hzz.1 _) hR33
                  refine J_iload 4 d_M_split_74 rfl ?_
                  refine J_ifle (tgt := 89) d_M_split_76 (by decide) ⟨by omega, by omega⟩ (fun c76 => ?_) (fun c76 => ?_)
                  · refine J_aload_n 0 d_M_split_89 rfl rfl ?_
                    refine J_iload 2 d_M_split_90 rfl ?_
                    refine J_iload 4 d_M_split_92 rfl ?_
                    refine J_ineg d_M_split_94 ?_
                    refine J_topi (r := (((-e).toNat : Nat) : Int)) (congrArg iI (by omega)) ?_
                    refine J_callVv cw_M_66 nh_M_up pn_M_up rfl rfl (by omega) (by rw [va_up_ne _ _ (by decide), va_up_ne _ _ (by decide)]; exact hO) (As := [.int (iI (d : Int)), .int (iI (((-e).toNat : Nat) : Int))]) (rest := []) rfl (Nat.le_of_ble_eq_true rfl) ⟨by decide, by decide⟩ rfl ⟨by decide, by decide⟩ d_M_split_95 (k_M_up hfl (a := d) (n := (-e).toNat) (hh := bh31) (ll := bl32) (V := va_up (va_up V d 1) u m) (br := br) (hN := hN) (hO := (by rw [va_up_ne _ _ (by decide), va_up_ne _ _ (by decide)]; exact hO)) (hB := (by rw [va_up_ne _ _ (by decide), va_up_self])) (hL := (by rw [va_up_self])) (hR := hR36) (ha := by omega) (hxa := ((va_up_ne _ _ (by omega)).trans (va_up_self ..))) (bra := brd) (hn := by omega) (hT := Or.inr (by omega))) (fun  F6 hq => ?_)
                    obtain ⟨bh37, bl38, hR39, eF6⟩ := hq
                    refine J_eqF (F2 := va_up (va_up F 99 (.inl (g 0, 858, .inl (aI bh37)))) 100 (.inl (g 0, 33, .inl (aI bl38)))) (eF6.trans (Eq.trans (congrArg (fun q : Nat → va_E => va_up q 100 (.inl (g 0, 33, .inl (aI bl38)))) (up_in1 (by decide))) (up_in0))) ?_
                    have hR42 := reg_w1 (hzz.1 _) hR39
                    have hR43 := (congrArg (fun qq : Nat → Nat => reg _ _ _ (qq)) (up_in1 (by omega))).mp hR42
                    have hR44 := (congrArg (fun qq : Nat => reg _ _ _ (va_up (va_up V d (1 * 2 ^ ((-e).toNat))) u qq)) (show (m) = (su m e0) from (by unfold su; rw [show e0.toNat = 0 by omega, Nat.pow_zero, Nat.mul_one]))).mp hR43
                    have hR45 := (congrArg (fun qq : Nat => reg _ _ _ (va_up (va_up V d qq) u (su m e0))) (show (1 * 2 ^ ((-e).toNat)) = (sd 1 e0) from (by unfold sd; rw [show e0 = e by omega]))).mp hR44
                    refine J_vret rfl d_M_split_98 ⟨by decide, by decide⟩ ?_
                    exact ⟨rfl, rfl, rfl, _, _, hR45, rfl⟩
                  · refine J_aload_n 0 d_M_split_79 rfl rfl ?_
                    refine J_iload_n 1 d_M_split_80 rfl rfl ?_
                    refine J_iload 4 d_M_split_81 rfl ?_
                    refine J_topi (r := ((e.toNat : Nat) : Int)) (congrArg iI (by omega)) ?_
                    refine J_callVv cw_M_66 nh_M_up pn_M_up rfl rfl (by omega) (by rw [va_up_ne _ _ (by decide), va_up_ne _ _ (by decide)]; exact hO) (As := [.int (iI (u : Int)), .int (iI ((e.toNat : Nat) : Int))]) (rest := []) rfl (Nat.le_of_ble_eq_true rfl) ⟨by decide, by decide⟩ rfl ⟨by decide, by decide⟩ d_M_split_83 (k_M_up hfl (a := u) (n := e.toNat) (hh := bh31) (ll := bl32) (V := va_up (va_up V d 1) u m) (br := br) (hN := hN) (hO := (by rw [va_up_ne _ _ (by decide), va_up_ne _ _ (by decide)]; exact hO)) (hB := (by rw [va_up_ne _ _ (by decide), va_up_self])) (hL := (by rw [va_up_self])) (hR := hR36) (ha := by omega) (hxa := (va_up_self ..)) (bra := bru) (hn := by omega) (hT := Or.inr (by omega))) (fun  F7 hq => ?_)
                    obtain ⟨bh46, bl47, hR48, eF7⟩ := hq
                    refine J_eqF (F2 := va_up (va_up F 99 (.inl (g 0, 858, .inl (aI bh46)))) 100 (.inl (g 0, 33, .inl (aI bl47)))) (eF7.trans (Eq.trans (congrArg (fun q : Nat → va_E => va_up q 100 (.inl (g 0, 33, .inl (aI bl47)))) (up_in1 (by decide))) (up_in0))) ?_
                    have hR51 := reg_w1 (hzz.1 _) hR48
                    have hR52 := (congrArg (fun qq : Nat → Nat => reg _ _ _ (qq)) (up_in0)).mp hR51
                    refine J_goto (tgt := 98) d_M_split_86 (by decide) ?_
                    have hR53 := (congrArg (fun qq : Nat => reg _ _ _ (va_up (va_up V d 1) u qq)) (show (m * 2 ^ e.toNat) = (su m e0) from (by unfold su; rw [show e0 = e by omega]))).mp hR52
                    have hR54 := (congrArg (fun qq : Nat => reg _ _ _ (va_up (va_up V d qq) u (su m e0))) (show (1) = (sd 1 e0) from (by unfold sd; rw [show (-e0).toNat = 0 by omega, Nat.pow_zero]))).mp hR53
                    refine J_vret rfl d_M_split_98 ⟨by decide, by decide⟩ ?_
                    exact ⟨rfl, rfl, rfl, _, _, hR54, rfl⟩
                exact lab66 e (by omega)
              · have hq2 : ¬(m ≠ 0 ∧ 0 ≤ e0 - e) := fun w => c48 ((sp_lo hm2 (by omega) (by omega)).mpr w)
                refine J_dload 3 d_M_split_52 rfl ?_
                refine J_ldc2d d_M_split_54 wd_1156 ?_
                refine J_topd (y := (fd false 1 1)) c_two ?_
                refine J_dmul (r := (fd false m (e0 - e + 1))) d_M_split_57 (fd_two ⟨by omega, by omega, by omega⟩) (fd_n64 _ _ _) ?_
                refine J_topd (y := (fd false m (e0 - (e - 1)))) (by rw [show e0 - (e - 1) = e0 - e + 1 by omega]) ?_
                refine J_dstore (lv' := [(5, .double (fd false m (e0 - (e - 1)))), (0, .ref (ad 98)), (3, .int (iI (u : Int))), (4, .int (iI (d : Int))), (7, .int (iI e))]) d_M_split_58 (by decide) rfl ?_
                refine J_iinc (j := 4) (b := e - 1) (lv' := [(7, .int (iI (e - 1))), (5, .double (fd false m (e0 - (e - 1)))), (0, .ref (ad 98)), (3, .int (iI (u : Int))), (4, .int (iI (d : Int)))]) d_M_split_60 rfl (by omega) (by decide) rfl ?_
                refine J_goto (tgt := 36) d_M_split_63 (by decide) ?_
                refine J_pick (lv' := [(0, .ref (ad 98)), (3, .int (iI (u : Int))), (4, .int (iI (d : Int))), (5, .double (fd false m (e0 - (e - 1)))), (7, .int (iI (e - 1)))]) [2, 3, 4, 1, 0] rfl ?_
                exact ih (e - 1) (by omega) (by omega)
        exact loop36 (((e - e0).toNat) + 1) e (by omega) (Nat.lt_succ_self _)
      · have hq : m ≠ 0 ∧ 1 ≤ e0 - e := Classical.byContradiction (fun w => c18 ((sp_hi hm2 (by omega) (by omega)).mpr w))
        refine J_dload 3 d_M_split_22 rfl ?_
        refine J_ldc2d d_M_split_24 wd_1155 ?_
        refine J_topd (y := (fd false 1 (-1))) c_half ?_
        refine J_dmul (r := (fd false m (e0 - e - 1))) d_M_split_27 (fd_half ⟨by omega, by omega, by omega⟩) (fd_n64 _ _ _) ?_
        refine J_topd (y := (fd false m (e0 - (e + 1)))) (by rw [show e0 - (e + 1) = e0 - e - 1 by omega]) ?_
        refine J_dstore (lv' := [(5, .double (fd false m (e0 - (e + 1)))), (0, .ref (ad 98)), (3, .int (iI (u : Int))), (4, .int (iI (d : Int))), (7, .int (iI e))]) d_M_split_28 (by decide) rfl ?_
        refine J_iinc (j := 4) (b := e + 1) (lv' := [(7, .int (iI (e + 1))), (5, .double (fd false m (e0 - (e + 1)))), (0, .ref (ad 98)), (3, .int (iI (u : Int))), (4, .int (iI (d : Int)))]) d_M_split_30 rfl (by omega) (by decide) rfl ?_
        refine J_goto (tgt := 13) d_M_split_33 (by decide) ?_
        refine J_pick (lv' := [(0, .ref (ad 98)), (3, .int (iI (u : Int))), (4, .int (iI (d : Int))), (5, .double (fd false m (e0 - (e + 1)))), (7, .int (iI (e + 1)))]) [2, 3, 4, 1, 0] rfl ?_
        exact ih (e + 1) (by omega) (by omega)
  exact loop13 (((e0 - (0 : Int)).toNat) + 1) (0 : Int) (by omega) (Nat.lt_succ_self _)
set_option maxRecDepth 100000 in
set_option maxHeartbeats 4000000 in
theorem c_M_isReal {l : Launch} (hfl : l.flags = flags0) {D : va_G} {g : Nat → ClassId} {ad : Nat → Nat} {N : Nat} {F : Nat → va_E} {q : Nat} {e : Int}
    (hx : exD q e) (he : -300 ≤ e ∧ e ≤ 300) :
    JC l y_M_isReal b_M_isReal 4 (Option.some Jvm.ClassFile.FieldType.boolean) rm_M_isReal (0, 0) D jCl (jTys g) ad N F [.double (fd false q e)] (ji ad N (fun z F' => ((z = 1 ∧ isR q e) ∨ (z = 0 ∧ ¬ isR q e)) ∧ F' = F)) := by
  obtain ⟨o1, a1, a2⟩ := fd_pow hx (show exD 1 100 from ⟨by decide, by decide, by decide⟩) (k := 0) rfl
  have hx2 : exD q (e + 100) := ⟨hx.1, by omega, by omega⟩
  obtain ⟨o2, b1, b2⟩ := fd_pow hx2 (show exD 1 0 from ⟨by decide, by decide, by decide⟩) (k := 0) rfl
  have hz := (sp_ze hx).2
  have h1 : 0 ≤ Op.cmpValue (Jvm.FP.dcmp (fd false q e) (fd false 1 100)) .g ↔ ¬(q = 0 ∨ (blen q : Int) + e ≤ 100) := by
    rw [a1, cv_lt.2.2.2.2, Ne, a2]; simp
  have h2 : Op.cmpValue (Jvm.FP.dcmp (fd false q (e + 100)) (fd false 1 0)) .l < 0 ↔ (q = 0 ∨ (blen q : Int) + (e + 100) ≤ 0) := by
    rw [b1, cv_lt.1, b2]; simp
  refine JC.go hfl (own := "NumberTowerModel") (lv := [(0, .double (fd false q e))]) rfl (by decide +kernel) (Nat.le_of_ble_eq_true rfl) rfl (fun A => ?_)
  refine J_ldc2d d_M_isReal_0 wd_1160 ?_
  refine J_topd (y := (fd false 1 100)) c_lim ?_
  refine J_dstore_n (lv' := [(2, .double (fd false 1 100)), (0, .double (fd false q e))]) d_M_isReal_3 rfl (by decide) rfl ?_
  have lab29 : ∀ (z : Int) (hz1 : (z = 1 ∧ isR q e) ∨ (z = 0 ∧ ¬ isR q e)) , J l rm_M_isReal (0, 0) "NumberTowerModel" b_M_isReal 4 (Option.some Jvm.ClassFile.FieldType.boolean) D jCl (jTys g) A (fun _ me => me.name = y_M_isReal.name) (ji ad N (fun z F' => ((z = 1 ∧ isR q e) ∨ (z = 0 ∧ ¬ isR q e)) ∧ F' = F)) ad N 0 0 29 [] [.int (iI z)] F := by
    intro z hz1
    refine J_iret rfl (nb01 (by omega)).1 d_M_isReal_29 ⟨by decide, by decide⟩ ?_
    exact ⟨_, rfl, rfl, rfl, hz1, rfl⟩
  refine J_dload_n 1 d_M_isReal_4 rfl rfl ?_
  refine J_dconst0 d_M_isReal_5 ?_
  refine J_topd (y := (fd false 0 0)) c_d0 ?_
  refine J_dcmp d_M_isReal_6 ?_
  refine J_rifeq (tgt := 24) d_M_isReal_7 (by decide) (fun c6 => ?_) (fun c6 => ?_)
  · have hP : isR q e := Or.inl (hz.mp c6)
    refine J_iconst d_M_isReal_24 ?_
    refine J_goto (tgt := 29) d_M_isReal_25 (by decide) ?_
    refine J_pick (lv' := []) [] rfl ?_
    exact lab29 (1 : Int) (Or.inl ⟨rfl, hP⟩)
  · have hq0 : q ≠ 0 := fun w => c6 (hz.mpr w)
    refine J_dload_n 1 d_M_isReal_10 rfl rfl ?_
    refine J_dload_n 0 d_M_isReal_11 rfl rfl ?_
    refine J_dcmp d_M_isReal_12 ?_
    refine J_rifge (tgt := 28) d_M_isReal_13 (by decide) (fun c12 => ?_) (fun c12 => ?_)
    · have hP : ¬ isR q e := fun w => by have := h1.mp c12; unfold isR at w; omega
      refine J_iconst d_M_isReal_28 ?_
      refine J_pick (lv' := []) [] rfl ?_
      exact lab29 (0 : Int) (Or.inr ⟨rfl, hP⟩)
    · have hq1 : (blen q : Int) + e ≤ 100 := Classical.byContradiction (fun w => c12 (h1.mpr (by omega)))
      refine J_dload_n 1 d_M_isReal_16 rfl rfl ?_
      refine J_dload_n 0 d_M_isReal_17 rfl rfl ?_
      refine J_dmul (r := (fd false q (e + 100))) d_M_isReal_18 (by rw [fd_mul hx ⟨by decide, by decide, by decide⟩, Nat.mul_one]; rfl) (fd_n64 _ _ _) ?_
      refine J_dconst1 d_M_isReal_19 ?_
      refine J_topd (y := (fd false 1 0)) c_d1 ?_
      refine J_dcmp d_M_isReal_20 ?_
      refine J_riflt (tgt := 28) d_M_isReal_21 (by decide) (fun c20 => ?_) (fun c20 => ?_)
      · have hP : ¬ isR q e := fun w => by have := h2.mp c20; unfold isR at w; omega
        refine J_iconst d_M_isReal_28 ?_
        refine J_pick (lv' := []) [] rfl ?_
        exact lab29 (0 : Int) (Or.inr ⟨rfl, hP⟩)
      · have hP : isR q e := Or.inr ⟨hq1, Classical.byContradiction (fun w => c20 (h2.mpr (by omega)))⟩
        refine J_iconst d_M_isReal_24 ?_
        refine J_goto (tgt := 29) d_M_isReal_25 (by decide) ?_
        refine J_pick (lv' := []) [] rfl ?_
        exact lab29 (1 : Int) (Or.inl ⟨rfl, hP⟩)
