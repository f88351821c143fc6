/-! the Model: spec -/

/-! a spec's parts, and where each of them ends -/
def aln (c : Nat) : Prop := isAl (c : Int)
noncomputable def s1 (w : List Nat) : Nat := @ite _ (aln (chr w 1)) (Classical.propDecidable _) 2 (@ite _ (aln (chr w 0)) (Classical.propDecidable _) 1 0)
noncomputable def sFi (w : List Nat) : Nat := @ite _ (aln (chr w 1)) (Classical.propDecidable _) (chr w 0) 0
noncomputable def sAl (w : List Nat) : Nat := @ite _ (aln (chr w 1)) (Classical.propDecidable _) (chr w 1) (@ite _ (aln (chr w 0)) (Classical.propDecidable _) (chr w 0) 0)
theorem s1_a {w : List Nat} (h : isAl (chr w 1 : Int)) : s1 w = 2 ∧ sFi w = chr w 0 ∧ sAl w = chr w 1 := ⟨if_pos h, if_pos h, if_pos h⟩
theorem s1_b {w : List Nat} (h : ¬ isAl (chr w 1 : Int)) (h2 : isAl (chr w 0 : Int)) : s1 w = 1 ∧ sFi w = 0 ∧ sAl w = chr w 0 := ⟨(if_neg h).trans (if_pos h2), if_neg h, (if_neg h).trans (if_pos h2)⟩
theorem s1_c {w : List Nat} (h : ¬ isAl (chr w 1 : Int)) (h2 : ¬ isAl (chr w 0 : Int)) : s1 w = 0 ∧ sFi w = 0 ∧ sAl w = 0 := ⟨(if_neg h).trans (if_neg h2), if_neg h, (if_neg h).trans (if_neg h2)⟩
noncomputable def sPl (w : List Nat) : Nat := if chr w (s1 w) = 43 ∨ chr w (s1 w) = 45 ∨ chr w (s1 w) = 32 then chr w (s1 w) else 0
noncomputable def s2 (w : List Nat) : Nat := if 0 < sPl w then s1 w + 1 else s1 w
noncomputable def s3 (w : List Nat) : Nat := tk w (s2 w) 35
noncomputable def sSh (w : List Nat) : Int := if chr w (s2 w) = 35 then 1 else 0
noncomputable def s4 (w : List Nat) : Nat := tk w (s3 w) 48
noncomputable def sZe (w : List Nat) : Int := if chr w (s3 w) = 48 then 1 else 0
noncomputable def sWi (w : List Nat) : Int := if chr w (s4 w) = 48 then -1 else (two2 w 2 (s4 w) (-1)).1
noncomputable def s5 (w : List Nat) : Nat := if chr w (s4 w) = 48 then s4 w else (two2 w 2 (s4 w) (-1)).2
noncomputable def sPa (w : List Nat) : Nat := if chr w (s5 w) = 44 ∨ chr w (s5 w) = 95 then chr w (s5 w) else 0
noncomputable def s6 (w : List Nat) : Nat := if 0 < sPa w then s5 w + 1 else s5 w
noncomputable def s7 (w : List Nat) : Nat := tk w (s6 w) 46
noncomputable def sPt (w : List Nat) : Int := if chr w (s6 w) = 46 then 1 else 0
noncomputable def sPr (w : List Nat) : Int := if chr w (s6 w) = 46 then (two2 w 2 (s7 w) (-1)).1 else -1
noncomputable def s8 (w : List Nat) : Nat := if chr w (s6 w) = 46 then (two2 w 2 (s7 w) (-1)).2 else s7 w
def tyB (c : Nat) : Prop := c = 100 ∨ c = 98 ∨ c = 120 ∨ c = 88 ∨ c = 101 ∨ c = 69 ∨ c = 102 ∨ c = 103 ∨ c = 71 ∨ c = 37
noncomputable def sTc (w : List Nat) : Nat := @ite _ (tyB (chr w (s8 w))) (Classical.propDecidable _) (chr w (s8 w)) 0
noncomputable def s9 (w : List Nat) : Nat := if 0 < sTc w then s8 w + 1 else s8 w
noncomputable def sTy (w : List Nat) (kd : Int) : Nat := if 0 < sTc w then sTc w else if kd = 0 then 100 else 103
def spB (t : Nat) : Prop := t = 98 ∨ t = 120 ∨ t = 88
/-- whether the line is a spec for numbers of a kind -/
def spG (w : List Nat) (kd : Int) : Prop := (s9 w = w.length ∧ sWi w ≤ 40 ∧ sPr w ≤ 20 ∧ (sPt w = 0 ∨ 0 ≤ sPr w)) ∧ ((spB (sTy w kd) ∨ sTy w kd = 100) → kd = 0 ∧ sPt w = 0 ∧ (sTy w kd = 100 ∨ sPa w ≠ 44))
theorem two2_b {w : List Nat} {p : Nat} : -1 ≤ (two2 w 2 p (-1)).1 ∧ (two2 w 2 p (-1)).1 < 100 := by
  by_cases h : 0 ≤ dgr (chr w p) 10
  · rw [two2_d h, if_pos (by decide)]
    have d1 := dgr10 (c := (chr w p : Int))
    have := d1.1 h
    by_cases h2 : 0 ≤ dgr (chr w (p + 1)) 10
    · have d2 := dgr10 (c := (chr w (p + 1) : Int))
      have := d2.1 h2
      rw [two2_d h2, if_neg (by omega)]
      show -1 ≤ 10 * _ + _ - 48 ∧ 10 * _ + _ - 48 < 100
      omega
    · rw [two2_e h2]
      show -1 ≤ 0 + _ - 48 ∧ 0 + _ - 48 < 100
      omega
  · rw [two2_e h]
    show (-1 : Int) ≤ -1 ∧ (-1 : Int) < 100
    decide
theorem sTy_b {w : List Nat} {kd : Int} : tyB (sTy w kd) := by
  have h : sTc w = 0 ∨ tyB (sTc w) := by
    unfold sTc
    by_cases h : tyB (chr w (s8 w))
    · rw [if_pos h]; exact Or.inr h
    · rw [if_neg h]; exact Or.inl rfl
  unfold sTy
  rcases h with h | h
  · rw [if_neg (by omega)]
    split
    · exact Or.inl rfl
    · exact Or.inr (Or.inr (Or.inr (Or.inr (Or.inr (Or.inr (Or.inr (Or.inl rfl)))))))
  · rw [if_pos (by unfold tyB at h; omega)]; exact h
set_option maxRecDepth 100000 in
set_option maxHeartbeats 4000000 in
theorem c_M_spec {l : Launch} (hfl : l.flags = flags0) {D : va_G} {g : Nat → ClassId} {ad : Nat → Nat} {N : Nat} {F : Nat → va_E} {f : Nat → Int} {v : UInt64} {lh : Nat → Int} {ln : List Nat} {kd : Int}
    (hN : 109 ≤ N) (hO : F 98 = oM ad f v) (h104 : F 104 = .inl (g 0, 40, .inl (aI lh))) (hml : mtx lh ln) (hf12 : f 12 = (ln.length : Int)) (hl40 : ln.length ≤ 40) (hch : ∀ c, c ∈ ln → 32 ≤ c ∧ c ≤ 126) (hkd : 0 ≤ kd ∧ kd ≤ 2) :
    JC l y_M_spec b_M_spec 6 (Option.some Jvm.ClassFile.FieldType.boolean) rm_M_spec (0, 0) D jCl (jTys g) ad N F [.ref (ad 98), .int (iI kd)] (ji ad N (fun z F' => ((z = 1 ∧ spG ln kd) ∨ (z = 0 ∧ ¬ spG ln kd)) ∧ ∃ f' : Nat → Int, (∀ j, j < 19 ∨ j = 20 → f' j = f j) ∧ (f' 21 = (sFi ln : Int) ∧ f' 22 = (sAl ln : Int) ∧ f' 23 = (sPl ln : Int) ∧ f' 24 = sSh ln ∧ f' 25 = sZe ln ∧ f' 26 = sWi ln ∧ f' 27 = (sPa ln : Int) ∧ f' 28 = sPr ln ∧ f' 29 = (sTy ln kd : Int)) ∧ F' = va_up F 98 (oM ad f' v))) := by
  refine JC.go hfl (own := "NumberTowerModel") (lv := [(0, .ref (ad 98)), (1, .int (iI kd))]) rfl (by decide +kernel) (Nat.le_of_ble_eq_true rfl) rfl (fun A => ?_)
  refine J_aload_n 0 d_M_spec_0 rfl rfl ?_
  refine J_iconst d_M_spec_1 ?_
  refine pm_M_244 (by omega) hO d_M_spec_2 ?_
  refine J_aload_n 0 d_M_spec_5 rfl rfl ?_
  refine J_iconst d_M_spec_6 ?_
  refine pm_M_316 (by omega) (by rw [va_up_self]) d_M_spec_7 ?_
  refine J_eqF (F2 := va_up F 98 (oM ad (va_up (va_up f 19 0) 21 0) v)) (up_in0) ?_
  refine J_aload_n 0 d_M_spec_10 rfl rfl ?_
  refine J_iconst d_M_spec_11 ?_
  refine pm_M_319 (by omega) (by rw [va_up_self]) d_M_spec_12 ?_
  refine J_eqF (F2 := va_up F 98 (oM ad (va_up (va_up (va_up f 19 0) 21 0) 22 0) v)) (up_in0) ?_
  refine J_aload_n 0 d_M_spec_15 rfl rfl ?_
  refine J_iconst d_M_spec_16 ?_
  have lab77 : ∀ (p1 : Nat) (fi : Nat) (al : Nat) (hs1 : s1 ln = p1) (hfi : sFi ln = fi) (hal : sAl ln = al) (hp1 : p1 ≤ 2) (hfb : fi ≤ 126 ∧ al ≤ 126) , J l rm_M_spec (0, 0) "NumberTowerModel" b_M_spec 6 (Option.some Jvm.ClassFile.FieldType.boolean) D jCl (jTys g) A (fun _ me => me.name = y_M_spec.name) (ji ad N (fun z F' => ((z = 1 ∧ spG ln kd) ∨ (z = 0 ∧ ¬ spG ln kd)) ∧ ∃ f' : Nat → Int, (∀ j, j < 19 ∨ j = 20 → f' j = f j) ∧ (f' 21 = (sFi ln : Int) ∧ f' 22 = (sAl ln : Int) ∧ f' 23 = (sPl ln : Int) ∧ f' 24 = sSh ln ∧ f' 25 = sZe ln ∧ f' 26 = sWi ln ∧ f' 27 = (sPa ln : Int) ∧ f' 28 = sPr ln ∧ f' 29 = (sTy ln kd : Int)) ∧ F' = va_up F 98 (oM ad f' v))) ad N 0 0 77 [(0, .ref (ad 98)), (1, .int (iI kd))] [] (va_up F 98 (oM ad (va_up (va_up (va_up f 19 (p1 : Int)) 21 (fi : Int)) 22 (al : Int)) v)) := by
    intro p1 fi al hs1 hfi hal hp1 hfb
    have hcb1 := chr_b hch p1
    have lab129 : ∀ (pl : Nat) (hpl : sPl ln = pl) (hplb : pl ≤ 126) , J l rm_M_spec (0, 0) "NumberTowerModel" b_M_spec 6 (Option.some Jvm.ClassFile.FieldType.boolean) D jCl (jTys g) A (fun _ me => me.name = y_M_spec.name) (ji ad N (fun z F' => ((z = 1 ∧ spG ln kd) ∨ (z = 0 ∧ ¬ spG ln kd)) ∧ ∃ f' : Nat → Int, (∀ j, j < 19 ∨ j = 20 → f' j = f j) ∧ (f' 21 = (sFi ln : Int) ∧ f' 22 = (sAl ln : Int) ∧ f' 23 = (sPl ln : Int) ∧ f' 24 = sSh ln ∧ f' 25 = sZe ln ∧ f' 26 = sWi ln ∧ f' 27 = (sPa ln : Int) ∧ f' 28 = sPr ln ∧ f' 29 = (sTy ln kd : Int)) ∧ F' = va_up F 98 (oM ad f' v))) ad N 0 0 129 [(0, .ref (ad 98)), (1, .int (iI kd))] [.int (iI (pl : Int)), .ref (ad 98)] (va_up F 98 (oM ad (va_up (va_up (va_up f 19 (p1 : Int)) 21 (fi : Int)) 22 (al : Int)) v)) := by
      intro pl hpl hplb
      refine pm_M_325 (by omega) (by rw [va_up_self]) d_M_spec_129 ?_
      refine J_eqF (F2 := va_up F 98 (oM ad (va_up (va_up (va_up (va_up f 19 (p1 : Int)) 21 (fi : Int)) 22 (al : Int)) 23 (pl : Int)) v)) (up_in0) ?_
      have lab153 : ∀ (p2 : Nat) (hs2 : s2 ln = p2) (hp2 : p2 ≤ 3) , J l rm_M_spec (0, 0) "NumberTowerModel" b_M_spec 6 (Option.some Jvm.ClassFile.FieldType.boolean) D jCl (jTys g) A (fun _ me => me.name = y_M_spec.name) (ji ad N (fun z F' => ((z = 1 ∧ spG ln kd) ∨ (z = 0 ∧ ¬ spG ln kd)) ∧ ∃ f' : Nat → Int, (∀ j, j < 19 ∨ j = 20 → f' j = f j) ∧ (f' 21 = (sFi ln : Int) ∧ f' 22 = (sAl ln : Int) ∧ f' 23 = (sPl ln : Int) ∧ f' 24 = sSh ln ∧ f' 25 = sZe ln ∧ f' 26 = sWi ln ∧ f' 27 = (sPa ln : Int) ∧ f' 28 = sPr ln ∧ f' 29 = (sTy ln kd : Int)) ∧ F' = va_up F 98 (oM ad f' v))) ad N 0 0 153 [(0, .ref (ad 98)), (1, .int (iI kd))] [.int (iI (p2 : Int)), .ref (ad 98)] (va_up F 98 (oM ad (va_up (va_up (va_up (va_up f 19 (p1 : Int)) 21 (fi : Int)) 22 (al : Int)) 23 (pl : Int)) v)) := by
        intro p2 hs2 hp2
        have hcb2 := chr_b hch p2
        refine pm_M_244 (by omega) (by rw [va_up_self]) d_M_spec_153 ?_
        refine J_eqF (F2 := va_up (va_up F 98 (oM ad (va_up (va_up (va_up (va_up f 19 (p1 : Int)) 21 (fi : Int)) 22 (al : Int)) 23 (pl : Int)) v)) 98 (oM ad (va_up (va_up (va_up (va_up f 19 (p2 : Int)) 21 (fi : Int)) 22 (al : Int)) 23 (pl : Int)) v)) (congrArg (fun qq : Nat → Int => va_up (va_up F 98 (oM ad (va_up (va_up (va_up (va_up f 19 (p1 : Int)) 21 (fi : Int)) 22 (al : Int)) 23 (pl : Int)) v)) 98 (oM ad qq v)) (up_in3 (by decide) (by decide) (by decide))) ?_
        refine J_eqF (F2 := va_up F 98 (oM ad (va_up (va_up (va_up (va_up f 19 (p2 : Int)) 21 (fi : Int)) 22 (al : Int)) 23 (pl : Int)) v)) (up_in0) ?_
        refine J_aload_n 0 d_M_spec_156 rfl rfl ?_
        refine J_aload_n 0 d_M_spec_157 rfl rfl ?_
        refine J_bipush d_M_spec_158 (i8_ok (by decide)) ?_
        refine J_callVi cw_M_259 nh_M_takes2 pn_M_takes2 rfl rfl (by omega) (by rw [va_up_self]) (As := [.int (iI 35)]) (rest := [.ref (ad 98)]) rfl (Nat.le_of_ble_eq_true rfl) ⟨by decide, by decide⟩ rfl ⟨by decide, by decide⟩ d_M_spec_160 (c_M_takes2 hfl (f := va_up (va_up (va_up (va_up f 19 (p2 : Int)) 21 (fi : Int)) 22 (al : Int)) 23 (pl : Int)) (v := v) (lh := lh) (ln := ln) (p := p2) (c := 35) hN (by rw [va_up_self]) (by rw [va_up_ne _ _ (by decide)]; exact h104) hml ((va_up_ne _ _ (by decide)).trans ((va_up_ne _ _ (by decide)).trans ((va_up_ne _ _ (by decide)).trans ((va_up_ne _ _ (by decide)).trans hf12)))) hl40 hch ((va_up_ne _ _ (by decide)).trans ((va_up_ne _ _ (by decide)).trans ((va_up_ne _ _ (by decide)).trans (va_up_self ..)))) (by omega) (by omega)) (fun zs F1 hq => ?_)
        obtain ⟨hzs, eF1⟩ := hq
        refine J_eqF (F2 := va_up F 98 (oM ad (va_up (va_up (va_up (va_up f 19 ((tk ln p2 35 : Nat) : Int)) 21 (fi : Int)) 22 (al : Int)) 23 (pl : Int)) v)) ((eF1.trans (congrArg (fun qq : Nat → Int => va_up (va_up F 98 (oM ad (va_up (va_up (va_up (va_up f 19 (p2 : Int)) 21 (fi : Int)) 22 (al : Int)) 23 (pl : Int)) v)) 98 (oM ad qq v)) (up_in3 (by decide) (by decide) (by decide)))).trans (up_in0)) ?_
        have hfzs : sSh ln = zs := by
          unfold sSh; rw [hs2]
          rcases hzs with w | w
          · rw [if_pos w.2]; exact w.1.symm
          · rw [if_neg w.2]; exact w.1.symm
        have hzzs : (zs = 1 ∧ chr ln p2 = 35) ∨ (zs = 0 ∧ chr ln p2 ≠ 35) := hzs
        have hzs1 : zs = 0 ∨ zs = 1 := by omega
        replace hzs : hold _ := hzs
        replace hzzs : hold _ := hzzs
        obtain ⟨p3, hkp3⟩ : ∃ q9, tk ln p2 35 = q9 := ⟨_, rfl⟩
        have hbp3 : p3 ≤ p2 + 1 := by rw [← hkp3]; unfold tk; split <;> omega
        have hsp3 : s3 ln = p3 := by unfold s3; rw [hs2]; exact hkp3
        refine J_eqF (F2 := va_up F 98 (oM ad (va_up (va_up (va_up (va_up f 19 (p3 : Int)) 21 (fi : Int)) 22 (al : Int)) 23 (pl : Int)) v)) (congrArg (fun qq : Int => va_up F 98 (oM ad (va_up (va_up (va_up (va_up f 19 qq) 21 (fi : Int)) 22 (al : Int)) 23 (pl : Int)) v)) (show ((tk ln p2 35 : Nat) : Int) = (p3 : Int) from by rw [hkp3])) ?_
        refine pm_M_327 (by omega) (by rw [va_up_self]) (nb01 (by omega)) d_M_spec_163 ?_
        refine J_eqF (F2 := va_up F 98 (oM ad (va_up (va_up (va_up (va_up (va_up f 19 (p3 : Int)) 21 (fi : Int)) 22 (al : Int)) 23 (pl : Int)) 24 zs) v)) (up_in0) ?_
        refine J_aload_n 0 d_M_spec_166 rfl rfl ?_
        refine J_aload_n 0 d_M_spec_167 rfl rfl ?_
        refine J_bipush d_M_spec_168 (i8_ok (by decide)) ?_
        refine J_callVi cw_M_259 nh_M_takes2 pn_M_takes2 rfl rfl (by omega) (by rw [va_up_self]) (As := [.int (iI 48)]) (rest := [.ref (ad 98)]) rfl (Nat.le_of_ble_eq_true rfl) ⟨by decide, by decide⟩ rfl ⟨by decide, by decide⟩ d_M_spec_170 (c_M_takes2 hfl (f := va_up (va_up (va_up (va_up (va_up f 19 (p3 : Int)) 21 (fi : Int)) 22 (al : Int)) 23 (pl : Int)) 24 zs) (v := v) (lh := lh) (ln := ln) (p := p3) (c := 48) hN (by rw [va_up_self]) (by rw [va_up_ne _ _ (by decide)]; exact h104) hml ((va_up_ne _ _ (by decide)).trans ((va_up_ne _ _ (by decide)).trans ((va_up_ne _ _ (by decide)).trans ((va_up_ne _ _ (by decide)).trans ((va_up_ne _ _ (by decide)).trans hf12))))) hl40 hch ((va_up_ne _ _ (by decide)).trans ((va_up_ne _ _ (by decide)).trans ((va_up_ne _ _ (by decide)).trans ((va_up_ne _ _ (by decide)).trans (va_up_self ..))))) (by omega) (by omega)) (fun zz F2 hq => ?_)
        obtain ⟨hzz, eF2⟩ := hq
        refine J_eqF (F2 := va_up F 98 (oM ad (va_up (va_up (va_up (va_up (va_up f 19 ((tk ln p3 48 : Nat) : Int)) 21 (fi : Int)) 22 (al : Int)) 23 (pl : Int)) 24 zs) v)) ((eF2.trans (congrArg (fun qq : Nat → Int => va_up (va_up F 98 (oM ad (va_up (va_up (va_up (va_up (va_up f 19 (p3 : Int)) 21 (fi : Int)) 22 (al : Int)) 23 (pl : Int)) 24 zs) v)) 98 (oM ad qq v)) (up_in4 (by decide) (by decide) (by decide) (by decide)))).trans (up_in0)) ?_
        have hfzz : sZe ln = zz := by
          unfold sZe; rw [hsp3]
          rcases hzz with w | w
          · rw [if_pos w.2]; exact w.1.symm
          · rw [if_neg w.2]; exact w.1.symm
        have hzzz : (zz = 1 ∧ chr ln p3 = 48) ∨ (zz = 0 ∧ chr ln p3 ≠ 48) := hzz
        have hzz1 : zz = 0 ∨ zz = 1 := by omega
        replace hzz : hold _ := hzz
        replace hzzz : hold _ := hzzz
        obtain ⟨p4, hkp4⟩ : ∃ q9, tk ln p3 48 = q9 := ⟨_, rfl⟩
        have hbp4 : p4 ≤ p3 + 1 := by rw [← hkp4]; unfold tk; split <;> omega
        have hsp4 : s4 ln = p4 := by unfold s4; rw [hsp3]; exact hkp4
        refine J_eqF (F2 := va_up F 98 (oM ad (va_up (va_up (va_up (va_up (va_up f 19 (p4 : Int)) 21 (fi : Int)) 22 (al : Int)) 23 (pl : Int)) 24 zs) v)) (congrArg (fun qq : Int => va_up F 98 (oM ad (va_up (va_up (va_up (va_up (va_up f 19 qq) 21 (fi : Int)) 22 (al : Int)) 23 (pl : Int)) 24 zs) v)) (show ((tk ln p3 48 : Nat) : Int) = (p4 : Int) from by rw [hkp4])) ?_
        refine pm_M_330 (by omega) (by rw [va_up_self]) (nb01 (by omega)) d_M_spec_173 ?_
        refine J_eqF (F2 := va_up F 98 (oM ad (va_up (va_up (va_up (va_up (va_up (va_up f 19 (p4 : Int)) 21 (fi : Int)) 22 (al : Int)) 23 (pl : Int)) 24 zs) 25 zz) v)) (up_in0) ?_
        have hcb4 := chr_b hch p4
        refine J_aload_n 0 d_M_spec_176 rfl rfl ?_
        refine J_aload_n 0 d_M_spec_177 rfl rfl ?_
        refine J_aload_n 0 d_M_spec_178 rfl rfl ?_
        have lab198 : ∀ (wi : Int) (p5 : Nat) (hwi : sWi ln = wi) (hs5 : s5 ln = p5) (hp5 : p5 ≤ p4 + 2) (hwb : -1 ≤ wi ∧ wi < 100) , J l rm_M_spec (0, 0) "NumberTowerModel" b_M_spec 6 (Option.some Jvm.ClassFile.FieldType.boolean) D jCl (jTys g) A (fun _ me => me.name = y_M_spec.name) (ji ad N (fun z F' => ((z = 1 ∧ spG ln kd) ∨ (z = 0 ∧ ¬ spG ln kd)) ∧ ∃ f' : Nat → Int, (∀ j, j < 19 ∨ j = 20 → f' j = f j) ∧ (f' 21 = (sFi ln : Int) ∧ f' 22 = (sAl ln : Int) ∧ f' 23 = (sPl ln : Int) ∧ f' 24 = sSh ln ∧ f' 25 = sZe ln ∧ f' 26 = sWi ln ∧ f' 27 = (sPa ln : Int) ∧ f' 28 = sPr ln ∧ f' 29 = (sTy ln kd : Int)) ∧ F' = va_up F 98 (oM ad f' v))) ad N 0 0 198 [(0, .ref (ad 98)), (1, .int (iI kd))] [.int (iI wi), .ref (ad 98)] (va_up F 98 (oM ad (va_up (va_up (va_up (va_up (va_up (va_up f 19 (p5 : Int)) 21 (fi : Int)) 22 (al : Int)) 23 (pl : Int)) 24 zs) 25 zz) v)) := by
          intro wi p5 hwi hs5 hp5 hwb
          have hcb5 := chr_b hch p5
          refine pm_M_336 (by omega) (by rw [va_up_self]) d_M_spec_198 ?_
          refine J_eqF (F2 := va_up F 98 (oM ad (va_up (va_up (va_up (va_up (va_up (va_up (va_up f 19 (p5 : Int)) 21 (fi : Int)) 22 (al : Int)) 23 (pl : Int)) 24 zs) 25 zz) 26 wi) v)) (up_in0) ?_
          refine J_aload_n 0 d_M_spec_201 rfl rfl ?_
          have lab240 : ∀ (pa : Nat) (hpa : sPa ln = pa) (hpab : pa = 0 ∨ pa = 44 ∨ pa = 95) , J l rm_M_spec (0, 0) "NumberTowerModel" b_M_spec 6 (Option.some Jvm.ClassFile.FieldType.boolean) D jCl (jTys g) A (fun _ me => me.name = y_M_spec.name) (ji ad N (fun z F' => ((z = 1 ∧ spG ln kd) ∨ (z = 0 ∧ ¬ spG ln kd)) ∧ ∃ f' : Nat → Int, (∀ j, j < 19 ∨ j = 20 → f' j = f j) ∧ (f' 21 = (sFi ln : Int) ∧ f' 22 = (sAl ln : Int) ∧ f' 23 = (sPl ln : Int) ∧ f' 24 = sSh ln ∧ f' 25 = sZe ln ∧ f' 26 = sWi ln ∧ f' 27 = (sPa ln : Int) ∧ f' 28 = sPr ln ∧ f' 29 = (sTy ln kd : Int)) ∧ F' = va_up F 98 (oM ad f' v))) ad N 0 0 240 [(0, .ref (ad 98)), (1, .int (iI kd))] [.int (iI (pa : Int)), .ref (ad 98)] (va_up F 98 (oM ad (va_up (va_up (va_up (va_up (va_up (va_up (va_up f 19 (p5 : Int)) 21 (fi : Int)) 22 (al : Int)) 23 (pl : Int)) 24 zs) 25 zz) 26 wi) v)) := by
            intro pa hpa hpab
            refine pm_M_339 (by omega) (by rw [va_up_self]) d_M_spec_240 ?_
            refine J_eqF (F2 := va_up F 98 (oM ad (va_up (va_up (va_up (va_up (va_up (va_up (va_up (va_up f 19 (p5 : Int)) 21 (fi : Int)) 22 (al : Int)) 23 (pl : Int)) 24 zs) 25 zz) 26 wi) 27 (pa : Int)) v)) (up_in0) ?_
            have lab264 : ∀ (p6 : Nat) (hs6 : s6 ln = p6) (hp6 : p6 ≤ p5 + 1) , J l rm_M_spec (0, 0) "NumberTowerModel" b_M_spec 6 (Option.some Jvm.ClassFile.FieldType.boolean) D jCl (jTys g) A (fun _ me => me.name = y_M_spec.name) (ji ad N (fun z F' => ((z = 1 ∧ spG ln kd) ∨ (z = 0 ∧ ¬ spG ln kd)) ∧ ∃ f' : Nat → Int, (∀ j, j < 19 ∨ j = 20 → f' j = f j) ∧ (f' 21 = (sFi ln : Int) ∧ f' 22 = (sAl ln : Int) ∧ f' 23 = (sPl ln : Int) ∧ f' 24 = sSh ln ∧ f' 25 = sZe ln ∧ f' 26 = sWi ln ∧ f' 27 = (sPa ln : Int) ∧ f' 28 = sPr ln ∧ f' 29 = (sTy ln kd : Int)) ∧ F' = va_up F 98 (oM ad f' v))) ad N 0 0 264 [(0, .ref (ad 98)), (1, .int (iI kd))] [.int (iI (p6 : Int)), .ref (ad 98)] (va_up F 98 (oM ad (va_up (va_up (va_up (va_up (va_up (va_up (va_up (va_up f 19 (p5 : Int)) 21 (fi : Int)) 22 (al : Int)) 23 (pl : Int)) 24 zs) 25 zz) 26 wi) 27 (pa : Int)) v)) := by
              intro p6 hs6 hp6
              have hcb6 := chr_b hch p6
              refine pm_M_244 (by omega) (by rw [va_up_self]) d_M_spec_264 ?_
              refine J_eqF (F2 := va_up (va_up F 98 (oM ad (va_up (va_up (va_up (va_up (va_up (va_up (va_up (va_up f 19 (p5 : Int)) 21 (fi : Int)) 22 (al : Int)) 23 (pl : Int)) 24 zs) 25 zz) 26 wi) 27 (pa : Int)) v)) 98 (oM ad (va_up (va_up (va_up (va_up (va_up (va_up (va_up (va_up f 19 (p6 : Int)) 21 (fi : Int)) 22 (al : Int)) 23 (pl : Int)) 24 zs) 25 zz) 26 wi) 27 (pa : Int)) v)) (congrArg (fun qq : Nat → Int => va_up (va_up F 98 (oM ad (va_up (va_up (va_up (va_up (va_up (va_up (va_up (va_up f 19 (p5 : Int)) 21 (fi : Int)) 22 (al : Int)) 23 (pl : Int)) 24 zs) 25 zz) 26 wi) 27 (pa : Int)) v)) 98 (oM ad qq v)) (up_in7 (by decide) (by decide) (by decide) (by decide) (by decide) (by decide) (by decide))) ?_
              refine J_eqF (F2 := va_up F 98 (oM ad (va_up (va_up (va_up (va_up (va_up (va_up (va_up (va_up f 19 (p6 : Int)) 21 (fi : Int)) 22 (al : Int)) 23 (pl : Int)) 24 zs) 25 zz) 26 wi) 27 (pa : Int)) v)) (up_in0) ?_
              refine J_aload_n 0 d_M_spec_267 rfl rfl ?_
              refine J_bipush d_M_spec_268 (i8_ok (by decide)) ?_
              refine J_callVi cw_M_259 nh_M_takes2 pn_M_takes2 rfl rfl (by omega) (by rw [va_up_self]) (As := [.int (iI 46)]) (rest := []) rfl (Nat.le_of_ble_eq_true rfl) ⟨by decide, by decide⟩ rfl ⟨by decide, by decide⟩ d_M_spec_270 (c_M_takes2 hfl (f := va_up (va_up (va_up (va_up (va_up (va_up (va_up (va_up f 19 (p6 : Int)) 21 (fi : Int)) 22 (al : Int)) 23 (pl : Int)) 24 zs) 25 zz) 26 wi) 27 (pa : Int)) (v := v) (lh := lh) (ln := ln) (p := p6) (c := 46) hN (by rw [va_up_self]) (by rw [va_up_ne _ _ (by decide)]; exact h104) hml ((va_up_ne _ _ (by decide)).trans ((va_up_ne _ _ (by decide)).trans ((va_up_ne _ _ (by decide)).trans ((va_up_ne _ _ (by decide)).trans ((va_up_ne _ _ (by decide)).trans ((va_up_ne _ _ (by decide)).trans ((va_up_ne _ _ (by decide)).trans ((va_up_ne _ _ (by decide)).trans hf12)))))))) hl40 hch ((va_up_ne _ _ (by decide)).trans ((va_up_ne _ _ (by decide)).trans ((va_up_ne _ _ (by decide)).trans ((va_up_ne _ _ (by decide)).trans ((va_up_ne _ _ (by decide)).trans ((va_up_ne _ _ (by decide)).trans ((va_up_ne _ _ (by decide)).trans (va_up_self ..)))))))) (by omega) (by omega)) (fun zp F3 hq => ?_)
              obtain ⟨hzp, eF3⟩ := hq
              refine J_eqF (F2 := va_up F 98 (oM ad (va_up (va_up (va_up (va_up (va_up (va_up (va_up (va_up f 19 ((tk ln p6 46 : Nat) : Int)) 21 (fi : Int)) 22 (al : Int)) 23 (pl : Int)) 24 zs) 25 zz) 26 wi) 27 (pa : Int)) v)) ((eF3.trans (congrArg (fun qq : Nat → Int => va_up (va_up F 98 (oM ad (va_up (va_up (va_up (va_up (va_up (va_up (va_up (va_up f 19 (p6 : Int)) 21 (fi : Int)) 22 (al : Int)) 23 (pl : Int)) 24 zs) 25 zz) 26 wi) 27 (pa : Int)) v)) 98 (oM ad qq v)) (up_in7 (by decide) (by decide) (by decide) (by decide) (by decide) (by decide) (by decide)))).trans (up_in0)) ?_
              have hfzp : sPt ln = zp := by
                unfold sPt; rw [hs6]
                rcases hzp with w | w
                · rw [if_pos w.2]; exact w.1.symm
                · rw [if_neg w.2]; exact w.1.symm
              have hzzp : (zp = 1 ∧ chr ln p6 = 46) ∨ (zp = 0 ∧ chr ln p6 ≠ 46) := hzp
              have hzp1 : zp = 0 ∨ zp = 1 := by omega
              replace hzp : hold _ := hzp
              replace hzzp : hold _ := hzzp
              obtain ⟨p7, hkp7⟩ : ∃ q9, tk ln p6 46 = q9 := ⟨_, rfl⟩
              have hbp7 : p7 ≤ p6 + 1 := by rw [← hkp7]; unfold tk; split <;> omega
              have hsp7 : s7 ln = p7 := by unfold s7; rw [hs6]; exact hkp7
              refine J_eqF (F2 := va_up F 98 (oM ad (va_up (va_up (va_up (va_up (va_up (va_up (va_up (va_up f 19 (p7 : Int)) 21 (fi : Int)) 22 (al : Int)) 23 (pl : Int)) 24 zs) 25 zz) 26 wi) 27 (pa : Int)) v)) (congrArg (fun qq : Int => va_up F 98 (oM ad (va_up (va_up (va_up (va_up (va_up (va_up (va_up (va_up f 19 qq) 21 (fi : Int)) 22 (al : Int)) 23 (pl : Int)) 24 zs) 25 zz) 26 wi) 27 (pa : Int)) v)) (show ((tk ln p6 46 : Nat) : Int) = (p7 : Int) from by rw [hkp7])) ?_
              refine J_istore_n (lv' := [(2, .int (iI zp)), (0, .ref (ad 98)), (1, .int (iI kd))]) d_M_spec_273 rfl (by decide) rfl ?_
              have lab287 : ∀ (pr : Int) (p8 : Nat) (hpr : sPr ln = pr) (hs8 : s8 ln = p8) (hp8 : p8 ≤ p7 + 2) (hprb : -1 ≤ pr ∧ pr < 100) , J l rm_M_spec (0, 0) "NumberTowerModel" b_M_spec 6 (Option.some Jvm.ClassFile.FieldType.boolean) D jCl (jTys g) A (fun _ me => me.name = y_M_spec.name) (ji ad N (fun z F' => ((z = 1 ∧ spG ln kd) ∨ (z = 0 ∧ ¬ spG ln kd)) ∧ ∃ f' : Nat → Int, (∀ j, j < 19 ∨ j = 20 → f' j = f j) ∧ (f' 21 = (sFi ln : Int) ∧ f' 22 = (sAl ln : Int) ∧ f' 23 = (sPl ln : Int) ∧ f' 24 = sSh ln ∧ f' 25 = sZe ln ∧ f' 26 = sWi ln ∧ f' 27 = (sPa ln : Int) ∧ f' 28 = sPr ln ∧ f' 29 = (sTy ln kd : Int)) ∧ F' = va_up F 98 (oM ad f' v))) ad N 0 0 287 [(0, .ref (ad 98)), (1, .int (iI kd)), (2, .int (iI zp))] [.int (iI pr), .ref (ad 98)] (va_up F 98 (oM ad (va_up (va_up (va_up (va_up (va_up (va_up (va_up (va_up f 19 (p8 : Int)) 21 (fi : Int)) 22 (al : Int)) 23 (pl : Int)) 24 zs) 25 zz) 26 wi) 27 (pa : Int)) v)) := by
                intro pr p8 hpr hs8 hp8 hprb
                have hcb8 := chr_b hch p8
                refine pm_M_342 (by omega) (by rw [va_up_self]) d_M_spec_287 ?_
                refine J_eqF (F2 := va_up F 98 (oM ad (va_up (va_up (va_up (va_up (va_up (va_up (va_up (va_up (va_up f 19 (p8 : Int)) 21 (fi : Int)) 22 (al : Int)) 23 (pl : Int)) 24 zs) 25 zz) 26 wi) 27 (pa : Int)) 28 pr) v)) (up_in0) ?_
                refine J_aload_n 0 d_M_spec_290 rfl rfl ?_
                refine J_aload_n 0 d_M_spec_291 rfl rfl ?_
                refine gf_M_244 (by omega) (by rw [va_up_self]) rfl d_M_spec_292 ?_
                refine J_topi (r := (p8 : Int)) (congrArg iI ((va_up_ne _ _ (by decide)).trans ((va_up_ne _ _ (by decide)).trans ((va_up_ne _ _ (by decide)).trans ((va_up_ne _ _ (by decide)).trans ((va_up_ne _ _ (by decide)).trans ((va_up_ne _ _ (by decide)).trans ((va_up_ne _ _ (by decide)).trans ((va_up_ne _ _ (by decide)).trans (va_up_self ..)))))))))) ?_
                refine J_callVi cw_M_247 nh_M_here pn_M_here rfl rfl (by omega) (by rw [va_up_self]) (As := [.int (iI (p8 : Int))]) (rest := []) rfl (Nat.le_of_ble_eq_true rfl) ⟨by decide, by decide⟩ rfl ⟨by decide, by decide⟩ d_M_spec_295 (c_M_here hfl (f := va_up (va_up (va_up (va_up (va_up (va_up (va_up (va_up (va_up f 19 (p8 : Int)) 21 (fi : Int)) 22 (al : Int)) 23 (pl : Int)) 24 zs) 25 zz) 26 wi) 27 (pa : Int)) 28 pr) (v := v) (lh := lh) (ln := ln) (k := p8) hN (by rw [va_up_self]) (by rw [va_up_ne _ _ (by decide)]; exact h104) hml ((va_up_ne _ _ (by decide)).trans ((va_up_ne _ _ (by decide)).trans ((va_up_ne _ _ (by decide)).trans ((va_up_ne _ _ (by decide)).trans ((va_up_ne _ _ (by decide)).trans ((va_up_ne _ _ (by decide)).trans ((va_up_ne _ _ (by decide)).trans ((va_up_ne _ _ (by decide)).trans ((va_up_ne _ _ (by decide)).trans hf12))))))))) hl40 hch (by omega)) (fun z1 F4 hq => ?_)
                obtain ⟨hz1, eF4⟩ := hq
                refine J_eqF eF4 ?_
                refine J_topi (r := (((chr ln p8 : Nat)) : Int)) (congrArg iI hz1) ?_
                refine J_istore_n (lv' := [(3, .int (iI (((chr ln p8 : Nat)) : Int))), (0, .ref (ad 98)), (1, .int (iI kd)), (2, .int (iI zp))]) d_M_spec_298 rfl (by decide) rfl ?_
                have lab365 : ∀ (tc : Nat) (htc : sTc ln = tc) (htcb : tc ≤ 126) , J l rm_M_spec (0, 0) "NumberTowerModel" b_M_spec 6 (Option.some Jvm.ClassFile.FieldType.boolean) D jCl (jTys g) A (fun _ me => me.name = y_M_spec.name) (ji ad N (fun z F' => ((z = 1 ∧ spG ln kd) ∨ (z = 0 ∧ ¬ spG ln kd)) ∧ ∃ f' : Nat → Int, (∀ j, j < 19 ∨ j = 20 → f' j = f j) ∧ (f' 21 = (sFi ln : Int) ∧ f' 22 = (sAl ln : Int) ∧ f' 23 = (sPl ln : Int) ∧ f' 24 = sSh ln ∧ f' 25 = sZe ln ∧ f' 26 = sWi ln ∧ f' 27 = (sPa ln : Int) ∧ f' 28 = sPr ln ∧ f' 29 = (sTy ln kd : Int)) ∧ F' = va_up F 98 (oM ad f' v))) ad N 0 0 365 [(0, .ref (ad 98)), (1, .int (iI kd)), (2, .int (iI zp)), (3, .int (iI (((chr ln p8 : Nat)) : Int)))] [.int (iI (tc : Int)), .ref (ad 98)] (va_up F 98 (oM ad (va_up (va_up (va_up (va_up (va_up (va_up (va_up (va_up (va_up f 19 (p8 : Int)) 21 (fi : Int)) 22 (al : Int)) 23 (pl : Int)) 24 zs) 25 zz) 26 wi) 27 (pa : Int)) 28 pr) v)) := by
                  intro tc htc htcb
                  refine pm_M_345 (by omega) (by rw [va_up_self]) d_M_spec_365 ?_
                  refine J_eqF (F2 := va_up F 98 (oM ad (va_up (va_up (va_up (va_up (va_up (va_up (va_up (va_up (va_up (va_up f 19 (p8 : Int)) 21 (fi : Int)) 22 (al : Int)) 23 (pl : Int)) 24 zs) 25 zz) 26 wi) 27 (pa : Int)) 28 pr) 29 (tc : Int)) v)) (up_in0) ?_
                  have lab389 : ∀ (p9 : Nat) (hs9 : s9 ln = p9) (hp9 : p9 ≤ p8 + 1) , J l rm_M_spec (0, 0) "NumberTowerModel" b_M_spec 6 (Option.some Jvm.ClassFile.FieldType.boolean) D jCl (jTys g) A (fun _ me => me.name = y_M_spec.name) (ji ad N (fun z F' => ((z = 1 ∧ spG ln kd) ∨ (z = 0 ∧ ¬ spG ln kd)) ∧ ∃ f' : Nat → Int, (∀ j, j < 19 ∨ j = 20 → f' j = f j) ∧ (f' 21 = (sFi ln : Int) ∧ f' 22 = (sAl ln : Int) ∧ f' 23 = (sPl ln : Int) ∧ f' 24 = sSh ln ∧ f' 25 = sZe ln ∧ f' 26 = sWi ln ∧ f' 27 = (sPa ln : Int) ∧ f' 28 = sPr ln ∧ f' 29 = (sTy ln kd : Int)) ∧ F' = va_up F 98 (oM ad f' v))) ad N 0 0 389 [(0, .ref (ad 98)), (1, .int (iI kd)), (2, .int (iI zp)), (3, .int (iI (((chr ln p8 : Nat)) : Int)))] [.int (iI (p9 : Int)), .ref (ad 98)] (va_up F 98 (oM ad (va_up (va_up (va_up (va_up (va_up (va_up (va_up (va_up (va_up (va_up f 19 (p8 : Int)) 21 (fi : Int)) 22 (al : Int)) 23 (pl : Int)) 24 zs) 25 zz) 26 wi) 27 (pa : Int)) 28 pr) 29 (tc : Int)) v)) := by
                    intro p9 hs9 hp9
                    refine pm_M_244 (by omega) (by rw [va_up_self]) d_M_spec_389 ?_
                    refine J_eqF (F2 := va_up (va_up F 98 (oM ad (va_up (va_up (va_up (va_up (va_up (va_up (va_up (va_up (va_up (va_up f 19 (p8 : Int)) 21 (fi : Int)) 22 (al : Int)) 23 (pl : Int)) 24 zs) 25 zz) 26 wi) 27 (pa : Int)) 28 pr) 29 (tc : Int)) v)) 98 (oM ad (va_up (va_up (va_up (va_up (va_up (va_up (va_up (va_up (va_up (va_up f 19 (p9 : Int)) 21 (fi : Int)) 22 (al : Int)) 23 (pl : Int)) 24 zs) 25 zz) 26 wi) 27 (pa : Int)) 28 pr) 29 (tc : Int)) v)) (congrArg (fun qq : Nat → Int => va_up (va_up F 98 (oM ad (va_up (va_up (va_up (va_up (va_up (va_up (va_up (va_up (va_up (va_up f 19 (p8 : Int)) 21 (fi : Int)) 22 (al : Int)) 23 (pl : Int)) 24 zs) 25 zz) 26 wi) 27 (pa : Int)) 28 pr) 29 (tc : Int)) v)) 98 (oM ad qq v)) (up_in9 (by decide) (by decide) (by decide) (by decide) (by decide) (by decide) (by decide) (by decide) (by decide))) ?_
                    refine J_eqF (F2 := va_up F 98 (oM ad (va_up (va_up (va_up (va_up (va_up (va_up (va_up (va_up (va_up (va_up f 19 (p9 : Int)) 21 (fi : Int)) 22 (al : Int)) 23 (pl : Int)) 24 zs) 25 zz) 26 wi) 27 (pa : Int)) 28 pr) 29 (tc : Int)) v)) (up_in0) ?_
                    have lab418 : ∀ (ty : Nat) (hty : sTy ln kd = ty) (htyb : ty ≤ 126) , J l rm_M_spec (0, 0) "NumberTowerModel" b_M_spec 6 (Option.some Jvm.ClassFile.FieldType.boolean) D jCl (jTys g) A (fun _ me => me.name = y_M_spec.name) (ji ad N (fun z F' => ((z = 1 ∧ spG ln kd) ∨ (z = 0 ∧ ¬ spG ln kd)) ∧ ∃ f' : Nat → Int, (∀ j, j < 19 ∨ j = 20 → f' j = f j) ∧ (f' 21 = (sFi ln : Int) ∧ f' 22 = (sAl ln : Int) ∧ f' 23 = (sPl ln : Int) ∧ f' 24 = sSh ln ∧ f' 25 = sZe ln ∧ f' 26 = sWi ln ∧ f' 27 = (sPa ln : Int) ∧ f' 28 = sPr ln ∧ f' 29 = (sTy ln kd : Int)) ∧ F' = va_up F 98 (oM ad f' v))) ad N 0 0 418 [(0, .ref (ad 98)), (1, .int (iI kd)), (2, .int (iI zp)), (3, .int (iI (((chr ln p8 : Nat)) : Int)))] [.int (iI (ty : Int)), .ref (ad 98)] (va_up F 98 (oM ad (va_up (va_up (va_up (va_up (va_up (va_up (va_up (va_up (va_up (va_up f 19 (p9 : Int)) 21 (fi : Int)) 22 (al : Int)) 23 (pl : Int)) 24 zs) 25 zz) 26 wi) 27 (pa : Int)) 28 pr) 29 (tc : Int)) v)) := by
                      intro ty hty htyb
                      refine pm_M_345 (by omega) (by rw [va_up_self]) d_M_spec_418 ?_
                      refine J_eqF (F2 := va_up (va_up F 98 (oM ad (va_up (va_up (va_up (va_up (va_up (va_up (va_up (va_up (va_up (va_up f 19 (p9 : Int)) 21 (fi : Int)) 22 (al : Int)) 23 (pl : Int)) 24 zs) 25 zz) 26 wi) 27 (pa : Int)) 28 pr) 29 (tc : Int)) v)) 98 (oM ad (va_up (va_up (va_up (va_up (va_up (va_up (va_up (va_up (va_up (va_up f 19 (p9 : Int)) 21 (fi : Int)) 22 (al : Int)) 23 (pl : Int)) 24 zs) 25 zz) 26 wi) 27 (pa : Int)) 28 pr) 29 (ty : Int)) v)) (congrArg (fun qq : Nat → Int => va_up (va_up F 98 (oM ad (va_up (va_up (va_up (va_up (va_up (va_up (va_up (va_up (va_up (va_up f 19 (p9 : Int)) 21 (fi : Int)) 22 (al : Int)) 23 (pl : Int)) 24 zs) 25 zz) 26 wi) 27 (pa : Int)) 28 pr) 29 (tc : Int)) v)) 98 (oM ad qq v)) (up_in0)) ?_
                      refine J_eqF (F2 := va_up F 98 (oM ad (va_up (va_up (va_up (va_up (va_up (va_up (va_up (va_up (va_up (va_up f 19 (p9 : Int)) 21 (fi : Int)) 22 (al : Int)) 23 (pl : Int)) 24 zs) 25 zz) 26 wi) 27 (pa : Int)) 28 pr) 29 (ty : Int)) v)) (up_in0) ?_
                      have lab453 : ∀ (bz : Int) (hbz : (bz = 1 ∧ spB ty) ∨ (bz = 0 ∧ ¬ spB ty)) , J l rm_M_spec (0, 0) "NumberTowerModel" b_M_spec 6 (Option.some Jvm.ClassFile.FieldType.boolean) D jCl (jTys g) A (fun _ me => me.name = y_M_spec.name) (ji ad N (fun z F' => ((z = 1 ∧ spG ln kd) ∨ (z = 0 ∧ ¬ spG ln kd)) ∧ ∃ f' : Nat → Int, (∀ j, j < 19 ∨ j = 20 → f' j = f j) ∧ (f' 21 = (sFi ln : Int) ∧ f' 22 = (sAl ln : Int) ∧ f' 23 = (sPl ln : Int) ∧ f' 24 = sSh ln ∧ f' 25 = sZe ln ∧ f' 26 = sWi ln ∧ f' 27 = (sPa ln : Int) ∧ f' 28 = sPr ln ∧ f' 29 = (sTy ln kd : Int)) ∧ F' = va_up F 98 (oM ad f' v))) ad N 0 0 453 [(0, .ref (ad 98)), (1, .int (iI kd)), (2, .int (iI zp)), (3, .int (iI (((chr ln p8 : Nat)) : Int)))] [.int (iI bz)] (va_up F 98 (oM ad (va_up (va_up (va_up (va_up (va_up (va_up (va_up (va_up (va_up (va_up f 19 (p9 : Int)) 21 (fi : Int)) 22 (al : Int)) 23 (pl : Int)) 24 zs) 25 zz) 26 wi) 27 (pa : Int)) 28 pr) 29 (ty : Int)) v)) := by
                        intro bz hbz
                        have hbz1 : bz = 0 ∨ bz = 1 := by rcases hbz with w | w; exact Or.inr w.1; exact Or.inl w.1
                        replace hbz : hold _ := hbz
                        refine J_istore (lv' := [(4, .int (iI bz)), (0, .ref (ad 98)), (1, .int (iI kd)), (2, .int (iI zp)), (3, .int (iI (((chr ln p8 : Nat)) : Int)))]) d_M_spec_453 (by decide) rfl ?_
                        have lab500 : ∀ (gz : Int) (hgz : (gz = 1 ∧ p9 = ln.length ∧ wi ≤ 40 ∧ pr ≤ 20 ∧ (zp = 0 ∨ 0 ≤ pr)) ∨ (gz = 0 ∧ ¬(p9 = ln.length ∧ wi ≤ 40 ∧ pr ≤ 20 ∧ (zp = 0 ∨ 0 ≤ pr)))) , J l rm_M_spec (0, 0) "NumberTowerModel" b_M_spec 6 (Option.some Jvm.ClassFile.FieldType.boolean) D jCl (jTys g) A (fun _ me => me.name = y_M_spec.name) (ji ad N (fun z F' => ((z = 1 ∧ spG ln kd) ∨ (z = 0 ∧ ¬ spG ln kd)) ∧ ∃ f' : Nat → Int, (∀ j, j < 19 ∨ j = 20 → f' j = f j) ∧ (f' 21 = (sFi ln : Int) ∧ f' 22 = (sAl ln : Int) ∧ f' 23 = (sPl ln : Int) ∧ f' 24 = sSh ln ∧ f' 25 = sZe ln ∧ f' 26 = sWi ln ∧ f' 27 = (sPa ln : Int) ∧ f' 28 = sPr ln ∧ f' 29 = (sTy ln kd : Int)) ∧ F' = va_up F 98 (oM ad f' v))) ad N 0 0 500 [(0, .ref (ad 98)), (1, .int (iI kd)), (2, .int (iI zp)), (3, .int (iI (((chr ln p8 : Nat)) : Int))), (4, .int (iI bz))] [.int (iI gz)] (va_up F 98 (oM ad (va_up (va_up (va_up (va_up (va_up (va_up (va_up (va_up (va_up (va_up f 19 (p9 : Int)) 21 (fi : Int)) 22 (al : Int)) 23 (pl : Int)) 24 zs) 25 zz) 26 wi) 27 (pa : Int)) 28 pr) 29 (ty : Int)) v)) := by
                          intro gz hgz
                          have hgz1 : gz = 0 ∨ gz = 1 := by rcases hgz with w | w; exact Or.inr w.1; exact Or.inl w.1
                          replace hgz : hold _ := hgz
                          refine J_istore (lv' := [(5, .int (iI gz)), (0, .ref (ad 98)), (1, .int (iI kd)), (2, .int (iI zp)), (3, .int (iI (((chr ln p8 : Nat)) : Int))), (4, .int (iI bz))]) d_M_spec_500 (by decide) rfl ?_
                          refine J_iload 5 d_M_spec_502 rfl ?_
                          refine J_ifne (tgt := 516) d_M_spec_504 (by decide) ⟨by omega, by omega⟩ (fun c504 => ?_) (fun c504 => ?_)
                          · refine J_iload 0 d_M_spec_516 rfl ?_
                            refine J_ifeq (tgt := 551) d_M_spec_518 (by decide) ⟨by omega, by omega⟩ (fun c518 => ?_) (fun c518 => ?_)
                            · refine J_iconst d_M_spec_551 ?_
                              refine J_istore (lv' := [(5, .int (iI 0)), (0, .ref (ad 98)), (1, .int (iI kd)), (2, .int (iI zp)), (3, .int (iI (((chr ln p8 : Nat)) : Int))), (4, .int (iI bz))]) d_M_spec_552 (by decide) rfl ?_
                              refine J_iload 0 d_M_spec_554 rfl ?_
                              refine J_iret rfl (nb01 (by omega)).1 d_M_spec_556 ⟨by decide, by decide⟩ ?_
                              have hgz : (gz = 1 ∧ _) ∨ (gz = 0 ∧ _) := hgz
                              have hbz : (bz = 1 ∧ _) ∨ (bz = 0 ∧ _) := hbz
                              have hB : spB ty ∨ ty = 100 := by
                                rcases hbz with q | q
                                · exact Or.inl q.2
                                · exact Or.inr (by omega)
                              refine ⟨_, rfl, rfl, rfl, Or.inr ⟨rfl, ?_⟩, _, (fun j hj => (show (va_up (va_up (va_up (va_up (va_up (va_up (va_up (va_up (va_up (va_up f 19 (p9 : Int)) 21 (fi : Int)) 22 (al : Int)) 23 (pl : Int)) 24 zs) 25 zz) 26 wi) 27 (pa : Int)) 28 pr) 29 (ty : Int)) j = f j from by rw [va_up_ne _ _ (by omega), va_up_ne _ _ (by omega), va_up_ne _ _ (by omega), va_up_ne _ _ (by omega), va_up_ne _ _ (by omega), va_up_ne _ _ (by omega), va_up_ne _ _ (by omega), va_up_ne _ _ (by omega), va_up_ne _ _ (by omega), va_up_ne _ _ (by omega)])), ⟨(((va_up_ne _ _ (by decide)).trans ((va_up_ne _ _ (by decide)).trans ((va_up_ne _ _ (by decide)).trans ((va_up_ne _ _ (by decide)).trans ((va_up_ne _ _ (by decide)).trans ((va_up_ne _ _ (by decide)).trans ((va_up_ne _ _ (by decide)).trans ((va_up_ne _ _ (by decide)).trans (va_up_self ..)))))))))).trans (by rw [hfi]), (((va_up_ne _ _ (by decide)).trans ((va_up_ne _ _ (by decide)).trans ((va_up_ne _ _ (by decide)).trans ((va_up_ne _ _ (by decide)).trans ((va_up_ne _ _ (by decide)).trans ((va_up_ne _ _ (by decide)).trans ((va_up_ne _ _ (by decide)).trans (va_up_self ..))))))))).trans (by rw [hal]), (((va_up_ne _ _ (by decide)).trans ((va_up_ne _ _ (by decide)).trans ((va_up_ne _ _ (by decide)).trans ((va_up_ne _ _ (by decide)).trans ((va_up_ne _ _ (by decide)).trans ((va_up_ne _ _ (by decide)).trans (va_up_self ..)))))))).trans (by rw [hpl]), (((va_up_ne _ _ (by decide)).trans ((va_up_ne _ _ (by decide)).trans ((va_up_ne _ _ (by decide)).trans ((va_up_ne _ _ (by decide)).trans ((va_up_ne _ _ (by decide)).trans (va_up_self ..))))))).trans hfzs.symm, (((va_up_ne _ _ (by decide)).trans ((va_up_ne _ _ (by decide)).trans ((va_up_ne _ _ (by decide)).trans ((va_up_ne _ _ (by decide)).trans (va_up_self ..)))))).trans hfzz.symm, (((va_up_ne _ _ (by decide)).trans ((va_up_ne _ _ (by decide)).trans ((va_up_ne _ _ (by decide)).trans (va_up_self ..))))).trans hwi.symm, (((va_up_ne _ _ (by decide)).trans ((va_up_ne _ _ (by decide)).trans (va_up_self ..)))).trans (by rw [hpa]), (((va_up_ne _ _ (by decide)).trans (va_up_self ..))).trans hpr.symm, ((va_up_self ..)).trans (by rw [hty])⟩, rfl⟩
                              unfold spG; rw [hs9, hwi, hpr, hfzp, hty, hpa]
                              intro q
                              rcases hgz with w | w
                              · omega
                              · exact w.2 q.1
                            · refine J_iload_n 2 d_M_spec_521 rfl rfl ?_
                              refine J_ifne (tgt := 551) d_M_spec_522 (by decide) ⟨by omega, by omega⟩ (fun c522 => ?_) (fun c522 => ?_)
                              · refine J_iconst d_M_spec_551 ?_
                                refine J_istore (lv' := [(5, .int (iI 0)), (0, .ref (ad 98)), (1, .int (iI kd)), (2, .int (iI zp)), (3, .int (iI (((chr ln p8 : Nat)) : Int))), (4, .int (iI bz))]) d_M_spec_552 (by decide) rfl ?_
                                refine J_iload 0 d_M_spec_554 rfl ?_
                                refine J_iret rfl (nb01 (by omega)).1 d_M_spec_556 ⟨by decide, by decide⟩ ?_
                                have hgz : (gz = 1 ∧ _) ∨ (gz = 0 ∧ _) := hgz
                                have hbz : (bz = 1 ∧ _) ∨ (bz = 0 ∧ _) := hbz
                                have hB : spB ty ∨ ty = 100 := by
                                  rcases hbz with q | q
                                  · exact Or.inl q.2
                                  · exact Or.inr (by omega)
                                refine ⟨_, rfl, rfl, rfl, Or.inr ⟨rfl, ?_⟩, _, (fun j hj => (show (va_up (va_up (va_up (va_up (va_up (va_up (va_up (va_up (va_up (va_up f 19 (p9 : Int)) 21 (fi : Int)) 22 (al : Int)) 23 (pl : Int)) 24 zs) 25 zz) 26 wi) 27 (pa : Int)) 28 pr) 29 (ty : Int)) j = f j from by rw [va_up_ne _ _ (by omega), va_up_ne _ _ (by omega), va_up_ne _ _ (by omega), va_up_ne _ _ (by omega), va_up_ne _ _ (by omega), va_up_ne _ _ (by omega), va_up_ne _ _ (by omega), va_up_ne _ _ (by omega), va_up_ne _ _ (by omega), va_up_ne _ _ (by omega)])), ⟨(((va_up_ne _ _ (by decide)).trans ((va_up_ne _ _ (by decide)).trans ((va_up_ne _ _ (by decide)).trans ((va_up_ne _ _ (by decide)).trans ((va_up_ne _ _ (by decide)).trans ((va_up_ne _ _ (by decide)).trans ((va_up_ne _ _ (by decide)).trans ((va_up_ne _ _ (by decide)).trans (va_up_self ..)))))))))).trans (by rw [hfi]), (((va_up_ne _ _ (by decide)).trans ((va_up_ne _ _ (by decide)).trans ((va_up_ne _ _ (by decide)).trans ((va_up_ne _ _ (by decide)).trans ((va_up_ne _ _ (by decide)).trans ((va_up_ne _ _ (by decide)).trans ((va_up_ne _ _ (by decide)).trans (va_up_self ..))))))))).trans (by rw [hal]), (((va_up_ne _ _ (by decide)).trans ((va_up_ne _ _ (by decide)).trans ((va_up_ne _ _ (by decide)).trans ((va_up_ne _ _ (by decide)).trans ((va_up_ne _ _ (by decide)).trans ((va_up_ne _ _ (by decide)).trans (va_up_self ..)))))))).trans (by rw [hpl]), (((va_up_ne _ _ (by decide)).trans ((va_up_ne _ _ (by decide)).trans ((va_up_ne _ _ (by decide)).trans ((va_up_ne _ _ (by decide)).trans ((va_up_ne _ _ (by decide)).trans (va_up_self ..))))))).trans hfzs.symm, (((va_up_ne _ _ (by decide)).trans ((va_up_ne _ _ (by decide)).trans ((va_up_ne _ _ (by decide)).trans ((va_up_ne _ _ (by decide)).trans (va_up_self ..)))))).trans hfzz.symm, (((va_up_ne _ _ (by decide)).trans ((va_up_ne _ _ (by decide)).trans ((va_up_ne _ _ (by decide)).trans (va_up_self ..))))).trans hwi.symm, (((va_up_ne _ _ (by decide)).trans ((va_up_ne _ _ (by decide)).trans (va_up_self ..)))).trans (by rw [hpa]), (((va_up_ne _ _ (by decide)).trans (va_up_self ..))).trans hpr.symm, ((va_up_self ..)).trans (by rw [hty])⟩, rfl⟩
                                unfold spG; rw [hs9, hwi, hpr, hfzp, hty, hpa]
                                intro q
                                have q2 := q.2 hB
                                omega
                              · refine J_iload_n 3 d_M_spec_525 rfl rfl ?_
                                refine J_ifne (tgt := 551) d_M_spec_526 (by decide) ⟨by omega, by omega⟩ (fun c526 => ?_) (fun c526 => ?_)
                                · refine J_iconst d_M_spec_551 ?_
                                  refine J_istore (lv' := [(5, .int (iI 0)), (0, .ref (ad 98)), (1, .int (iI kd)), (2, .int (iI zp)), (3, .int (iI (((chr ln p8 : Nat)) : Int))), (4, .int (iI bz))]) d_M_spec_552 (by decide) rfl ?_
                                  refine J_iload 0 d_M_spec_554 rfl ?_
                                  refine J_iret rfl (nb01 (by omega)).1 d_M_spec_556 ⟨by decide, by decide⟩ ?_
                                  have hgz : (gz = 1 ∧ _) ∨ (gz = 0 ∧ _) := hgz
                                  have hbz : (bz = 1 ∧ _) ∨ (bz = 0 ∧ _) := hbz
                                  have hB : spB ty ∨ ty = 100 := by
                                    rcases hbz with q | q
                                    · exact Or.inl q.2
                                    · exact Or.inr (by omega)
                                  refine ⟨_, rfl, rfl, rfl, Or.inr ⟨rfl, ?_⟩, _, (fun j hj => (show (va_up (va_up (va_up (va_up (va_up (va_up (va_up (va_up (va_up (va_up f 19 (p9 : Int)) 21 (fi : Int)) 22 (al : Int)) 23 (pl : Int)) 24 zs) 25 zz) 26 wi) 27 (pa : Int)) 28 pr) 29 (ty : Int)) j = f j from by rw [va_up_ne _ _ (by omega), va_up_ne _ _ (by omega), va_up_ne _ _ (by omega), va_up_ne _ _ (by omega), va_up_ne _ _ (by omega), va_up_ne _ _ (by omega), va_up_ne _ _ (by omega), va_up_ne _ _ (by omega), va_up_ne _ _ (by omega), va_up_ne _ _ (by omega)])), ⟨(((va_up_ne _ _ (by decide)).trans ((va_up_ne _ _ (by decide)).trans ((va_up_ne _ _ (by decide)).trans ((va_up_ne _ _ (by decide)).trans ((va_up_ne _ _ (by decide)).trans ((va_up_ne _ _ (by decide)).trans ((va_up_ne _ _ (by decide)).trans ((va_up_ne _ _ (by decide)).trans (va_up_self ..)))))))))).trans (by rw [hfi]), (((va_up_ne _ _ (by decide)).trans ((va_up_ne _ _ (by decide)).trans ((va_up_ne _ _ (by decide)).trans ((va_up_ne _ _ (by decide)).trans ((va_up_ne _ _ (by decide)).trans ((va_up_ne _ _ (by decide)).trans ((va_up_ne _ _ (by decide)).trans (va_up_self ..))))))))).trans (by rw [hal]), (((va_up_ne _ _ (by decide)).trans ((va_up_ne _ _ (by decide)).trans ((va_up_ne _ _ (by decide)).trans ((va_up_ne _ _ (by decide)).trans ((va_up_ne _ _ (by decide)).trans ((va_up_ne _ _ (by decide)).trans (va_up_self ..)))))))).trans (by rw [hpl]), (((va_up_ne _ _ (by decide)).trans ((va_up_ne _ _ (by decide)).trans ((va_up_ne _ _ (by decide)).trans ((va_up_ne _ _ (by decide)).trans ((va_up_ne _ _ (by decide)).trans (va_up_self ..))))))).trans hfzs.symm, (((va_up_ne _ _ (by decide)).trans ((va_up_ne _ _ (by decide)).trans ((va_up_ne _ _ (by decide)).trans ((va_up_ne _ _ (by decide)).trans (va_up_self ..)))))).trans hfzz.symm, (((va_up_ne _ _ (by decide)).trans ((va_up_ne _ _ (by decide)).trans ((va_up_ne _ _ (by decide)).trans (va_up_self ..))))).trans hwi.symm, (((va_up_ne _ _ (by decide)).trans ((va_up_ne _ _ (by decide)).trans (va_up_self ..)))).trans (by rw [hpa]), (((va_up_ne _ _ (by decide)).trans (va_up_self ..))).trans hpr.symm, ((va_up_self ..)).trans (by rw [hty])⟩, rfl⟩
                                  unfold spG; rw [hs9, hwi, hpr, hfzp, hty, hpa]
                                  intro q
                                  have q2 := q.2 hB
                                  omega
                                · refine J_aload_n 1 d_M_spec_529 rfl rfl ?_
                                  refine gf_M_345 (by omega) (by rw [va_up_self]) rfl d_M_spec_530 ?_
                                  refine J_topi (r := (ty : Int)) (congrArg iI (va_up_self ..)) ?_
                                  refine J_bipush d_M_spec_533 (i8_ok (by decide)) ?_
                                  refine J_if_icmpeq (tgt := 547) d_M_spec_535 (by decide) ⟨by omega, by omega⟩ ⟨by omega, by omega⟩ (fun c535 => ?_) (fun c535 => ?_)
                                  · refine J_iconst d_M_spec_547 ?_
                                    refine J_goto (tgt := 552) d_M_spec_548 (by decide) ?_
                                    refine J_istore (lv' := [(5, .int (iI 1)), (0, .ref (ad 98)), (1, .int (iI kd)), (2, .int (iI zp)), (3, .int (iI (((chr ln p8 : Nat)) : Int))), (4, .int (iI bz))]) d_M_spec_552 (by decide) rfl ?_
                                    refine J_iload 0 d_M_spec_554 rfl ?_
                                    refine J_iret rfl (nb01 (by omega)).1 d_M_spec_556 ⟨by decide, by decide⟩ ?_
                                    have hgz : (gz = 1 ∧ _) ∨ (gz = 0 ∧ _) := hgz
                                    refine ⟨_, rfl, rfl, rfl, Or.inl ⟨rfl, ?_⟩, _, (fun j hj => (show (va_up (va_up (va_up (va_up (va_up (va_up (va_up (va_up (va_up (va_up f 19 (p9 : Int)) 21 (fi : Int)) 22 (al : Int)) 23 (pl : Int)) 24 zs) 25 zz) 26 wi) 27 (pa : Int)) 28 pr) 29 (ty : Int)) j = f j from by rw [va_up_ne _ _ (by omega), va_up_ne _ _ (by omega), va_up_ne _ _ (by omega), va_up_ne _ _ (by omega), va_up_ne _ _ (by omega), va_up_ne _ _ (by omega), va_up_ne _ _ (by omega), va_up_ne _ _ (by omega), va_up_ne _ _ (by omega), va_up_ne _ _ (by omega)])), ⟨(((va_up_ne _ _ (by decide)).trans ((va_up_ne _ _ (by decide)).trans ((va_up_ne _ _ (by decide)).trans ((va_up_ne _ _ (by decide)).trans ((va_up_ne _ _ (by decide)).trans ((va_up_ne _ _ (by decide)).trans ((va_up_ne _ _ (by decide)).trans ((va_up_ne _ _ (by decide)).trans (va_up_self ..)))))))))).trans (by rw [hfi]), (((va_up_ne _ _ (by decide)).trans ((va_up_ne _ _ (by decide)).trans ((va_up_ne _ _ (by decide)).trans ((va_up_ne _ _ (by decide)).trans ((va_up_ne _ _ (by decide)).trans ((va_up_ne _ _ (by decide)).trans ((va_up_ne _ _ (by decide)).trans (va_up_self ..))))))))).trans (by rw [hal]), (((va_up_ne _ _ (by decide)).trans ((va_up_ne _ _ (by decide)).trans ((va_up_ne _ _ (by decide)).trans ((va_up_ne _ _ (by decide)).trans ((va_up_ne _ _ (by decide)).trans ((va_up_ne _ _ (by decide)).trans (va_up_self ..)))))))).trans (by rw [hpl]), (((va_up_ne _ _ (by decide)).trans ((va_up_ne _ _ (by decide)).trans ((va_up_ne _ _ (by decide)).trans ((va_up_ne _ _ (by decide)).trans ((va_up_ne _ _ (by decide)).trans (va_up_self ..))))))).trans hfzs.symm, (((va_up_ne _ _ (by decide)).trans ((va_up_ne _ _ (by decide)).trans ((va_up_ne _ _ (by decide)).trans ((va_up_ne _ _ (by decide)).trans (va_up_self ..)))))).trans hfzz.symm, (((va_up_ne _ _ (by decide)).trans ((va_up_ne _ _ (by decide)).trans ((va_up_ne _ _ (by decide)).trans (va_up_self ..))))).trans hwi.symm, (((va_up_ne _ _ (by decide)).trans ((va_up_ne _ _ (by decide)).trans (va_up_self ..)))).trans (by rw [hpa]), (((va_up_ne _ _ (by decide)).trans (va_up_self ..))).trans hpr.symm, ((va_up_self ..)).trans (by rw [hty])⟩, rfl⟩
                                    unfold spG; rw [hs9, hwi, hpr, hfzp, hty, hpa]
                                    rcases hgz with w | w
                                    · exact ⟨w.2, fun _ => ⟨by omega, by omega, by omega⟩⟩
                                    · omega
                                  · refine J_aload_n 1 d_M_spec_538 rfl rfl ?_
                                    refine gf_M_339 (by omega) (by rw [va_up_self]) rfl d_M_spec_539 ?_
                                    refine J_topi (r := (pa : Int)) (congrArg iI ((va_up_ne _ _ (by decide)).trans ((va_up_ne _ _ (by decide)).trans (va_up_self ..)))) ?_
                                    refine J_bipush d_M_spec_542 (i8_ok (by decide)) ?_
                                    refine J_if_icmpeq (tgt := 551) d_M_spec_544 (by decide) ⟨by omega, by omega⟩ ⟨by omega, by omega⟩ (fun c544 => ?_) (fun c544 => ?_)
                                    · refine J_iconst d_M_spec_551 ?_
                                      refine J_istore (lv' := [(5, .int (iI 0)), (0, .ref (ad 98)), (1, .int (iI kd)), (2, .int (iI zp)), (3, .int (iI (((chr ln p8 : Nat)) : Int))), (4, .int (iI bz))]) d_M_spec_552 (by decide) rfl ?_
                                      refine J_iload 0 d_M_spec_554 rfl ?_
                                      refine J_iret rfl (nb01 (by omega)).1 d_M_spec_556 ⟨by decide, by decide⟩ ?_
                                      have hgz : (gz = 1 ∧ _) ∨ (gz = 0 ∧ _) := hgz
                                      have hbz : (bz = 1 ∧ _) ∨ (bz = 0 ∧ _) := hbz
                                      have hB : spB ty ∨ ty = 100 := by
                                        rcases hbz with q | q
                                        · exact Or.inl q.2
                                        · exact Or.inr (by omega)
                                      refine ⟨_, rfl, rfl, rfl, Or.inr ⟨rfl, ?_⟩, _, (fun j hj => (show (va_up (va_up (va_up (va_up (va_up (va_up (va_up (va_up (va_up (va_up f 19 (p9 : Int)) 21 (fi : Int)) 22 (al : Int)) 23 (pl : Int)) 24 zs) 25 zz) 26 wi) 27 (pa : Int)) 28 pr) 29 (ty : Int)) j = f j from by rw [va_up_ne _ _ (by omega), va_up_ne _ _ (by omega), va_up_ne _ _ (by omega), va_up_ne _ _ (by omega), va_up_ne _ _ (by omega), va_up_ne _ _ (by omega), va_up_ne _ _ (by omega), va_up_ne _ _ (by omega), va_up_ne _ _ (by omega), va_up_ne _ _ (by omega)])), ⟨(((va_up_ne _ _ (by decide)).trans ((va_up_ne _ _ (by decide)).trans ((va_up_ne _ _ (by decide)).trans ((va_up_ne _ _ (by decide)).trans ((va_up_ne _ _ (by decide)).trans ((va_up_ne _ _ (by decide)).trans ((va_up_ne _ _ (by decide)).trans ((va_up_ne _ _ (by decide)).trans (va_up_self ..)))))))))).trans (by rw [hfi]), (((va_up_ne _ _ (by decide)).trans ((va_up_ne _ _ (by decide)).trans ((va_up_ne _ _ (by decide)).trans ((va_up_ne _ _ (by decide)).trans ((va_up_ne _ _ (by decide)).trans ((va_up_ne _ _ (by decide)).trans ((va_up_ne _ _ (by decide)).trans (va_up_self ..))))))))).trans (by rw [hal]), (((va_up_ne _ _ (by decide)).trans ((va_up_ne _ _ (by decide)).trans ((va_up_ne _ _ (by decide)).trans ((va_up_ne _ _ (by decide)).trans ((va_up_ne _ _ (by decide)).trans ((va_up_ne _ _ (by decide)).trans (va_up_self ..)))))))).trans (by rw [hpl]), (((va_up_ne _ _ (by decide)).trans ((va_up_ne _ _ (by decide)).trans ((va_up_ne _ _ (by decide)).trans ((va_up_ne _ _ (by decide)).trans ((va_up_ne _ _ (by decide)).trans (va_up_self ..))))))).trans hfzs.symm, (((va_up_ne _ _ (by decide)).trans ((va_up_ne _ _ (by decide)).trans ((va_up_ne _ _ (by decide)).trans ((va_up_ne _ _ (by decide)).trans (va_up_self ..)))))).trans hfzz.symm, (((va_up_ne _ _ (by decide)).trans ((va_up_ne _ _ (by decide)).trans ((va_up_ne _ _ (by decide)).trans (va_up_self ..))))).trans hwi.symm, (((va_up_ne _ _ (by decide)).trans ((va_up_ne _ _ (by decide)).trans (va_up_self ..)))).trans (by rw [hpa]), (((va_up_ne _ _ (by decide)).trans (va_up_self ..))).trans hpr.symm, ((va_up_self ..)).trans (by rw [hty])⟩, rfl⟩
                                      unfold spG; rw [hs9, hwi, hpr, hfzp, hty, hpa]
                                      intro q
                                      have q2 := q.2 hB
                                      omega
                                    · refine J_iconst d_M_spec_547 ?_
                                      refine J_goto (tgt := 552) d_M_spec_548 (by decide) ?_
                                      refine J_istore (lv' := [(5, .int (iI 1)), (0, .ref (ad 98)), (1, .int (iI kd)), (2, .int (iI zp)), (3, .int (iI (((chr ln p8 : Nat)) : Int))), (4, .int (iI bz))]) d_M_spec_552 (by decide) rfl ?_
                                      refine J_iload 0 d_M_spec_554 rfl ?_
                                      refine J_iret rfl (nb01 (by omega)).1 d_M_spec_556 ⟨by decide, by decide⟩ ?_
                                      have hgz : (gz = 1 ∧ _) ∨ (gz = 0 ∧ _) := hgz
                                      refine ⟨_, rfl, rfl, rfl, Or.inl ⟨rfl, ?_⟩, _, (fun j hj => (show (va_up (va_up (va_up (va_up (va_up (va_up (va_up (va_up (va_up (va_up f 19 (p9 : Int)) 21 (fi : Int)) 22 (al : Int)) 23 (pl : Int)) 24 zs) 25 zz) 26 wi) 27 (pa : Int)) 28 pr) 29 (ty : Int)) j = f j from by rw [va_up_ne _ _ (by omega), va_up_ne _ _ (by omega), va_up_ne _ _ (by omega), va_up_ne _ _ (by omega), va_up_ne _ _ (by omega), va_up_ne _ _ (by omega), va_up_ne _ _ (by omega), va_up_ne _ _ (by omega), va_up_ne _ _ (by omega), va_up_ne _ _ (by omega)])), ⟨(((va_up_ne _ _ (by decide)).trans ((va_up_ne _ _ (by decide)).trans ((va_up_ne _ _ (by decide)).trans ((va_up_ne _ _ (by decide)).trans ((va_up_ne _ _ (by decide)).trans ((va_up_ne _ _ (by decide)).trans ((va_up_ne _ _ (by decide)).trans ((va_up_ne _ _ (by decide)).trans (va_up_self ..)))))))))).trans (by rw [hfi]), (((va_up_ne _ _ (by decide)).trans ((va_up_ne _ _ (by decide)).trans ((va_up_ne _ _ (by decide)).trans ((va_up_ne _ _ (by decide)).trans ((va_up_ne _ _ (by decide)).trans ((va_up_ne _ _ (by decide)).trans ((va_up_ne _ _ (by decide)).trans (va_up_self ..))))))))).trans (by rw [hal]), (((va_up_ne _ _ (by decide)).trans ((va_up_ne _ _ (by decide)).trans ((va_up_ne _ _ (by decide)).trans ((va_up_ne _ _ (by decide)).trans ((va_up_ne _ _ (by decide)).trans ((va_up_ne _ _ (by decide)).trans (va_up_self ..)))))))).trans (by rw [hpl]), (((va_up_ne _ _ (by decide)).trans ((va_up_ne _ _ (by decide)).trans ((va_up_ne _ _ (by decide)).trans ((va_up_ne _ _ (by decide)).trans ((va_up_ne _ _ (by decide)).trans (va_up_self ..))))))).trans hfzs.symm, (((va_up_ne _ _ (by decide)).trans ((va_up_ne _ _ (by decide)).trans ((va_up_ne _ _ (by decide)).trans ((va_up_ne _ _ (by decide)).trans (va_up_self ..)))))).trans hfzz.symm, (((va_up_ne _ _ (by decide)).trans ((va_up_ne _ _ (by decide)).trans ((va_up_ne _ _ (by decide)).trans (va_up_self ..))))).trans hwi.symm, (((va_up_ne _ _ (by decide)).trans ((va_up_ne _ _ (by decide)).trans (va_up_self ..)))).trans (by rw [hpa]), (((va_up_ne _ _ (by decide)).trans (va_up_self ..))).trans hpr.symm, ((va_up_self ..)).trans (by rw [hty])⟩, rfl⟩
                                      unfold spG; rw [hs9, hwi, hpr, hfzp, hty, hpa]
                                      rcases hgz with w | w
                                      · exact ⟨w.2, fun _ => ⟨by omega, by omega, by omega⟩⟩
                                      · omega
                          · refine J_aload_n 1 d_M_spec_507 rfl rfl ?_
                            refine gf_M_345 (by omega) (by rw [va_up_self]) rfl d_M_spec_508 ?_
                            refine J_topi (r := (ty : Int)) (congrArg iI (va_up_self ..)) ?_
                            refine J_bipush d_M_spec_511 (i8_ok (by decide)) ?_
                            refine J_if_icmpne (tgt := 554) d_M_spec_513 (by decide) ⟨by omega, by omega⟩ ⟨by omega, by omega⟩ (fun c513 => ?_) (fun c513 => ?_)
                            · refine J_iload 0 d_M_spec_554 rfl ?_
                              refine J_iret rfl (nb01 (by omega)).1 d_M_spec_556 ⟨by decide, by decide⟩ ?_
                              have hgz : (gz = 1 ∧ _) ∨ (gz = 0 ∧ _) := hgz
                              have hbz : (bz = 1 ∧ _) ∨ (bz = 0 ∧ _) := hbz
                              have hnB : ¬(spB ty ∨ ty = 100) := fun w => by
                                rcases w with w | w
                                · rcases hbz with q | q
                                  · omega
                                  · exact q.2 w
                                · omega
                              refine ⟨_, rfl, rfl, rfl, ?_, _, (fun j hj => (show (va_up (va_up (va_up (va_up (va_up (va_up (va_up (va_up (va_up (va_up f 19 (p9 : Int)) 21 (fi : Int)) 22 (al : Int)) 23 (pl : Int)) 24 zs) 25 zz) 26 wi) 27 (pa : Int)) 28 pr) 29 (ty : Int)) j = f j from by rw [va_up_ne _ _ (by omega), va_up_ne _ _ (by omega), va_up_ne _ _ (by omega), va_up_ne _ _ (by omega), va_up_ne _ _ (by omega), va_up_ne _ _ (by omega), va_up_ne _ _ (by omega), va_up_ne _ _ (by omega), va_up_ne _ _ (by omega), va_up_ne _ _ (by omega)])), ⟨(((va_up_ne _ _ (by decide)).trans ((va_up_ne _ _ (by decide)).trans ((va_up_ne _ _ (by decide)).trans ((va_up_ne _ _ (by decide)).trans ((va_up_ne _ _ (by decide)).trans ((va_up_ne _ _ (by decide)).trans ((va_up_ne _ _ (by decide)).trans ((va_up_ne _ _ (by decide)).trans (va_up_self ..)))))))))).trans (by rw [hfi]), (((va_up_ne _ _ (by decide)).trans ((va_up_ne _ _ (by decide)).trans ((va_up_ne _ _ (by decide)).trans ((va_up_ne _ _ (by decide)).trans ((va_up_ne _ _ (by decide)).trans ((va_up_ne _ _ (by decide)).trans ((va_up_ne _ _ (by decide)).trans (va_up_self ..))))))))).trans (by rw [hal]), (((va_up_ne _ _ (by decide)).trans ((va_up_ne _ _ (by decide)).trans ((va_up_ne _ _ (by decide)).trans ((va_up_ne _ _ (by decide)).trans ((va_up_ne _ _ (by decide)).trans ((va_up_ne _ _ (by decide)).trans (va_up_self ..)))))))).trans (by rw [hpl]), (((va_up_ne _ _ (by decide)).trans ((va_up_ne _ _ (by decide)).trans ((va_up_ne _ _ (by decide)).trans ((va_up_ne _ _ (by decide)).trans ((va_up_ne _ _ (by decide)).trans (va_up_self ..))))))).trans hfzs.symm, (((va_up_ne _ _ (by decide)).trans ((va_up_ne _ _ (by decide)).trans ((va_up_ne _ _ (by decide)).trans ((va_up_ne _ _ (by decide)).trans (va_up_self ..)))))).trans hfzz.symm, (((va_up_ne _ _ (by decide)).trans ((va_up_ne _ _ (by decide)).trans ((va_up_ne _ _ (by decide)).trans (va_up_self ..))))).trans hwi.symm, (((va_up_ne _ _ (by decide)).trans ((va_up_ne _ _ (by decide)).trans (va_up_self ..)))).trans (by rw [hpa]), (((va_up_ne _ _ (by decide)).trans (va_up_self ..))).trans hpr.symm, ((va_up_self ..)).trans (by rw [hty])⟩, rfl⟩
                              rcases hgz with w | w
                              · exact Or.inl ⟨w.1, by unfold spG; rw [hs9, hwi, hpr, hfzp, hty, hpa]; exact ⟨w.2, fun q => absurd q hnB⟩⟩
                              · exact Or.inr ⟨w.1, by unfold spG; rw [hs9, hwi, hpr, hfzp, hty, hpa]; exact fun q => w.2 q.1⟩
                            · refine J_iload 0 d_M_spec_516 rfl ?_
                              refine J_ifeq (tgt := 551) d_M_spec_518 (by decide) ⟨by omega, by omega⟩ (fun c518 => ?_) (fun c518 => ?_)
                              · refine J_iconst d_M_spec_551 ?_
                                refine J_istore (lv' := [(5, .int (iI 0)), (0, .ref (ad 98)), (1, .int (iI kd)), (2, .int (iI zp)), (3, .int (iI (((chr ln p8 : Nat)) : Int))), (4, .int (iI bz))]) d_M_spec_552 (by decide) rfl ?_
                                refine J_iload 0 d_M_spec_554 rfl ?_
                                refine J_iret rfl (nb01 (by omega)).1 d_M_spec_556 ⟨by decide, by decide⟩ ?_
                                have hgz : (gz = 1 ∧ _) ∨ (gz = 0 ∧ _) := hgz
                                have hbz : (bz = 1 ∧ _) ∨ (bz = 0 ∧ _) := hbz
                                have hB : spB ty ∨ ty = 100 := by
                                  rcases hbz with q | q
                                  · exact Or.inl q.2
                                  · exact Or.inr (by omega)
                                refine ⟨_, rfl, rfl, rfl, Or.inr ⟨rfl, ?_⟩, _, (fun j hj => (show (va_up (va_up (va_up (va_up (va_up (va_up (va_up (va_up (va_up (va_up f 19 (p9 : Int)) 21 (fi : Int)) 22 (al : Int)) 23 (pl : Int)) 24 zs) 25 zz) 26 wi) 27 (pa : Int)) 28 pr) 29 (ty : Int)) j = f j from by rw [va_up_ne _ _ (by omega), va_up_ne _ _ (by omega), va_up_ne _ _ (by omega), va_up_ne _ _ (by omega), va_up_ne _ _ (by omega), va_up_ne _ _ (by omega), va_up_ne _ _ (by omega), va_up_ne _ _ (by omega), va_up_ne _ _ (by omega), va_up_ne _ _ (by omega)])), ⟨(((va_up_ne _ _ (by decide)).trans ((va_up_ne _ _ (by decide)).trans ((va_up_ne _ _ (by decide)).trans ((va_up_ne _ _ (by decide)).trans ((va_up_ne _ _ (by decide)).trans ((va_up_ne _ _ (by decide)).trans ((va_up_ne _ _ (by decide)).trans ((va_up_ne _ _ (by decide)).trans (va_up_self ..)))))))))).trans (by rw [hfi]), (((va_up_ne _ _ (by decide)).trans ((va_up_ne _ _ (by decide)).trans ((va_up_ne _ _ (by decide)).trans ((va_up_ne _ _ (by decide)).trans ((va_up_ne _ _ (by decide)).trans ((va_up_ne _ _ (by decide)).trans ((va_up_ne _ _ (by decide)).trans (va_up_self ..))))))))).trans (by rw [hal]), (((va_up_ne _ _ (by decide)).trans ((va_up_ne _ _ (by decide)).trans ((va_up_ne _ _ (by decide)).trans ((va_up_ne _ _ (by decide)).trans ((va_up_ne _ _ (by decide)).trans ((va_up_ne _ _ (by decide)).trans (va_up_self ..)))))))).trans (by rw [hpl]), (((va_up_ne _ _ (by decide)).trans ((va_up_ne _ _ (by decide)).trans ((va_up_ne _ _ (by decide)).trans ((va_up_ne _ _ (by decide)).trans ((va_up_ne _ _ (by decide)).trans (va_up_self ..))))))).trans hfzs.symm, (((va_up_ne _ _ (by decide)).trans ((va_up_ne _ _ (by decide)).trans ((va_up_ne _ _ (by decide)).trans ((va_up_ne _ _ (by decide)).trans (va_up_self ..)))))).trans hfzz.symm, (((va_up_ne _ _ (by decide)).trans ((va_up_ne _ _ (by decide)).trans ((va_up_ne _ _ (by decide)).trans (va_up_self ..))))).trans hwi.symm, (((va_up_ne _ _ (by decide)).trans ((va_up_ne _ _ (by decide)).trans (va_up_self ..)))).trans (by rw [hpa]), (((va_up_ne _ _ (by decide)).trans (va_up_self ..))).trans hpr.symm, ((va_up_self ..)).trans (by rw [hty])⟩, rfl⟩
                                unfold spG; rw [hs9, hwi, hpr, hfzp, hty, hpa]
                                intro q
                                rcases hgz with w | w
                                · omega
                                · exact w.2 q.1
                              · refine J_iload_n 2 d_M_spec_521 rfl rfl ?_
                                refine J_ifne (tgt := 551) d_M_spec_522 (by decide) ⟨by omega, by omega⟩ (fun c522 => ?_) (fun c522 => ?_)
                                · refine J_iconst d_M_spec_551 ?_
                                  refine J_istore (lv' := [(5, .int (iI 0)), (0, .ref (ad 98)), (1, .int (iI kd)), (2, .int (iI zp)), (3, .int (iI (((chr ln p8 : Nat)) : Int))), (4, .int (iI bz))]) d_M_spec_552 (by decide) rfl ?_
                                  refine J_iload 0 d_M_spec_554 rfl ?_
                                  refine J_iret rfl (nb01 (by omega)).1 d_M_spec_556 ⟨by decide, by decide⟩ ?_
                                  have hgz : (gz = 1 ∧ _) ∨ (gz = 0 ∧ _) := hgz
                                  have hbz : (bz = 1 ∧ _) ∨ (bz = 0 ∧ _) := hbz
                                  have hB : spB ty ∨ ty = 100 := by
                                    rcases hbz with q | q
                                    · exact Or.inl q.2
                                    · exact Or.inr (by omega)
                                  refine ⟨_, rfl, rfl, rfl, Or.inr ⟨rfl, ?_⟩, _, (fun j hj => (show (va_up (va_up (va_up (va_up (va_up (va_up (va_up (va_up (va_up (va_up f 19 (p9 : Int)) 21 (fi : Int)) 22 (al : Int)) 23 (pl : Int)) 24 zs) 25 zz) 26 wi) 27 (pa : Int)) 28 pr) 29 (ty : Int)) j = f j from by rw [va_up_ne _ _ (by omega), va_up_ne _ _ (by omega), va_up_ne _ _ (by omega), va_up_ne _ _ (by omega), va_up_ne _ _ (by omega), va_up_ne _ _ (by omega), va_up_ne _ _ (by omega), va_up_ne _ _ (by omega), va_up_ne _ _ (by omega), va_up_ne _ _ (by omega)])), ⟨(((va_up_ne _ _ (by decide)).trans ((va_up_ne _ _ (by decide)).trans ((va_up_ne _ _ (by decide)).trans ((va_up_ne _ _ (by decide)).trans ((va_up_ne _ _ (by decide)).trans ((va_up_ne _ _ (by decide)).trans ((va_up_ne _ _ (by decide)).trans ((va_up_ne _ _ (by decide)).trans (va_up_self ..)))))))))).trans (by rw [hfi]), (((va_up_ne _ _ (by decide)).trans ((va_up_ne _ _ (by decide)).trans ((va_up_ne _ _ (by decide)).trans ((va_up_ne _ _ (by decide)).trans ((va_up_ne _ _ (by decide)).trans ((va_up_ne _ _ (by decide)).trans ((va_up_ne _ _ (by decide)).trans (va_up_self ..))))))))).trans (by rw [hal]), (((va_up_ne _ _ (by decide)).trans ((va_up_ne _ _ (by decide)).trans ((va_up_ne _ _ (by decide)).trans ((va_up_ne _ _ (by decide)).trans ((va_up_ne _ _ (by decide)).trans ((va_up_ne _ _ (by decide)).trans (va_up_self ..)))))))).trans (by rw [hpl]), (((va_up_ne _ _ (by decide)).trans ((va_up_ne _ _ (by decide)).trans ((va_up_ne _ _ (by decide)).trans ((va_up_ne _ _ (by decide)).trans ((va_up_ne _ _ (by decide)).trans (va_up_self ..))))))).trans hfzs.symm, (((va_up_ne _ _ (by decide)).trans ((va_up_ne _ _ (by decide)).trans ((va_up_ne _ _ (by decide)).trans ((va_up_ne _ _ (by decide)).trans (va_up_self ..)))))).trans hfzz.symm, (((va_up_ne _ _ (by decide)).trans ((va_up_ne _ _ (by decide)).trans ((va_up_ne _ _ (by decide)).trans (va_up_self ..))))).trans hwi.symm, (((va_up_ne _ _ (by decide)).trans ((va_up_ne _ _ (by decide)).trans (va_up_self ..)))).trans (by rw [hpa]), (((va_up_ne _ _ (by decide)).trans (va_up_self ..))).trans hpr.symm, ((va_up_self ..)).trans (by rw [hty])⟩, rfl⟩
                                  unfold spG; rw [hs9, hwi, hpr, hfzp, hty, hpa]
                                  intro q
                                  have q2 := q.2 hB
                                  omega
                                · refine J_iload_n 3 d_M_spec_525 rfl rfl ?_
                                  refine J_ifne (tgt := 551) d_M_spec_526 (by decide) ⟨by omega, by omega⟩ (fun c526 => ?_) (fun c526 => ?_)
                                  · refine J_iconst d_M_spec_551 ?_
                                    refine J_istore (lv' := [(5, .int (iI 0)), (0, .ref (ad 98)), (1, .int (iI kd)), (2, .int (iI zp)), (3, .int (iI (((chr ln p8 : Nat)) : Int))), (4, .int (iI bz))]) d_M_spec_552 (by decide) rfl ?_
                                    refine J_iload 0 d_M_spec_554 rfl ?_
                                    refine J_iret rfl (nb01 (by omega)).1 d_M_spec_556 ⟨by decide, by decide⟩ ?_
                                    have hgz : (gz = 1 ∧ _) ∨ (gz = 0 ∧ _) := hgz
                                    have hbz : (bz = 1 ∧ _) ∨ (bz = 0 ∧ _) := hbz
                                    have hB : spB ty ∨ ty = 100 := by
                                      rcases hbz with q | q
                                      · exact Or.inl q.2
                                      · exact Or.inr (by omega)
                                    refine ⟨_, rfl, rfl, rfl, Or.inr ⟨rfl, ?_⟩, _, (fun j hj => (show (va_up (va_up (va_up (va_up (va_up (va_up (va_up (va_up (va_up (va_up f 19 (p9 : Int)) 21 (fi : Int)) 22 (al : Int)) 23 (pl : Int)) 24 zs) 25 zz) 26 wi) 27 (pa : Int)) 28 pr) 29 (ty : Int)) j = f j from by rw [va_up_ne _ _ (by omega), va_up_ne _ _ (by omega), va_up_ne _ _ (by omega), va_up_ne _ _ (by omega), va_up_ne _ _ (by omega), va_up_ne _ _ (by omega), va_up_ne _ _ (by omega), va_up_ne _ _ (by omega), va_up_ne _ _ (by omega), va_up_ne _ _ (by omega)])), ⟨(((va_up_ne _ _ (by decide)).trans ((va_up_ne _ _ (by decide)).trans ((va_up_ne _ _ (by decide)).trans ((va_up_ne _ _ (by decide)).trans ((va_up_ne _ _ (by decide)).trans ((va_up_ne _ _ (by decide)).trans ((va_up_ne _ _ (by decide)).trans ((va_up_ne _ _ (by decide)).trans (va_up_self ..)))))))))).trans (by rw [hfi]), (((va_up_ne _ _ (by decide)).trans ((va_up_ne _ _ (by decide)).trans ((va_up_ne _ _ (by decide)).trans ((va_up_ne _ _ (by decide)).trans ((va_up_ne _ _ (by decide)).trans ((va_up_ne _ _ (by decide)).trans ((va_up_ne _ _ (by decide)).trans (va_up_self ..))))))))).trans (by rw [hal]), (((va_up_ne _ _ (by decide)).trans ((va_up_ne _ _ (by decide)).trans ((va_up_ne _ _ (by decide)).trans ((va_up_ne _ _ (by decide)).trans ((va_up_ne _ _ (by decide)).trans ((va_up_ne _ _ (by decide)).trans (va_up_self ..)))))))).trans (by rw [hpl]), (((va_up_ne _ _ (by decide)).trans ((va_up_ne _ _ (by decide)).trans ((va_up_ne _ _ (by decide)).trans ((va_up_ne _ _ (by decide)).trans ((va_up_ne _ _ (by decide)).trans (va_up_self ..))))))).trans hfzs.symm, (((va_up_ne _ _ (by decide)).trans ((va_up_ne _ _ (by decide)).trans ((va_up_ne _ _ (by decide)).trans ((va_up_ne _ _ (by decide)).trans (va_up_self ..)))))).trans hfzz.symm, (((va_up_ne _ _ (by decide)).trans ((va_up_ne _ _ (by decide)).trans ((va_up_ne _ _ (by decide)).trans (va_up_self ..))))).trans hwi.symm, (((va_up_ne _ _ (by decide)).trans ((va_up_ne _ _ (by decide)).trans (va_up_self ..)))).trans (by rw [hpa]), (((va_up_ne _ _ (by decide)).trans (va_up_self ..))).trans hpr.symm, ((va_up_self ..)).trans (by rw [hty])⟩, rfl⟩
                                    unfold spG; rw [hs9, hwi, hpr, hfzp, hty, hpa]
                                    intro q
                                    have q2 := q.2 hB
                                    omega
                                  · refine J_aload_n 1 d_M_spec_529 rfl rfl ?_
                                    refine gf_M_345 (by omega) (by rw [va_up_self]) rfl d_M_spec_530 ?_
                                    refine J_topi (r := (ty : Int)) (congrArg iI (va_up_self ..)) ?_
                                    refine J_bipush d_M_spec_533 (i8_ok (by decide)) ?_
                                    refine J_if_icmpeq (tgt := 547) d_M_spec_535 (by decide) ⟨by omega, by omega⟩ ⟨by omega, by omega⟩ (fun c535 => ?_) (fun c535 => ?_)
                                    · refine J_iconst d_M_spec_547 ?_
                                      refine J_goto (tgt := 552) d_M_spec_548 (by decide) ?_
                                      refine J_istore (lv' := [(5, .int (iI 1)), (0, .ref (ad 98)), (1, .int (iI kd)), (2, .int (iI zp)), (3, .int (iI (((chr ln p8 : Nat)) : Int))), (4, .int (iI bz))]) d_M_spec_552 (by decide) rfl ?_
                                      refine J_iload 0 d_M_spec_554 rfl ?_
                                      refine J_iret rfl (nb01 (by omega)).1 d_M_spec_556 ⟨by decide, by decide⟩ ?_
                                      have hgz : (gz = 1 ∧ _) ∨ (gz = 0 ∧ _) := hgz
                                      refine ⟨_, rfl, rfl, rfl, Or.inl ⟨rfl, ?_⟩, _, (fun j hj => (show (va_up (va_up (va_up (va_up (va_up (va_up (va_up (va_up (va_up (va_up f 19 (p9 : Int)) 21 (fi : Int)) 22 (al : Int)) 23 (pl : Int)) 24 zs) 25 zz) 26 wi) 27 (pa : Int)) 28 pr) 29 (ty : Int)) j = f j from by rw [va_up_ne _ _ (by omega), va_up_ne _ _ (by omega), va_up_ne _ _ (by omega), va_up_ne _ _ (by omega), va_up_ne _ _ (by omega), va_up_ne _ _ (by omega), va_up_ne _ _ (by omega), va_up_ne _ _ (by omega), va_up_ne _ _ (by omega), va_up_ne _ _ (by omega)])), ⟨(((va_up_ne _ _ (by decide)).trans ((va_up_ne _ _ (by decide)).trans ((va_up_ne _ _ (by decide)).trans ((va_up_ne _ _ (by decide)).trans ((va_up_ne _ _ (by decide)).trans ((va_up_ne _ _ (by decide)).trans ((va_up_ne _ _ (by decide)).trans ((va_up_ne _ _ (by decide)).trans (va_up_self ..)))))))))).trans (by rw [hfi]), (((va_up_ne _ _ (by decide)).trans ((va_up_ne _ _ (by decide)).trans ((va_up_ne _ _ (by decide)).trans ((va_up_ne _ _ (by decide)).trans ((va_up_ne _ _ (by decide)).trans ((va_up_ne _ _ (by decide)).trans ((va_up_ne _ _ (by decide)).trans (va_up_self ..))))))))).trans (by rw [hal]), (((va_up_ne _ _ (by decide)).trans ((va_up_ne _ _ (by decide)).trans ((va_up_ne _ _ (by decide)).trans ((va_up_ne _ _ (by decide)).trans ((va_up_ne _ _ (by decide)).trans ((va_up_ne _ _ (by decide)).trans (va_up_self ..)))))))).trans (by rw [hpl]), (((va_up_ne _ _ (by decide)).trans ((va_up_ne _ _ (by decide)).trans ((va_up_ne _ _ (by decide)).trans ((va_up_ne _ _ (by decide)).trans ((va_up_ne _ _ (by decide)).trans (va_up_self ..))))))).trans hfzs.symm, (((va_up_ne _ _ (by decide)).trans ((va_up_ne _ _ (by decide)).trans ((va_up_ne _ _ (by decide)).trans ((va_up_ne _ _ (by decide)).trans (va_up_self ..)))))).trans hfzz.symm, (((va_up_ne _ _ (by decide)).trans ((va_up_ne _ _ (by decide)).trans ((va_up_ne _ _ (by decide)).trans (va_up_self ..))))).trans hwi.symm, (((va_up_ne _ _ (by decide)).trans ((va_up_ne _ _ (by decide)).trans (va_up_self ..)))).trans (by rw [hpa]), (((va_up_ne _ _ (by decide)).trans (va_up_self ..))).trans hpr.symm, ((va_up_self ..)).trans (by rw [hty])⟩, rfl⟩
                                      unfold spG; rw [hs9, hwi, hpr, hfzp, hty, hpa]
                                      rcases hgz with w | w
                                      · exact ⟨w.2, fun _ => ⟨by omega, by omega, by omega⟩⟩
                                      · omega
                                    · refine J_aload_n 1 d_M_spec_538 rfl rfl ?_
                                      refine gf_M_339 (by omega) (by rw [va_up_self]) rfl d_M_spec_539 ?_
                                      refine J_topi (r := (pa : Int)) (congrArg iI ((va_up_ne _ _ (by decide)).trans ((va_up_ne _ _ (by decide)).trans (va_up_self ..)))) ?_
                                      refine J_bipush d_M_spec_542 (i8_ok (by decide)) ?_
                                      refine J_if_icmpeq (tgt := 551) d_M_spec_544 (by decide) ⟨by omega, by omega⟩ ⟨by omega, by omega⟩ (fun c544 => ?_) (fun c544 => ?_)
                                      · refine J_iconst d_M_spec_551 ?_
                                        refine J_istore (lv' := [(5, .int (iI 0)), (0, .ref (ad 98)), (1, .int (iI kd)), (2, .int (iI zp)), (3, .int (iI (((chr ln p8 : Nat)) : Int))), (4, .int (iI bz))]) d_M_spec_552 (by decide) rfl ?_
                                        refine J_iload 0 d_M_spec_554 rfl ?_
                                        refine J_iret rfl (nb01 (by omega)).1 d_M_spec_556 ⟨by decide, by decide⟩ ?_
                                        have hgz : (gz = 1 ∧ _) ∨ (gz = 0 ∧ _) := hgz
                                        have hbz : (bz = 1 ∧ _) ∨ (bz = 0 ∧ _) := hbz
                                        have hB : spB ty ∨ ty = 100 := by
                                          rcases hbz with q | q
                                          · exact Or.inl q.2
                                          · exact Or.inr (by omega)
                                        refine ⟨_, rfl, rfl, rfl, Or.inr ⟨rfl, ?_⟩, _, (fun j hj => (show (va_up (va_up (va_up (va_up (va_up (va_up (va_up (va_up (va_up (va_up f 19 (p9 : Int)) 21 (fi : Int)) 22 (al : Int)) 23 (pl : Int)) 24 zs) 25 zz) 26 wi) 27 (pa : Int)) 28 pr) 29 (ty : Int)) j = f j from by rw [va_up_ne _ _ (by omega), va_up_ne _ _ (by omega), va_up_ne _ _ (by omega), va_up_ne _ _ (by omega), va_up_ne _ _ (by omega), va_up_ne _ _ (by omega), va_up_ne _ _ (by omega), va_up_ne _ _ (by omega), va_up_ne _ _ (by omega), va_up_ne _ _ (by omega)])), ⟨(((va_up_ne _ _ (by decide)).trans ((va_up_ne _ _ (by decide)).trans ((va_up_ne _ _ (by decide)).trans ((va_up_ne _ _ (by decide)).trans ((va_up_ne _ _ (by decide)).trans ((va_up_ne _ _ (by decide)).trans ((va_up_ne _ _ (by decide)).trans ((va_up_ne _ _ (by decide)).trans (va_up_self ..)))))))))).trans (by rw [hfi]), (((va_up_ne _ _ (by decide)).trans ((va_up_ne _ _ (by decide)).trans ((va_up_ne _ _ (by decide)).trans ((va_up_ne _ _ (by decide)).trans ((va_up_ne _ _ (by decide)).trans ((va_up_ne _ _ (by decide)).trans ((va_up_ne _ _ (by decide)).trans (va_up_self ..))))))))).trans (by rw [hal]), (((va_up_ne _ _ (by decide)).trans ((va_up_ne _ _ (by decide)).trans ((va_up_ne _ _ (by decide)).trans ((va_up_ne _ _ (by decide)).trans ((va_up_ne _ _ (by decide)).trans ((va_up_ne _ _ (by decide)).trans (va_up_self ..)))))))).trans (by rw [hpl]), (((va_up_ne _ _ (by decide)).trans ((va_up_ne _ _ (by decide)).trans ((va_up_ne _ _ (by decide)).trans ((va_up_ne _ _ (by decide)).trans ((va_up_ne _ _ (by decide)).trans (va_up_self ..))))))).trans hfzs.symm, (((va_up_ne _ _ (by decide)).trans ((va_up_ne _ _ (by decide)).trans ((va_up_ne _ _ (by decide)).trans ((va_up_ne _ _ (by decide)).trans (va_up_self ..)))))).trans hfzz.symm, (((va_up_ne _ _ (by decide)).trans ((va_up_ne _ _ (by decide)).trans ((va_up_ne _ _ (by decide)).trans (va_up_self ..))))).trans hwi.symm, (((va_up_ne _ _ (by decide)).trans ((va_up_ne _ _ (by decide)).trans (va_up_self ..)))).trans (by rw [hpa]), (((va_up_ne _ _ (by decide)).trans (va_up_self ..))).trans hpr.symm, ((va_up_self ..)).trans (by rw [hty])⟩, rfl⟩
                                        unfold spG; rw [hs9, hwi, hpr, hfzp, hty, hpa]
                                        intro q
                                        have q2 := q.2 hB
                                        omega
                                      · refine J_iconst d_M_spec_547 ?_
                                        refine J_goto (tgt := 552) d_M_spec_548 (by decide) ?_
                                        refine J_istore (lv' := [(5, .int (iI 1)), (0, .ref (ad 98)), (1, .int (iI kd)), (2, .int (iI zp)), (3, .int (iI (((chr ln p8 : Nat)) : Int))), (4, .int (iI bz))]) d_M_spec_552 (by decide) rfl ?_
                                        refine J_iload 0 d_M_spec_554 rfl ?_
                                        refine J_iret rfl (nb01 (by omega)).1 d_M_spec_556 ⟨by decide, by decide⟩ ?_
                                        have hgz : (gz = 1 ∧ _) ∨ (gz = 0 ∧ _) := hgz
                                        refine ⟨_, rfl, rfl, rfl, Or.inl ⟨rfl, ?_⟩, _, (fun j hj => (show (va_up (va_up (va_up (va_up (va_up (va_up (va_up (va_up (va_up (va_up f 19 (p9 : Int)) 21 (fi : Int)) 22 (al : Int)) 23 (pl : Int)) 24 zs) 25 zz) 26 wi) 27 (pa : Int)) 28 pr) 29 (ty : Int)) j = f j from by rw [va_up_ne _ _ (by omega), va_up_ne _ _ (by omega), va_up_ne _ _ (by omega), va_up_ne _ _ (by omega), va_up_ne _ _ (by omega), va_up_ne _ _ (by omega), va_up_ne _ _ (by omega), va_up_ne _ _ (by omega), va_up_ne _ _ (by omega), va_up_ne _ _ (by omega)])), ⟨(((va_up_ne _ _ (by decide)).trans ((va_up_ne _ _ (by decide)).trans ((va_up_ne _ _ (by decide)).trans ((va_up_ne _ _ (by decide)).trans ((va_up_ne _ _ (by decide)).trans ((va_up_ne _ _ (by decide)).trans ((va_up_ne _ _ (by decide)).trans ((va_up_ne _ _ (by decide)).trans (va_up_self ..)))))))))).trans (by rw [hfi]), (((va_up_ne _ _ (by decide)).trans ((va_up_ne _ _ (by decide)).trans ((va_up_ne _ _ (by decide)).trans ((va_up_ne _ _ (by decide)).trans ((va_up_ne _ _ (by decide)).trans ((va_up_ne _ _ (by decide)).trans ((va_up_ne _ _ (by decide)).trans (va_up_self ..))))))))).trans (by rw [hal]), (((va_up_ne _ _ (by decide)).trans ((va_up_ne _ _ (by decide)).trans ((va_up_ne _ _ (by decide)).trans ((va_up_ne _ _ (by decide)).trans ((va_up_ne _ _ (by decide)).trans ((va_up_ne _ _ (by decide)).trans (va_up_self ..)))))))).trans (by rw [hpl]), (((va_up_ne _ _ (by decide)).trans ((va_up_ne _ _ (by decide)).trans ((va_up_ne _ _ (by decide)).trans ((va_up_ne _ _ (by decide)).trans ((va_up_ne _ _ (by decide)).trans (va_up_self ..))))))).trans hfzs.symm, (((va_up_ne _ _ (by decide)).trans ((va_up_ne _ _ (by decide)).trans ((va_up_ne _ _ (by decide)).trans ((va_up_ne _ _ (by decide)).trans (va_up_self ..)))))).trans hfzz.symm, (((va_up_ne _ _ (by decide)).trans ((va_up_ne _ _ (by decide)).trans ((va_up_ne _ _ (by decide)).trans (va_up_self ..))))).trans hwi.symm, (((va_up_ne _ _ (by decide)).trans ((va_up_ne _ _ (by decide)).trans (va_up_self ..)))).trans (by rw [hpa]), (((va_up_ne _ _ (by decide)).trans (va_up_self ..))).trans hpr.symm, ((va_up_self ..)).trans (by rw [hty])⟩, rfl⟩
                                        unfold spG; rw [hs9, hwi, hpr, hfzp, hty, hpa]
                                        rcases hgz with w | w
                                        · exact ⟨w.2, fun _ => ⟨by omega, by omega, by omega⟩⟩
                                        · omega
                        refine J_aload_n 1 d_M_spec_455 rfl rfl ?_
                        refine gf_M_244 (by omega) (by rw [va_up_self]) rfl d_M_spec_456 ?_
                        refine J_topi (r := (p9 : Int)) (congrArg iI ((va_up_ne _ _ (by decide)).trans ((va_up_ne _ _ (by decide)).trans ((va_up_ne _ _ (by decide)).trans ((va_up_ne _ _ (by decide)).trans ((va_up_ne _ _ (by decide)).trans ((va_up_ne _ _ (by decide)).trans ((va_up_ne _ _ (by decide)).trans ((va_up_ne _ _ (by decide)).trans ((va_up_ne _ _ (by decide)).trans (va_up_self ..))))))))))) ?_
                        refine J_aload_n 1 d_M_spec_459 rfl rfl ?_
                        refine gf_M_241 (by omega) (by rw [va_up_self]) rfl d_M_spec_460 ?_
                        refine J_topi (r := (ln.length : Int)) (congrArg iI ((va_up_ne _ _ (by decide)).trans ((va_up_ne _ _ (by decide)).trans ((va_up_ne _ _ (by decide)).trans ((va_up_ne _ _ (by decide)).trans ((va_up_ne _ _ (by decide)).trans ((va_up_ne _ _ (by decide)).trans ((va_up_ne _ _ (by decide)).trans ((va_up_ne _ _ (by decide)).trans ((va_up_ne _ _ (by decide)).trans ((va_up_ne _ _ (by decide)).trans hf12))))))))))) ?_
                        refine J_if_icmpne (tgt := 499) d_M_spec_463 (by decide) ⟨by omega, by omega⟩ ⟨by omega, by omega⟩ (fun c463 => ?_) (fun c463 => ?_)
                        · refine J_iconst d_M_spec_499 ?_
                          refine J_pick (lv' := [(0, .ref (ad 98)), (1, .int (iI kd)), (2, .int (iI zp)), (3, .int (iI (((chr ln p8 : Nat)) : Int))), (4, .int (iI bz))]) [1, 2, 3, 4, 0] rfl ?_
                          exact lab500 (0) (Or.inr ⟨rfl, by omega⟩)
                        · refine J_aload_n 1 d_M_spec_466 rfl rfl ?_
                          refine gf_M_336 (by omega) (by rw [va_up_self]) rfl d_M_spec_467 ?_
                          refine J_topi (r := wi) (congrArg iI ((va_up_ne _ _ (by decide)).trans ((va_up_ne _ _ (by decide)).trans ((va_up_ne _ _ (by decide)).trans (va_up_self ..))))) ?_
                          refine J_bipush d_M_spec_470 (i8_ok (by decide)) ?_
                          refine J_if_icmpgt (tgt := 499) d_M_spec_472 (by decide) ⟨by omega, by omega⟩ ⟨by omega, by omega⟩ (fun c472 => ?_) (fun c472 => ?_)
                          · refine J_iconst d_M_spec_499 ?_
                            refine J_pick (lv' := [(0, .ref (ad 98)), (1, .int (iI kd)), (2, .int (iI zp)), (3, .int (iI (((chr ln p8 : Nat)) : Int))), (4, .int (iI bz))]) [1, 2, 3, 4, 0] rfl ?_
                            exact lab500 (0) (Or.inr ⟨rfl, by omega⟩)
                          · refine J_aload_n 1 d_M_spec_475 rfl rfl ?_
                            refine gf_M_342 (by omega) (by rw [va_up_self]) rfl d_M_spec_476 ?_
                            refine J_topi (r := pr) (congrArg iI ((va_up_ne _ _ (by decide)).trans (va_up_self ..))) ?_
                            refine J_bipush d_M_spec_479 (i8_ok (by decide)) ?_
                            refine J_if_icmpgt (tgt := 499) d_M_spec_481 (by decide) ⟨by omega, by omega⟩ ⟨by omega, by omega⟩ (fun c481 => ?_) (fun c481 => ?_)
                            · refine J_iconst d_M_spec_499 ?_
                              refine J_pick (lv' := [(0, .ref (ad 98)), (1, .int (iI kd)), (2, .int (iI zp)), (3, .int (iI (((chr ln p8 : Nat)) : Int))), (4, .int (iI bz))]) [1, 2, 3, 4, 0] rfl ?_
                              exact lab500 (0) (Or.inr ⟨rfl, by omega⟩)
                            · refine J_iload_n 3 d_M_spec_484 rfl rfl ?_
                              refine J_ifeq (tgt := 495) d_M_spec_485 (by decide) ⟨by omega, by omega⟩ (fun c485 => ?_) (fun c485 => ?_)
                              · refine J_iconst d_M_spec_495 ?_
                                refine J_goto (tgt := 500) d_M_spec_496 (by decide) ?_
                                refine J_pick (lv' := [(0, .ref (ad 98)), (1, .int (iI kd)), (2, .int (iI zp)), (3, .int (iI (((chr ln p8 : Nat)) : Int))), (4, .int (iI bz))]) [1, 2, 3, 4, 0] rfl ?_
                                exact lab500 (1) (Or.inl ⟨rfl, by omega, by omega, by omega, by omega⟩)
                              · refine J_aload_n 1 d_M_spec_488 rfl rfl ?_
                                refine gf_M_342 (by omega) (by rw [va_up_self]) rfl d_M_spec_489 ?_
                                refine J_topi (r := pr) (congrArg iI ((va_up_ne _ _ (by decide)).trans (va_up_self ..))) ?_
                                refine J_iflt (tgt := 499) d_M_spec_492 (by decide) ⟨by omega, by omega⟩ (fun c492 => ?_) (fun c492 => ?_)
                                · refine J_iconst d_M_spec_499 ?_
                                  refine J_pick (lv' := [(0, .ref (ad 98)), (1, .int (iI kd)), (2, .int (iI zp)), (3, .int (iI (((chr ln p8 : Nat)) : Int))), (4, .int (iI bz))]) [1, 2, 3, 4, 0] rfl ?_
                                  exact lab500 (0) (Or.inr ⟨rfl, by omega⟩)
                                · refine J_iconst d_M_spec_495 ?_
                                  refine J_goto (tgt := 500) d_M_spec_496 (by decide) ?_
                                  refine J_pick (lv' := [(0, .ref (ad 98)), (1, .int (iI kd)), (2, .int (iI zp)), (3, .int (iI (((chr ln p8 : Nat)) : Int))), (4, .int (iI bz))]) [1, 2, 3, 4, 0] rfl ?_
                                  exact lab500 (1) (Or.inl ⟨rfl, by omega, by omega, by omega, by omega⟩)
                      refine J_aload_n 0 d_M_spec_421 rfl rfl ?_
                      refine gf_M_345 (by omega) (by rw [va_up_self]) rfl d_M_spec_422 ?_
                      refine J_topi (r := (ty : Int)) (congrArg iI (va_up_self ..)) ?_
                      refine J_bipush d_M_spec_425 (i8_ok (by decide)) ?_
                      refine J_if_icmpeq (tgt := 448) d_M_spec_427 (by decide) ⟨by omega, by omega⟩ ⟨by omega, by omega⟩ (fun c427 => ?_) (fun c427 => ?_)
                      · refine J_iconst d_M_spec_448 ?_
                        refine J_goto (tgt := 453) d_M_spec_449 (by decide) ?_
                        exact lab453 (1) (Or.inl ⟨rfl, by unfold spB; omega⟩)
                      · refine J_aload_n 0 d_M_spec_430 rfl rfl ?_
                        refine gf_M_345 (by omega) (by rw [va_up_self]) rfl d_M_spec_431 ?_
                        refine J_topi (r := (ty : Int)) (congrArg iI (va_up_self ..)) ?_
                        refine J_bipush d_M_spec_434 (i8_ok (by decide)) ?_
                        refine J_if_icmpeq (tgt := 448) d_M_spec_436 (by decide) ⟨by omega, by omega⟩ ⟨by omega, by omega⟩ (fun c436 => ?_) (fun c436 => ?_)
                        · refine J_iconst d_M_spec_448 ?_
                          refine J_goto (tgt := 453) d_M_spec_449 (by decide) ?_
                          exact lab453 (1) (Or.inl ⟨rfl, by unfold spB; omega⟩)
                        · refine J_aload_n 0 d_M_spec_439 rfl rfl ?_
                          refine gf_M_345 (by omega) (by rw [va_up_self]) rfl d_M_spec_440 ?_
                          refine J_topi (r := (ty : Int)) (congrArg iI (va_up_self ..)) ?_
                          refine J_bipush d_M_spec_443 (i8_ok (by decide)) ?_
                          refine J_if_icmpne (tgt := 452) d_M_spec_445 (by decide) ⟨by omega, by omega⟩ ⟨by omega, by omega⟩ (fun c445 => ?_) (fun c445 => ?_)
                          · refine J_iconst d_M_spec_452 ?_
                            exact lab453 (0) (Or.inr ⟨rfl, by unfold spB; omega⟩)
                          · refine J_iconst d_M_spec_448 ?_
                            refine J_goto (tgt := 453) d_M_spec_449 (by decide) ?_
                            exact lab453 (1) (Or.inl ⟨rfl, by unfold spB; omega⟩)
                    refine J_aload_n 0 d_M_spec_392 rfl rfl ?_
                    refine J_aload_n 0 d_M_spec_393 rfl rfl ?_
                    refine gf_M_345 (by omega) (by rw [va_up_self]) rfl d_M_spec_394 ?_
                    refine J_topi (r := (tc : Int)) (congrArg iI (va_up_self ..)) ?_
                    refine J_ifle (tgt := 407) d_M_spec_397 (by decide) ⟨by omega, by omega⟩ (fun c397 => ?_) (fun c397 => ?_)
                    · refine J_iload_n 1 d_M_spec_407 rfl rfl ?_
                      refine J_ifne (tgt := 416) d_M_spec_408 (by decide) ⟨by omega, by omega⟩ (fun c408 => ?_) (fun c408 => ?_)
                      · refine J_bipush d_M_spec_416 (i8_ok (by decide)) ?_
                        exact lab418 103 (by unfold sTy; rw [htc, if_neg (by omega), if_neg (by omega)]) (by omega)
                      · refine J_bipush d_M_spec_411 (i8_ok (by decide)) ?_
                        refine J_goto (tgt := 418) d_M_spec_413 (by decide) ?_
                        exact lab418 100 (by unfold sTy; rw [htc, if_neg (by omega), if_pos (by omega)]) (by omega)
                    · refine J_aload_n 0 d_M_spec_400 rfl rfl ?_
                      refine gf_M_345 (by omega) (by rw [va_up_self]) rfl d_M_spec_401 ?_
                      refine J_topi (r := (tc : Int)) (congrArg iI (va_up_self ..)) ?_
                      refine J_goto (tgt := 418) d_M_spec_404 (by decide) ?_
                      exact lab418 tc (by unfold sTy; rw [htc, if_pos (by omega)]) (by omega)
                  refine J_aload_n 0 d_M_spec_368 rfl rfl ?_
                  refine J_aload_n 0 d_M_spec_369 rfl rfl ?_
                  refine gf_M_345 (by omega) (by rw [va_up_self]) rfl d_M_spec_370 ?_
                  refine J_topi (r := (tc : Int)) (congrArg iI (va_up_self ..)) ?_
                  refine J_ifle (tgt := 385) d_M_spec_373 (by decide) ⟨by omega, by omega⟩ (fun c373 => ?_) (fun c373 => ?_)
                  · refine J_aload_n 0 d_M_spec_385 rfl rfl ?_
                    refine gf_M_244 (by omega) (by rw [va_up_self]) rfl d_M_spec_386 ?_
                    refine J_topi (r := (p8 : Int)) (congrArg iI ((va_up_ne _ _ (by decide)).trans ((va_up_ne _ _ (by decide)).trans ((va_up_ne _ _ (by decide)).trans ((va_up_ne _ _ (by decide)).trans ((va_up_ne _ _ (by decide)).trans ((va_up_ne _ _ (by decide)).trans ((va_up_ne _ _ (by decide)).trans ((va_up_ne _ _ (by decide)).trans ((va_up_ne _ _ (by decide)).trans (va_up_self ..))))))))))) ?_
                    exact lab389 p8 (by unfold s9; rw [htc, hs8, if_neg (by omega)]) (by omega)
                  · refine J_aload_n 0 d_M_spec_376 rfl rfl ?_
                    refine gf_M_244 (by omega) (by rw [va_up_self]) rfl d_M_spec_377 ?_
                    refine J_topi (r := (p8 : Int)) (congrArg iI ((va_up_ne _ _ (by decide)).trans ((va_up_ne _ _ (by decide)).trans ((va_up_ne _ _ (by decide)).trans ((va_up_ne _ _ (by decide)).trans ((va_up_ne _ _ (by decide)).trans ((va_up_ne _ _ (by decide)).trans ((va_up_ne _ _ (by decide)).trans ((va_up_ne _ _ (by decide)).trans ((va_up_ne _ _ (by decide)).trans (va_up_self ..))))))))))) ?_
                    refine J_iconst d_M_spec_380 ?_
                    refine J_iadd d_M_spec_381 ?_
                    refine J_goto (tgt := 389) d_M_spec_382 (by decide) ?_
                    exact lab389 (p8 + 1) (by unfold s9; rw [htc, hs8, if_pos (by omega)]) (by omega)
                refine J_aload_n 1 d_M_spec_299 rfl rfl ?_
                refine J_iload_n 0 d_M_spec_300 rfl rfl ?_
                refine J_bipush d_M_spec_301 (i8_ok (by decide)) ?_
                refine J_if_icmpeq (tgt := 360) d_M_spec_303 (by decide) ⟨by omega, by omega⟩ ⟨by omega, by omega⟩ (fun c303 => ?_) (fun c303 => ?_)
                · refine J_iload_n 0 d_M_spec_360 rfl rfl ?_
                  refine J_goto (tgt := 365) d_M_spec_361 (by decide) ?_
                  refine J_pick (lv' := [(0, .ref (ad 98)), (1, .int (iI kd)), (2, .int (iI zp)), (3, .int (iI (((chr ln p8 : Nat)) : Int)))]) [1, 2, 3, 0] rfl ?_
                  exact lab365 (chr ln p8) (by unfold sTc; rw [hs8]; exact if_pos (by unfold tyB; omega)) (by omega)
                · refine J_iload_n 0 d_M_spec_306 rfl rfl ?_
                  refine J_bipush d_M_spec_307 (i8_ok (by decide)) ?_
                  refine J_if_icmpeq (tgt := 360) d_M_spec_309 (by decide) ⟨by omega, by omega⟩ ⟨by omega, by omega⟩ (fun c309 => ?_) (fun c309 => ?_)
                  · refine J_iload_n 0 d_M_spec_360 rfl rfl ?_
                    refine J_goto (tgt := 365) d_M_spec_361 (by decide) ?_
                    refine J_pick (lv' := [(0, .ref (ad 98)), (1, .int (iI kd)), (2, .int (iI zp)), (3, .int (iI (((chr ln p8 : Nat)) : Int)))]) [1, 2, 3, 0] rfl ?_
                    exact lab365 (chr ln p8) (by unfold sTc; rw [hs8]; exact if_pos (by unfold tyB; omega)) (by omega)
                  · refine J_iload_n 0 d_M_spec_312 rfl rfl ?_
                    refine J_bipush d_M_spec_313 (i8_ok (by decide)) ?_
                    refine J_if_icmpeq (tgt := 360) d_M_spec_315 (by decide) ⟨by omega, by omega⟩ ⟨by omega, by omega⟩ (fun c315 => ?_) (fun c315 => ?_)
                    · refine J_iload_n 0 d_M_spec_360 rfl rfl ?_
                      refine J_goto (tgt := 365) d_M_spec_361 (by decide) ?_
                      refine J_pick (lv' := [(0, .ref (ad 98)), (1, .int (iI kd)), (2, .int (iI zp)), (3, .int (iI (((chr ln p8 : Nat)) : Int)))]) [1, 2, 3, 0] rfl ?_
                      exact lab365 (chr ln p8) (by unfold sTc; rw [hs8]; exact if_pos (by unfold tyB; omega)) (by omega)
                    · refine J_iload_n 0 d_M_spec_318 rfl rfl ?_
                      refine J_bipush d_M_spec_319 (i8_ok (by decide)) ?_
                      refine J_if_icmpeq (tgt := 360) d_M_spec_321 (by decide) ⟨by omega, by omega⟩ ⟨by omega, by omega⟩ (fun c321 => ?_) (fun c321 => ?_)
                      · refine J_iload_n 0 d_M_spec_360 rfl rfl ?_
                        refine J_goto (tgt := 365) d_M_spec_361 (by decide) ?_
                        refine J_pick (lv' := [(0, .ref (ad 98)), (1, .int (iI kd)), (2, .int (iI zp)), (3, .int (iI (((chr ln p8 : Nat)) : Int)))]) [1, 2, 3, 0] rfl ?_
                        exact lab365 (chr ln p8) (by unfold sTc; rw [hs8]; exact if_pos (by unfold tyB; omega)) (by omega)
                      · refine J_iload_n 0 d_M_spec_324 rfl rfl ?_
                        refine J_bipush d_M_spec_325 (i8_ok (by decide)) ?_
                        refine J_if_icmpeq (tgt := 360) d_M_spec_327 (by decide) ⟨by omega, by omega⟩ ⟨by omega, by omega⟩ (fun c327 => ?_) (fun c327 => ?_)
                        · refine J_iload_n 0 d_M_spec_360 rfl rfl ?_
                          refine J_goto (tgt := 365) d_M_spec_361 (by decide) ?_
                          refine J_pick (lv' := [(0, .ref (ad 98)), (1, .int (iI kd)), (2, .int (iI zp)), (3, .int (iI (((chr ln p8 : Nat)) : Int)))]) [1, 2, 3, 0] rfl ?_
                          exact lab365 (chr ln p8) (by unfold sTc; rw [hs8]; exact if_pos (by unfold tyB; omega)) (by omega)
                        · refine J_iload_n 0 d_M_spec_330 rfl rfl ?_
                          refine J_bipush d_M_spec_331 (i8_ok (by decide)) ?_
                          refine J_if_icmpeq (tgt := 360) d_M_spec_333 (by decide) ⟨by omega, by omega⟩ ⟨by omega, by omega⟩ (fun c333 => ?_) (fun c333 => ?_)
                          · refine J_iload_n 0 d_M_spec_360 rfl rfl ?_
                            refine J_goto (tgt := 365) d_M_spec_361 (by decide) ?_
                            refine J_pick (lv' := [(0, .ref (ad 98)), (1, .int (iI kd)), (2, .int (iI zp)), (3, .int (iI (((chr ln p8 : Nat)) : Int)))]) [1, 2, 3, 0] rfl ?_
                            exact lab365 (chr ln p8) (by unfold sTc; rw [hs8]; exact if_pos (by unfold tyB; omega)) (by omega)
                          · refine J_iload_n 0 d_M_spec_336 rfl rfl ?_
                            refine J_bipush d_M_spec_337 (i8_ok (by decide)) ?_
                            refine J_if_icmpeq (tgt := 360) d_M_spec_339 (by decide) ⟨by omega, by omega⟩ ⟨by omega, by omega⟩ (fun c339 => ?_) (fun c339 => ?_)
                            · refine J_iload_n 0 d_M_spec_360 rfl rfl ?_
                              refine J_goto (tgt := 365) d_M_spec_361 (by decide) ?_
                              refine J_pick (lv' := [(0, .ref (ad 98)), (1, .int (iI kd)), (2, .int (iI zp)), (3, .int (iI (((chr ln p8 : Nat)) : Int)))]) [1, 2, 3, 0] rfl ?_
                              exact lab365 (chr ln p8) (by unfold sTc; rw [hs8]; exact if_pos (by unfold tyB; omega)) (by omega)
                            · refine J_iload_n 0 d_M_spec_342 rfl rfl ?_
                              refine J_bipush d_M_spec_343 (i8_ok (by decide)) ?_
                              refine J_if_icmpeq (tgt := 360) d_M_spec_345 (by decide) ⟨by omega, by omega⟩ ⟨by omega, by omega⟩ (fun c345 => ?_) (fun c345 => ?_)
                              · refine J_iload_n 0 d_M_spec_360 rfl rfl ?_
                                refine J_goto (tgt := 365) d_M_spec_361 (by decide) ?_
                                refine J_pick (lv' := [(0, .ref (ad 98)), (1, .int (iI kd)), (2, .int (iI zp)), (3, .int (iI (((chr ln p8 : Nat)) : Int)))]) [1, 2, 3, 0] rfl ?_
                                exact lab365 (chr ln p8) (by unfold sTc; rw [hs8]; exact if_pos (by unfold tyB; omega)) (by omega)
                              · refine J_iload_n 0 d_M_spec_348 rfl rfl ?_
                                refine J_bipush d_M_spec_349 (i8_ok (by decide)) ?_
                                refine J_if_icmpeq (tgt := 360) d_M_spec_351 (by decide) ⟨by omega, by omega⟩ ⟨by omega, by omega⟩ (fun c351 => ?_) (fun c351 => ?_)
                                · refine J_iload_n 0 d_M_spec_360 rfl rfl ?_
                                  refine J_goto (tgt := 365) d_M_spec_361 (by decide) ?_
                                  refine J_pick (lv' := [(0, .ref (ad 98)), (1, .int (iI kd)), (2, .int (iI zp)), (3, .int (iI (((chr ln p8 : Nat)) : Int)))]) [1, 2, 3, 0] rfl ?_
                                  exact lab365 (chr ln p8) (by unfold sTc; rw [hs8]; exact if_pos (by unfold tyB; omega)) (by omega)
                                · refine J_iload_n 0 d_M_spec_354 rfl rfl ?_
                                  refine J_bipush d_M_spec_355 (i8_ok (by decide)) ?_
                                  refine J_if_icmpne (tgt := 364) d_M_spec_357 (by decide) ⟨by omega, by omega⟩ ⟨by omega, by omega⟩ (fun c357 => ?_) (fun c357 => ?_)
                                  · refine J_iconst d_M_spec_364 ?_
                                    refine J_pick (lv' := [(0, .ref (ad 98)), (1, .int (iI kd)), (2, .int (iI zp)), (3, .int (iI (((chr ln p8 : Nat)) : Int)))]) [1, 2, 3, 0] rfl ?_
                                    exact lab365 0 (by unfold sTc; rw [hs8]; exact if_neg (fun q => by unfold tyB at q; omega)) (by omega)
                                  · refine J_iload_n 0 d_M_spec_360 rfl rfl ?_
                                    refine J_goto (tgt := 365) d_M_spec_361 (by decide) ?_
                                    refine J_pick (lv' := [(0, .ref (ad 98)), (1, .int (iI kd)), (2, .int (iI zp)), (3, .int (iI (((chr ln p8 : Nat)) : Int)))]) [1, 2, 3, 0] rfl ?_
                                    exact lab365 (chr ln p8) (by unfold sTc; rw [hs8]; exact if_pos (by unfold tyB; omega)) (by omega)
              refine J_aload_n 1 d_M_spec_274 rfl rfl ?_
              refine J_iload_n 0 d_M_spec_275 rfl rfl ?_
              refine J_ifeq (tgt := 286) d_M_spec_276 (by decide) ⟨by omega, by omega⟩ (fun c276 => ?_) (fun c276 => ?_)
              · refine J_iconst d_M_spec_286 ?_
                refine J_pick (lv' := [(0, .ref (ad 98)), (1, .int (iI kd)), (2, .int (iI zp))]) [1, 2, 0] rfl ?_
                exact lab287 (-1) p7 (by unfold sPr; rw [hs6, hsp7, if_neg (fun q => by rcases (show _ ∨ _ from hzzp) with w | w <;> omega)]) (by unfold s8; rw [hs6, hsp7, if_neg (fun q => by rcases (show _ ∨ _ from hzzp) with w | w <;> omega)]) (by omega) (by omega)
              · refine J_aload_n 1 d_M_spec_279 rfl rfl ?_
                obtain ⟨⟨vP, qP⟩, htP⟩ : ∃ x, two2 ln 2 p7 (-1) = x := ⟨_, rfl⟩
                refine J_callVi cw_M_333 nh_M_two pn_M_two rfl rfl (by omega) (by rw [va_up_self]) (As := []) (rest := [.ref (ad 98)]) rfl (Nat.le_of_ble_eq_true rfl) ⟨by decide, by decide⟩ rfl ⟨by decide, by decide⟩ d_M_spec_280 (c_M_two hfl (f := va_up (va_up (va_up (va_up (va_up (va_up (va_up (va_up f 19 (p7 : Int)) 21 (fi : Int)) 22 (al : Int)) 23 (pl : Int)) 24 zs) 25 zz) 26 wi) 27 (pa : Int)) (v := v) (lh := lh) (ln := ln) (p0 := p7) (pe := qP) (ve := vP) hN (by rw [va_up_self]) (by rw [va_up_ne _ _ (by decide)]; exact h104) hml ((va_up_ne _ _ (by decide)).trans ((va_up_ne _ _ (by decide)).trans ((va_up_ne _ _ (by decide)).trans ((va_up_ne _ _ (by decide)).trans ((va_up_ne _ _ (by decide)).trans ((va_up_ne _ _ (by decide)).trans ((va_up_ne _ _ (by decide)).trans ((va_up_ne _ _ (by decide)).trans hf12)))))))) hl40 hch ((va_up_ne _ _ (by decide)).trans ((va_up_ne _ _ (by decide)).trans ((va_up_ne _ _ (by decide)).trans ((va_up_ne _ _ (by decide)).trans ((va_up_ne _ _ (by decide)).trans ((va_up_ne _ _ (by decide)).trans ((va_up_ne _ _ (by decide)).trans (va_up_self ..)))))))) (by omega) htP) (fun ztP F5 hq => ?_)
                obtain ⟨hzP, hvbP, hqbP, eF5⟩ := hq
                refine J_eqF (F2 := va_up F 98 (oM ad (va_up (va_up (va_up (va_up (va_up (va_up (va_up (va_up f 19 (qP : Int)) 21 (fi : Int)) 22 (al : Int)) 23 (pl : Int)) 24 zs) 25 zz) 26 wi) 27 (pa : Int)) v)) ((eF5.trans (congrArg (fun qq : Nat → Int => va_up (va_up F 98 (oM ad (va_up (va_up (va_up (va_up (va_up (va_up (va_up (va_up f 19 (p7 : Int)) 21 (fi : Int)) 22 (al : Int)) 23 (pl : Int)) 24 zs) 25 zz) 26 wi) 27 (pa : Int)) v)) 98 (oM ad qq v)) (up_in7 (by decide) (by decide) (by decide) (by decide) (by decide) (by decide) (by decide)))).trans (up_in0)) ?_
                refine J_topi (r := vP) (congrArg iI hzP) ?_
                refine J_goto (tgt := 287) d_M_spec_283 (by decide) ?_
                refine J_pick (lv' := [(0, .ref (ad 98)), (1, .int (iI kd)), (2, .int (iI zp))]) [1, 2, 0] rfl ?_
                exact lab287 vP qP (by unfold sPr; rw [hs6, hsp7, if_pos (by rcases (show _ ∨ _ from hzzp) with w | w <;> omega), htP]) (by unfold s8; rw [hs6, hsp7, if_pos (by rcases (show _ ∨ _ from hzzp) with w | w <;> omega), htP]) (by omega) (by omega)
            refine J_aload_n 0 d_M_spec_243 rfl rfl ?_
            refine J_aload_n 0 d_M_spec_244 rfl rfl ?_
            refine gf_M_339 (by omega) (by rw [va_up_self]) rfl d_M_spec_245 ?_
            refine J_topi (r := (pa : Int)) (congrArg iI (va_up_self ..)) ?_
            refine J_ifle (tgt := 260) d_M_spec_248 (by decide) ⟨by omega, by omega⟩ (fun c248 => ?_) (fun c248 => ?_)
            · refine J_aload_n 0 d_M_spec_260 rfl rfl ?_
              refine gf_M_244 (by omega) (by rw [va_up_self]) rfl d_M_spec_261 ?_
              refine J_topi (r := (p5 : Int)) (congrArg iI ((va_up_ne _ _ (by decide)).trans ((va_up_ne _ _ (by decide)).trans ((va_up_ne _ _ (by decide)).trans ((va_up_ne _ _ (by decide)).trans ((va_up_ne _ _ (by decide)).trans ((va_up_ne _ _ (by decide)).trans ((va_up_ne _ _ (by decide)).trans (va_up_self ..))))))))) ?_
              exact lab264 p5 (by unfold s6; rw [hpa, hs5, if_neg (by omega)]) (by omega)
            · refine J_aload_n 0 d_M_spec_251 rfl rfl ?_
              refine gf_M_244 (by omega) (by rw [va_up_self]) rfl d_M_spec_252 ?_
              refine J_topi (r := (p5 : Int)) (congrArg iI ((va_up_ne _ _ (by decide)).trans ((va_up_ne _ _ (by decide)).trans ((va_up_ne _ _ (by decide)).trans ((va_up_ne _ _ (by decide)).trans ((va_up_ne _ _ (by decide)).trans ((va_up_ne _ _ (by decide)).trans ((va_up_ne _ _ (by decide)).trans (va_up_self ..))))))))) ?_
              refine J_iconst d_M_spec_255 ?_
              refine J_iadd d_M_spec_256 ?_
              refine J_goto (tgt := 264) d_M_spec_257 (by decide) ?_
              exact lab264 (p5 + 1) (by unfold s6; rw [hpa, hs5, if_pos (by omega)]) (by omega)
          refine J_aload_n 0 d_M_spec_202 rfl rfl ?_
          refine J_aload_n 0 d_M_spec_203 rfl rfl ?_
          refine gf_M_244 (by omega) (by rw [va_up_self]) rfl d_M_spec_204 ?_
          refine J_topi (r := (p5 : Int)) (congrArg iI ((va_up_ne _ _ (by decide)).trans ((va_up_ne _ _ (by decide)).trans ((va_up_ne _ _ (by decide)).trans ((va_up_ne _ _ (by decide)).trans ((va_up_ne _ _ (by decide)).trans ((va_up_ne _ _ (by decide)).trans (va_up_self ..)))))))) ?_
          refine J_callVi cw_M_247 nh_M_here pn_M_here rfl rfl (by omega) (by rw [va_up_self]) (As := [.int (iI (p5 : Int))]) (rest := [.ref (ad 98)]) rfl (Nat.le_of_ble_eq_true rfl) ⟨by decide, by decide⟩ rfl ⟨by decide, by decide⟩ d_M_spec_207 (c_M_here hfl (f := va_up (va_up (va_up (va_up (va_up (va_up (va_up f 19 (p5 : Int)) 21 (fi : Int)) 22 (al : Int)) 23 (pl : Int)) 24 zs) 25 zz) 26 wi) (v := v) (lh := lh) (ln := ln) (k := p5) hN (by rw [va_up_self]) (by rw [va_up_ne _ _ (by decide)]; exact h104) hml ((va_up_ne _ _ (by decide)).trans ((va_up_ne _ _ (by decide)).trans ((va_up_ne _ _ (by decide)).trans ((va_up_ne _ _ (by decide)).trans ((va_up_ne _ _ (by decide)).trans ((va_up_ne _ _ (by decide)).trans ((va_up_ne _ _ (by decide)).trans hf12))))))) hl40 hch (by omega)) (fun z2 F6 hq => ?_)
          obtain ⟨hz2, eF6⟩ := hq
          refine J_eqF eF6 ?_
          refine J_topi (r := (((chr ln p5 : Nat)) : Int)) (congrArg iI hz2) ?_
          refine J_bipush d_M_spec_210 (i8_ok (by decide)) ?_
          refine J_if_icmpeq (tgt := 228) d_M_spec_212 (by decide) ⟨by omega, by omega⟩ ⟨by omega, by omega⟩ (fun c212 => ?_) (fun c212 => ?_)
          · refine J_aload_n 0 d_M_spec_228 rfl rfl ?_
            refine J_aload_n 0 d_M_spec_229 rfl rfl ?_
            refine gf_M_244 (by omega) (by rw [va_up_self]) rfl d_M_spec_230 ?_
            refine J_topi (r := (p5 : Int)) (congrArg iI ((va_up_ne _ _ (by decide)).trans ((va_up_ne _ _ (by decide)).trans ((va_up_ne _ _ (by decide)).trans ((va_up_ne _ _ (by decide)).trans ((va_up_ne _ _ (by decide)).trans ((va_up_ne _ _ (by decide)).trans (va_up_self ..)))))))) ?_
            refine J_callVi cw_M_247 nh_M_here pn_M_here rfl rfl (by omega) (by rw [va_up_self]) (As := [.int (iI (p5 : Int))]) (rest := [.ref (ad 98)]) rfl (Nat.le_of_ble_eq_true rfl) ⟨by decide, by decide⟩ rfl ⟨by decide, by decide⟩ d_M_spec_233 (c_M_here hfl (f := va_up (va_up (va_up (va_up (va_up (va_up (va_up f 19 (p5 : Int)) 21 (fi : Int)) 22 (al : Int)) 23 (pl : Int)) 24 zs) 25 zz) 26 wi) (v := v) (lh := lh) (ln := ln) (k := p5) hN (by rw [va_up_self]) (by rw [va_up_ne _ _ (by decide)]; exact h104) hml ((va_up_ne _ _ (by decide)).trans ((va_up_ne _ _ (by decide)).trans ((va_up_ne _ _ (by decide)).trans ((va_up_ne _ _ (by decide)).trans ((va_up_ne _ _ (by decide)).trans ((va_up_ne _ _ (by decide)).trans ((va_up_ne _ _ (by decide)).trans hf12))))))) hl40 hch (by omega)) (fun z3 F7 hq => ?_)
            obtain ⟨hz3, eF7⟩ := hq
            refine J_eqF eF7 ?_
            refine J_topi (r := (((chr ln p5 : Nat)) : Int)) (congrArg iI hz3) ?_
            refine J_goto (tgt := 240) d_M_spec_236 (by decide) ?_
            exact lab240 (chr ln p5) (by unfold sPa; rw [hs5, if_pos (by omega)]) (by omega)
          · refine J_aload_n 0 d_M_spec_215 rfl rfl ?_
            refine J_aload_n 0 d_M_spec_216 rfl rfl ?_
            refine gf_M_244 (by omega) (by rw [va_up_self]) rfl d_M_spec_217 ?_
            refine J_topi (r := (p5 : Int)) (congrArg iI ((va_up_ne _ _ (by decide)).trans ((va_up_ne _ _ (by decide)).trans ((va_up_ne _ _ (by decide)).trans ((va_up_ne _ _ (by decide)).trans ((va_up_ne _ _ (by decide)).trans ((va_up_ne _ _ (by decide)).trans (va_up_self ..)))))))) ?_
            refine J_callVi cw_M_247 nh_M_here pn_M_here rfl rfl (by omega) (by rw [va_up_self]) (As := [.int (iI (p5 : Int))]) (rest := [.ref (ad 98)]) rfl (Nat.le_of_ble_eq_true rfl) ⟨by decide, by decide⟩ rfl ⟨by decide, by decide⟩ d_M_spec_220 (c_M_here hfl (f := va_up (va_up (va_up (va_up (va_up (va_up (va_up f 19 (p5 : Int)) 21 (fi : Int)) 22 (al : Int)) 23 (pl : Int)) 24 zs) 25 zz) 26 wi) (v := v) (lh := lh) (ln := ln) (k := p5) hN (by rw [va_up_self]) (by rw [va_up_ne _ _ (by decide)]; exact h104) hml ((va_up_ne _ _ (by decide)).trans ((va_up_ne _ _ (by decide)).trans ((va_up_ne _ _ (by decide)).trans ((va_up_ne _ _ (by decide)).trans ((va_up_ne _ _ (by decide)).trans ((va_up_ne _ _ (by decide)).trans ((va_up_ne _ _ (by decide)).trans hf12))))))) hl40 hch (by omega)) (fun z4 F8 hq => ?_)
            obtain ⟨hz4, eF8⟩ := hq
            refine J_eqF eF8 ?_
            refine J_topi (r := (((chr ln p5 : Nat)) : Int)) (congrArg iI hz4) ?_
            refine J_bipush d_M_spec_223 (i8_ok (by decide)) ?_
            refine J_if_icmpne (tgt := 239) d_M_spec_225 (by decide) ⟨by omega, by omega⟩ ⟨by omega, by omega⟩ (fun c225 => ?_) (fun c225 => ?_)
            · refine J_iconst d_M_spec_239 ?_
              exact lab240 0 (by unfold sPa; rw [hs5, if_neg (by omega)]) (by omega)
            · refine J_aload_n 0 d_M_spec_228 rfl rfl ?_
              refine J_aload_n 0 d_M_spec_229 rfl rfl ?_
              refine gf_M_244 (by omega) (by rw [va_up_self]) rfl d_M_spec_230 ?_
              refine J_topi (r := (p5 : Int)) (congrArg iI ((va_up_ne _ _ (by decide)).trans ((va_up_ne _ _ (by decide)).trans ((va_up_ne _ _ (by decide)).trans ((va_up_ne _ _ (by decide)).trans ((va_up_ne _ _ (by decide)).trans ((va_up_ne _ _ (by decide)).trans (va_up_self ..)))))))) ?_
              refine J_callVi cw_M_247 nh_M_here pn_M_here rfl rfl (by omega) (by rw [va_up_self]) (As := [.int (iI (p5 : Int))]) (rest := [.ref (ad 98)]) rfl (Nat.le_of_ble_eq_true rfl) ⟨by decide, by decide⟩ rfl ⟨by decide, by decide⟩ d_M_spec_233 (c_M_here hfl (f := va_up (va_up (va_up (va_up (va_up (va_up (va_up f 19 (p5 : Int)) 21 (fi : Int)) 22 (al : Int)) 23 (pl : Int)) 24 zs) 25 zz) 26 wi) (v := v) (lh := lh) (ln := ln) (k := p5) hN (by rw [va_up_self]) (by rw [va_up_ne _ _ (by decide)]; exact h104) hml ((va_up_ne _ _ (by decide)).trans ((va_up_ne _ _ (by decide)).trans ((va_up_ne _ _ (by decide)).trans ((va_up_ne _ _ (by decide)).trans ((va_up_ne _ _ (by decide)).trans ((va_up_ne _ _ (by decide)).trans ((va_up_ne _ _ (by decide)).trans hf12))))))) hl40 hch (by omega)) (fun z5 F9 hq => ?_)
              obtain ⟨hz5, eF9⟩ := hq
              refine J_eqF eF9 ?_
              refine J_topi (r := (((chr ln p5 : Nat)) : Int)) (congrArg iI hz5) ?_
              refine J_goto (tgt := 240) d_M_spec_236 (by decide) ?_
              exact lab240 (chr ln p5) (by unfold sPa; rw [hs5, if_pos (by omega)]) (by omega)
        refine gf_M_244 (by omega) (by rw [va_up_self]) rfl d_M_spec_179 ?_
        refine J_topi (r := (p4 : Int)) (congrArg iI ((va_up_ne _ _ (by decide)).trans ((va_up_ne _ _ (by decide)).trans ((va_up_ne _ _ (by decide)).trans ((va_up_ne _ _ (by decide)).trans ((va_up_ne _ _ (by decide)).trans (va_up_self ..))))))) ?_
        refine J_callVi cw_M_247 nh_M_here pn_M_here rfl rfl (by omega) (by rw [va_up_self]) (As := [.int (iI (p4 : Int))]) (rest := [.ref (ad 98)]) rfl (Nat.le_of_ble_eq_true rfl) ⟨by decide, by decide⟩ rfl ⟨by decide, by decide⟩ d_M_spec_182 (c_M_here hfl (f := va_up (va_up (va_up (va_up (va_up (va_up f 19 (p4 : Int)) 21 (fi : Int)) 22 (al : Int)) 23 (pl : Int)) 24 zs) 25 zz) (v := v) (lh := lh) (ln := ln) (k := p4) hN (by rw [va_up_self]) (by rw [va_up_ne _ _ (by decide)]; exact h104) hml ((va_up_ne _ _ (by decide)).trans ((va_up_ne _ _ (by decide)).trans ((va_up_ne _ _ (by decide)).trans ((va_up_ne _ _ (by decide)).trans ((va_up_ne _ _ (by decide)).trans ((va_up_ne _ _ (by decide)).trans hf12)))))) hl40 hch (by omega)) (fun z6 F10 hq => ?_)
        obtain ⟨hz6, eF10⟩ := hq
        refine J_eqF eF10 ?_
        refine J_topi (r := (((chr ln p4 : Nat)) : Int)) (congrArg iI hz6) ?_
        refine J_bipush d_M_spec_185 (i8_ok (by decide)) ?_
        refine J_if_icmpne (tgt := 194) d_M_spec_187 (by decide) ⟨by omega, by omega⟩ ⟨by omega, by omega⟩ (fun c187 => ?_) (fun c187 => ?_)
        · refine J_aload_n 0 d_M_spec_194 rfl rfl ?_
          obtain ⟨⟨vW, qW⟩, htW⟩ : ∃ x, two2 ln 2 p4 (-1) = x := ⟨_, rfl⟩
          refine J_callVi cw_M_333 nh_M_two pn_M_two rfl rfl (by omega) (by rw [va_up_self]) (As := []) (rest := [.ref (ad 98)]) rfl (Nat.le_of_ble_eq_true rfl) ⟨by decide, by decide⟩ rfl ⟨by decide, by decide⟩ d_M_spec_195 (c_M_two hfl (f := va_up (va_up (va_up (va_up (va_up (va_up f 19 (p4 : Int)) 21 (fi : Int)) 22 (al : Int)) 23 (pl : Int)) 24 zs) 25 zz) (v := v) (lh := lh) (ln := ln) (p0 := p4) (pe := qW) (ve := vW) hN (by rw [va_up_self]) (by rw [va_up_ne _ _ (by decide)]; exact h104) hml ((va_up_ne _ _ (by decide)).trans ((va_up_ne _ _ (by decide)).trans ((va_up_ne _ _ (by decide)).trans ((va_up_ne _ _ (by decide)).trans ((va_up_ne _ _ (by decide)).trans ((va_up_ne _ _ (by decide)).trans hf12)))))) hl40 hch ((va_up_ne _ _ (by decide)).trans ((va_up_ne _ _ (by decide)).trans ((va_up_ne _ _ (by decide)).trans ((va_up_ne _ _ (by decide)).trans ((va_up_ne _ _ (by decide)).trans (va_up_self ..)))))) (by omega) htW) (fun ztW F11 hq => ?_)
          obtain ⟨hzW, hvbW, hqbW, eF11⟩ := hq
          refine J_eqF (F2 := va_up F 98 (oM ad (va_up (va_up (va_up (va_up (va_up (va_up f 19 (qW : Int)) 21 (fi : Int)) 22 (al : Int)) 23 (pl : Int)) 24 zs) 25 zz) v)) ((eF11.trans (congrArg (fun qq : Nat → Int => va_up (va_up F 98 (oM ad (va_up (va_up (va_up (va_up (va_up (va_up f 19 (p4 : Int)) 21 (fi : Int)) 22 (al : Int)) 23 (pl : Int)) 24 zs) 25 zz) v)) 98 (oM ad qq v)) (up_in5 (by decide) (by decide) (by decide) (by decide) (by decide)))).trans (up_in0)) ?_
          refine J_topi (r := vW) (congrArg iI hzW) ?_
          exact lab198 vW qW (by unfold sWi; rw [hsp4, if_neg (by omega), htW]) (by unfold s5; rw [hsp4, if_neg (by omega), htW]) (by omega) (by omega)
        · refine J_iconst d_M_spec_190 ?_
          refine J_goto (tgt := 198) d_M_spec_191 (by decide) ?_
          exact lab198 (-1) p4 (by unfold sWi; rw [hsp4, if_pos (by omega)]) (by unfold s5; rw [hsp4, if_pos (by omega)]) (by omega) (by omega)
      refine J_aload_n 0 d_M_spec_132 rfl rfl ?_
      refine J_aload_n 0 d_M_spec_133 rfl rfl ?_
      refine gf_M_325 (by omega) (by rw [va_up_self]) rfl d_M_spec_134 ?_
      refine J_topi (r := (pl : Int)) (congrArg iI (va_up_self ..)) ?_
      refine J_ifle (tgt := 149) d_M_spec_137 (by decide) ⟨by omega, by omega⟩ (fun c137 => ?_) (fun c137 => ?_)
      · refine J_aload_n 0 d_M_spec_149 rfl rfl ?_
        refine gf_M_244 (by omega) (by rw [va_up_self]) rfl d_M_spec_150 ?_
        refine J_topi (r := (p1 : Int)) (congrArg iI ((va_up_ne _ _ (by decide)).trans ((va_up_ne _ _ (by decide)).trans ((va_up_ne _ _ (by decide)).trans (va_up_self ..))))) ?_
        exact lab153 p1 (by unfold s2; rw [hpl, hs1, if_neg (by omega)]) (by omega)
      · refine J_aload_n 0 d_M_spec_140 rfl rfl ?_
        refine gf_M_244 (by omega) (by rw [va_up_self]) rfl d_M_spec_141 ?_
        refine J_topi (r := (p1 : Int)) (congrArg iI ((va_up_ne _ _ (by decide)).trans ((va_up_ne _ _ (by decide)).trans ((va_up_ne _ _ (by decide)).trans (va_up_self ..))))) ?_
        refine J_iconst d_M_spec_144 ?_
        refine J_iadd d_M_spec_145 ?_
        refine J_goto (tgt := 153) d_M_spec_146 (by decide) ?_
        exact lab153 (p1 + 1) (by unfold s2; rw [hpl, hs1, if_pos (by omega)]) (by omega)
    refine J_aload_n 0 d_M_spec_77 rfl rfl ?_
    refine J_aload_n 0 d_M_spec_78 rfl rfl ?_
    refine J_aload_n 0 d_M_spec_79 rfl rfl ?_
    refine gf_M_244 (by omega) (by rw [va_up_self]) rfl d_M_spec_80 ?_
    refine J_topi (r := (p1 : Int)) (congrArg iI ((va_up_ne _ _ (by decide)).trans ((va_up_ne _ _ (by decide)).trans (va_up_self ..)))) ?_
    refine J_callVi cw_M_247 nh_M_here pn_M_here rfl rfl (by omega) (by rw [va_up_self]) (As := [.int (iI (p1 : Int))]) (rest := [.ref (ad 98)]) rfl (Nat.le_of_ble_eq_true rfl) ⟨by decide, by decide⟩ rfl ⟨by decide, by decide⟩ d_M_spec_83 (c_M_here hfl (f := va_up (va_up (va_up f 19 (p1 : Int)) 21 (fi : Int)) 22 (al : Int)) (v := v) (lh := lh) (ln := ln) (k := p1) hN (by rw [va_up_self]) (by rw [va_up_ne _ _ (by decide)]; exact h104) hml ((va_up_ne _ _ (by decide)).trans ((va_up_ne _ _ (by decide)).trans ((va_up_ne _ _ (by decide)).trans hf12))) hl40 hch (by omega)) (fun z7 F12 hq => ?_)
    obtain ⟨hz7, eF12⟩ := hq
    refine J_eqF eF12 ?_
    refine J_topi (r := (((chr ln p1 : Nat)) : Int)) (congrArg iI hz7) ?_
    refine J_bipush d_M_spec_86 (i8_ok (by decide)) ?_
    refine J_if_icmpeq (tgt := 117) d_M_spec_88 (by decide) ⟨by omega, by omega⟩ ⟨by omega, by omega⟩ (fun c88 => ?_) (fun c88 => ?_)
    · refine J_aload_n 0 d_M_spec_117 rfl rfl ?_
      refine J_aload_n 0 d_M_spec_118 rfl rfl ?_
      refine gf_M_244 (by omega) (by rw [va_up_self]) rfl d_M_spec_119 ?_
      refine J_topi (r := (p1 : Int)) (congrArg iI ((va_up_ne _ _ (by decide)).trans ((va_up_ne _ _ (by decide)).trans (va_up_self ..)))) ?_
      refine J_callVi cw_M_247 nh_M_here pn_M_here rfl rfl (by omega) (by rw [va_up_self]) (As := [.int (iI (p1 : Int))]) (rest := [.ref (ad 98)]) rfl (Nat.le_of_ble_eq_true rfl) ⟨by decide, by decide⟩ rfl ⟨by decide, by decide⟩ d_M_spec_122 (c_M_here hfl (f := va_up (va_up (va_up f 19 (p1 : Int)) 21 (fi : Int)) 22 (al : Int)) (v := v) (lh := lh) (ln := ln) (k := p1) hN (by rw [va_up_self]) (by rw [va_up_ne _ _ (by decide)]; exact h104) hml ((va_up_ne _ _ (by decide)).trans ((va_up_ne _ _ (by decide)).trans ((va_up_ne _ _ (by decide)).trans hf12))) hl40 hch (by omega)) (fun z8 F13 hq => ?_)
      obtain ⟨hz8, eF13⟩ := hq
      refine J_eqF eF13 ?_
      refine J_topi (r := (((chr ln p1 : Nat)) : Int)) (congrArg iI hz8) ?_
      refine J_goto (tgt := 129) d_M_spec_125 (by decide) ?_
      exact lab129 (chr ln p1) (by unfold sPl; rw [hs1, if_pos (by omega)]) (by omega)
    · refine J_aload_n 0 d_M_spec_91 rfl rfl ?_
      refine J_aload_n 0 d_M_spec_92 rfl rfl ?_
      refine gf_M_244 (by omega) (by rw [va_up_self]) rfl d_M_spec_93 ?_
      refine J_topi (r := (p1 : Int)) (congrArg iI ((va_up_ne _ _ (by decide)).trans ((va_up_ne _ _ (by decide)).trans (va_up_self ..)))) ?_
      refine J_callVi cw_M_247 nh_M_here pn_M_here rfl rfl (by omega) (by rw [va_up_self]) (As := [.int (iI (p1 : Int))]) (rest := [.ref (ad 98)]) rfl (Nat.le_of_ble_eq_true rfl) ⟨by decide, by decide⟩ rfl ⟨by decide, by decide⟩ d_M_spec_96 (c_M_here hfl (f := va_up (va_up (va_up f 19 (p1 : Int)) 21 (fi : Int)) 22 (al : Int)) (v := v) (lh := lh) (ln := ln) (k := p1) hN (by rw [va_up_self]) (by rw [va_up_ne _ _ (by decide)]; exact h104) hml ((va_up_ne _ _ (by decide)).trans ((va_up_ne _ _ (by decide)).trans ((va_up_ne _ _ (by decide)).trans hf12))) hl40 hch (by omega)) (fun z9 F14 hq => ?_)
      obtain ⟨hz9, eF14⟩ := hq
      refine J_eqF eF14 ?_
      refine J_topi (r := (((chr ln p1 : Nat)) : Int)) (congrArg iI hz9) ?_
      refine J_bipush d_M_spec_99 (i8_ok (by decide)) ?_
      refine J_if_icmpeq (tgt := 117) d_M_spec_101 (by decide) ⟨by omega, by omega⟩ ⟨by omega, by omega⟩ (fun c101 => ?_) (fun c101 => ?_)
      · refine J_aload_n 0 d_M_spec_117 rfl rfl ?_
        refine J_aload_n 0 d_M_spec_118 rfl rfl ?_
        refine gf_M_244 (by omega) (by rw [va_up_self]) rfl d_M_spec_119 ?_
        refine J_topi (r := (p1 : Int)) (congrArg iI ((va_up_ne _ _ (by decide)).trans ((va_up_ne _ _ (by decide)).trans (va_up_self ..)))) ?_
        refine J_callVi cw_M_247 nh_M_here pn_M_here rfl rfl (by omega) (by rw [va_up_self]) (As := [.int (iI (p1 : Int))]) (rest := [.ref (ad 98)]) rfl (Nat.le_of_ble_eq_true rfl) ⟨by decide, by decide⟩ rfl ⟨by decide, by decide⟩ d_M_spec_122 (c_M_here hfl (f := va_up (va_up (va_up f 19 (p1 : Int)) 21 (fi : Int)) 22 (al : Int)) (v := v) (lh := lh) (ln := ln) (k := p1) hN (by rw [va_up_self]) (by rw [va_up_ne _ _ (by decide)]; exact h104) hml ((va_up_ne _ _ (by decide)).trans ((va_up_ne _ _ (by decide)).trans ((va_up_ne _ _ (by decide)).trans hf12))) hl40 hch (by omega)) (fun z10 F15 hq => ?_)
        obtain ⟨hz10, eF15⟩ := hq
        refine J_eqF eF15 ?_
        refine J_topi (r := (((chr ln p1 : Nat)) : Int)) (congrArg iI hz10) ?_
        refine J_goto (tgt := 129) d_M_spec_125 (by decide) ?_
        exact lab129 (chr ln p1) (by unfold sPl; rw [hs1, if_pos (by omega)]) (by omega)
      · refine J_aload_n 0 d_M_spec_104 rfl rfl ?_
        refine J_aload_n 0 d_M_spec_105 rfl rfl ?_
        refine gf_M_244 (by omega) (by rw [va_up_self]) rfl d_M_spec_106 ?_
        refine J_topi (r := (p1 : Int)) (congrArg iI ((va_up_ne _ _ (by decide)).trans ((va_up_ne _ _ (by decide)).trans (va_up_self ..)))) ?_
        refine J_callVi cw_M_247 nh_M_here pn_M_here rfl rfl (by omega) (by rw [va_up_self]) (As := [.int (iI (p1 : Int))]) (rest := [.ref (ad 98)]) rfl (Nat.le_of_ble_eq_true rfl) ⟨by decide, by decide⟩ rfl ⟨by decide, by decide⟩ d_M_spec_109 (c_M_here hfl (f := va_up (va_up (va_up f 19 (p1 : Int)) 21 (fi : Int)) 22 (al : Int)) (v := v) (lh := lh) (ln := ln) (k := p1) hN (by rw [va_up_self]) (by rw [va_up_ne _ _ (by decide)]; exact h104) hml ((va_up_ne _ _ (by decide)).trans ((va_up_ne _ _ (by decide)).trans ((va_up_ne _ _ (by decide)).trans hf12))) hl40 hch (by omega)) (fun z11 F16 hq => ?_)
        obtain ⟨hz11, eF16⟩ := hq
        refine J_eqF eF16 ?_
        refine J_topi (r := (((chr ln p1 : Nat)) : Int)) (congrArg iI hz11) ?_
        refine J_bipush d_M_spec_112 (i8_ok (by decide)) ?_
        refine J_if_icmpne (tgt := 128) d_M_spec_114 (by decide) ⟨by omega, by omega⟩ ⟨by omega, by omega⟩ (fun c114 => ?_) (fun c114 => ?_)
        · refine J_iconst d_M_spec_128 ?_
          exact lab129 0 (by unfold sPl; rw [hs1, if_neg (by omega)]) (by omega)
        · refine J_aload_n 0 d_M_spec_117 rfl rfl ?_
          refine J_aload_n 0 d_M_spec_118 rfl rfl ?_
          refine gf_M_244 (by omega) (by rw [va_up_self]) rfl d_M_spec_119 ?_
          refine J_topi (r := (p1 : Int)) (congrArg iI ((va_up_ne _ _ (by decide)).trans ((va_up_ne _ _ (by decide)).trans (va_up_self ..)))) ?_
          refine J_callVi cw_M_247 nh_M_here pn_M_here rfl rfl (by omega) (by rw [va_up_self]) (As := [.int (iI (p1 : Int))]) (rest := [.ref (ad 98)]) rfl (Nat.le_of_ble_eq_true rfl) ⟨by decide, by decide⟩ rfl ⟨by decide, by decide⟩ d_M_spec_122 (c_M_here hfl (f := va_up (va_up (va_up f 19 (p1 : Int)) 21 (fi : Int)) 22 (al : Int)) (v := v) (lh := lh) (ln := ln) (k := p1) hN (by rw [va_up_self]) (by rw [va_up_ne _ _ (by decide)]; exact h104) hml ((va_up_ne _ _ (by decide)).trans ((va_up_ne _ _ (by decide)).trans ((va_up_ne _ _ (by decide)).trans hf12))) hl40 hch (by omega)) (fun z12 F17 hq => ?_)
          obtain ⟨hz12, eF17⟩ := hq
          refine J_eqF eF17 ?_
          refine J_topi (r := (((chr ln p1 : Nat)) : Int)) (congrArg iI hz12) ?_
          refine J_goto (tgt := 129) d_M_spec_125 (by decide) ?_
          exact lab129 (chr ln p1) (by unfold sPl; rw [hs1, if_pos (by omega)]) (by omega)
  refine J_callVi cw_M_247 nh_M_here pn_M_here rfl rfl (by omega) (by rw [va_up_self]) (As := [.int (iI 1)]) (rest := []) rfl (Nat.le_of_ble_eq_true rfl) ⟨by decide, by decide⟩ rfl ⟨by decide, by decide⟩ d_M_spec_17 (c_M_here hfl (f := va_up (va_up (va_up f 19 0) 21 0) 22 0) (v := v) (lh := lh) (ln := ln) (k := 1) hN (by rw [va_up_self]) (by rw [va_up_ne _ _ (by decide)]; exact h104) hml ((va_up_ne _ _ (by decide)).trans ((va_up_ne _ _ (by decide)).trans ((va_up_ne _ _ (by decide)).trans hf12))) hl40 hch (by omega)) (fun z13 F18 hq => ?_)
  obtain ⟨hz13, eF18⟩ := hq
  refine J_eqF eF18 ?_
  refine J_topi (r := (((chr ln 1 : Nat)) : Int)) (congrArg iI hz13) ?_
  have hcbza := chr_b hch (1)
  refine J_callSi cw_M_322 nh_M_isAlign pn_M_isAlign rfl (As := [.int (iI (((chr ln 1 : Nat)) : Int))]) (rest := []) rfl (Nat.le_of_ble_eq_true rfl) ⟨by decide, by decide⟩ rfl ⟨by decide, by decide⟩ d_M_spec_20 (c_M_isAlign hfl (c := (((chr ln 1 : Nat)) : Int)) ⟨by omega, by omega⟩) (fun za F19 hq => ?_)
  obtain ⟨hza, eF19⟩ := hq
  refine J_eqF eF19 ?_
  have hza1 : za = 0 ∨ za = 1 := by rcases hza with w | w; exact Or.inr w.1; exact Or.inl w.1
  replace hza : hold _ := hza
  refine J_ifeq (tgt := 52) d_M_spec_23 (by decide) ⟨by omega, by omega⟩ (fun c23 => ?_) (fun c23 => ?_)
  · refine J_aload_n 0 d_M_spec_52 rfl rfl ?_
    refine J_iconst d_M_spec_53 ?_
    refine J_callVi cw_M_247 nh_M_here pn_M_here rfl rfl (by omega) (by rw [va_up_self]) (As := [.int (iI 0)]) (rest := []) rfl (Nat.le_of_ble_eq_true rfl) ⟨by decide, by decide⟩ rfl ⟨by decide, by decide⟩ d_M_spec_54 (c_M_here hfl (f := va_up (va_up (va_up f 19 0) 21 0) 22 0) (v := v) (lh := lh) (ln := ln) (k := 0) hN (by rw [va_up_self]) (by rw [va_up_ne _ _ (by decide)]; exact h104) hml ((va_up_ne _ _ (by decide)).trans ((va_up_ne _ _ (by decide)).trans ((va_up_ne _ _ (by decide)).trans hf12))) hl40 hch (by omega)) (fun z14 F20 hq => ?_)
    obtain ⟨hz14, eF20⟩ := hq
    refine J_eqF eF20 ?_
    refine J_topi (r := (((chr ln 0 : Nat)) : Int)) (congrArg iI hz14) ?_
    have hcbzb := chr_b hch (0)
    refine J_callSi cw_M_322 nh_M_isAlign pn_M_isAlign rfl (As := [.int (iI (((chr ln 0 : Nat)) : Int))]) (rest := []) rfl (Nat.le_of_ble_eq_true rfl) ⟨by decide, by decide⟩ rfl ⟨by decide, by decide⟩ d_M_spec_57 (c_M_isAlign hfl (c := (((chr ln 0 : Nat)) : Int)) ⟨by omega, by omega⟩) (fun zb F21 hq => ?_)
    obtain ⟨hzb, eF21⟩ := hq
    refine J_eqF eF21 ?_
    have hzb1 : zb = 0 ∨ zb = 1 := by rcases hzb with w | w; exact Or.inr w.1; exact Or.inl w.1
    replace hzb : hold _ := hzb
    refine J_ifeq (tgt := 77) d_M_spec_60 (by decide) ⟨by omega, by omega⟩ (fun c60 => ?_) (fun c60 => ?_)
    · exact lab77 0 0 0 (s1_c (by rcases (show (za = 1 ∧ _) ∨ (za = 0 ∧ _) from hza) with w | w; omega; exact w.2) (by rcases (show (zb = 1 ∧ _) ∨ (zb = 0 ∧ _) from hzb) with w | w; omega; exact w.2)).1 (s1_c (by rcases (show (za = 1 ∧ _) ∨ (za = 0 ∧ _) from hza) with w | w; omega; exact w.2) (by rcases (show (zb = 1 ∧ _) ∨ (zb = 0 ∧ _) from hzb) with w | w; omega; exact w.2)).2.1 (s1_c (by rcases (show (za = 1 ∧ _) ∨ (za = 0 ∧ _) from hza) with w | w; omega; exact w.2) (by rcases (show (zb = 1 ∧ _) ∨ (zb = 0 ∧ _) from hzb) with w | w; omega; exact w.2)).2.2 (by omega) (by omega)
    · refine J_aload_n 0 d_M_spec_63 rfl rfl ?_
      refine J_aload_n 0 d_M_spec_64 rfl rfl ?_
      refine J_iconst d_M_spec_65 ?_
      refine J_callVi cw_M_247 nh_M_here pn_M_here rfl rfl (by omega) (by rw [va_up_self]) (As := [.int (iI 0)]) (rest := [.ref (ad 98)]) rfl (Nat.le_of_ble_eq_true rfl) ⟨by decide, by decide⟩ rfl ⟨by decide, by decide⟩ d_M_spec_66 (c_M_here hfl (f := va_up (va_up (va_up f 19 0) 21 0) 22 0) (v := v) (lh := lh) (ln := ln) (k := 0) hN (by rw [va_up_self]) (by rw [va_up_ne _ _ (by decide)]; exact h104) hml ((va_up_ne _ _ (by decide)).trans ((va_up_ne _ _ (by decide)).trans ((va_up_ne _ _ (by decide)).trans hf12))) hl40 hch (by omega)) (fun z15 F22 hq => ?_)
      obtain ⟨hz15, eF22⟩ := hq
      refine J_eqF eF22 ?_
      refine J_topi (r := (((chr ln 0 : Nat)) : Int)) (congrArg iI hz15) ?_
      refine pm_M_319 (by omega) (by rw [va_up_self]) d_M_spec_69 ?_
      refine J_eqF (F2 := va_up (va_up F 98 (oM ad (va_up (va_up (va_up f 19 0) 21 0) 22 0) v)) 98 (oM ad (va_up (va_up (va_up f 19 0) 21 0) 22 (((chr ln 0 : Nat)) : Int)) v)) (congrArg (fun qq : Nat → Int => va_up (va_up F 98 (oM ad (va_up (va_up (va_up f 19 0) 21 0) 22 0) v)) 98 (oM ad qq v)) (up_in0)) ?_
      refine J_eqF (F2 := va_up F 98 (oM ad (va_up (va_up (va_up f 19 0) 21 0) 22 (((chr ln 0 : Nat)) : Int)) v)) (up_in0) ?_
      refine J_aload_n 0 d_M_spec_72 rfl rfl ?_
      refine J_iconst d_M_spec_73 ?_
      refine pm_M_244 (by omega) (by rw [va_up_self]) d_M_spec_74 ?_
      refine J_eqF (F2 := va_up (va_up F 98 (oM ad (va_up (va_up (va_up f 19 0) 21 0) 22 (((chr ln 0 : Nat)) : Int)) v)) 98 (oM ad (va_up (va_up (va_up f 19 1) 21 0) 22 (((chr ln 0 : Nat)) : Int)) v)) (congrArg (fun qq : Nat → Int => va_up (va_up F 98 (oM ad (va_up (va_up (va_up f 19 0) 21 0) 22 (((chr ln 0 : Nat)) : Int)) v)) 98 (oM ad qq v)) (up_in2 (by decide) (by decide))) ?_
      refine J_eqF (F2 := va_up F 98 (oM ad (va_up (va_up (va_up f 19 1) 21 0) 22 (((chr ln 0 : Nat)) : Int)) v)) (up_in0) ?_
      exact lab77 1 0 ((chr ln 0 : Nat)) (s1_b (by rcases (show (za = 1 ∧ _) ∨ (za = 0 ∧ _) from hza) with w | w; omega; exact w.2) (by rcases (show (zb = 1 ∧ _) ∨ (zb = 0 ∧ _) from hzb) with w | w; exact w.2; omega)).1 (s1_b (by rcases (show (za = 1 ∧ _) ∨ (za = 0 ∧ _) from hza) with w | w; omega; exact w.2) (by rcases (show (zb = 1 ∧ _) ∨ (zb = 0 ∧ _) from hzb) with w | w; exact w.2; omega)).2.1 (s1_b (by rcases (show (za = 1 ∧ _) ∨ (za = 0 ∧ _) from hza) with w | w; omega; exact w.2) (by rcases (show (zb = 1 ∧ _) ∨ (zb = 0 ∧ _) from hzb) with w | w; exact w.2; omega)).2.2 (by omega) (by omega)
  · have hc00 := chr_b hch 0
    refine J_aload_n 0 d_M_spec_26 rfl rfl ?_
    refine J_aload_n 0 d_M_spec_27 rfl rfl ?_
    refine J_iconst d_M_spec_28 ?_
    refine J_callVi cw_M_247 nh_M_here pn_M_here rfl rfl (by omega) (by rw [va_up_self]) (As := [.int (iI 0)]) (rest := [.ref (ad 98)]) rfl (Nat.le_of_ble_eq_true rfl) ⟨by decide, by decide⟩ rfl ⟨by decide, by decide⟩ d_M_spec_29 (c_M_here hfl (f := va_up (va_up (va_up f 19 0) 21 0) 22 0) (v := v) (lh := lh) (ln := ln) (k := 0) hN (by rw [va_up_self]) (by rw [va_up_ne _ _ (by decide)]; exact h104) hml ((va_up_ne _ _ (by decide)).trans ((va_up_ne _ _ (by decide)).trans ((va_up_ne _ _ (by decide)).trans hf12))) hl40 hch (by omega)) (fun z16 F23 hq => ?_)
    obtain ⟨hz16, eF23⟩ := hq
    refine J_eqF eF23 ?_
    refine J_topi (r := (((chr ln 0 : Nat)) : Int)) (congrArg iI hz16) ?_
    refine pm_M_316 (by omega) (by rw [va_up_self]) d_M_spec_32 ?_
    refine J_eqF (F2 := va_up (va_up F 98 (oM ad (va_up (va_up (va_up f 19 0) 21 0) 22 0) v)) 98 (oM ad (va_up (va_up (va_up f 19 0) 21 (((chr ln 0 : Nat)) : Int)) 22 0) v)) (congrArg (fun qq : Nat → Int => va_up (va_up F 98 (oM ad (va_up (va_up (va_up f 19 0) 21 0) 22 0) v)) 98 (oM ad qq v)) (up_in1 (by decide))) ?_
    refine J_eqF (F2 := va_up F 98 (oM ad (va_up (va_up (va_up f 19 0) 21 (((chr ln 0 : Nat)) : Int)) 22 0) v)) (up_in0) ?_
    refine J_aload_n 0 d_M_spec_35 rfl rfl ?_
    refine J_aload_n 0 d_M_spec_36 rfl rfl ?_
    refine J_iconst d_M_spec_37 ?_
    refine J_callVi cw_M_247 nh_M_here pn_M_here rfl rfl (by omega) (by rw [va_up_self]) (As := [.int (iI 1)]) (rest := [.ref (ad 98)]) rfl (Nat.le_of_ble_eq_true rfl) ⟨by decide, by decide⟩ rfl ⟨by decide, by decide⟩ d_M_spec_38 (c_M_here hfl (f := va_up (va_up (va_up f 19 0) 21 (((chr ln 0 : Nat)) : Int)) 22 0) (v := v) (lh := lh) (ln := ln) (k := 1) hN (by rw [va_up_self]) (by rw [va_up_ne _ _ (by decide)]; exact h104) hml ((va_up_ne _ _ (by decide)).trans ((va_up_ne _ _ (by decide)).trans ((va_up_ne _ _ (by decide)).trans hf12))) hl40 hch (by omega)) (fun z17 F24 hq => ?_)
    obtain ⟨hz17, eF24⟩ := hq
    refine J_eqF eF24 ?_
    refine J_topi (r := (((chr ln 1 : Nat)) : Int)) (congrArg iI hz17) ?_
    refine pm_M_319 (by omega) (by rw [va_up_self]) d_M_spec_41 ?_
    refine J_eqF (F2 := va_up (va_up F 98 (oM ad (va_up (va_up (va_up f 19 0) 21 (((chr ln 0 : Nat)) : Int)) 22 0) v)) 98 (oM ad (va_up (va_up (va_up f 19 0) 21 (((chr ln 0 : Nat)) : Int)) 22 (((chr ln 1 : Nat)) : Int)) v)) (congrArg (fun qq : Nat → Int => va_up (va_up F 98 (oM ad (va_up (va_up (va_up f 19 0) 21 (((chr ln 0 : Nat)) : Int)) 22 0) v)) 98 (oM ad qq v)) (up_in0)) ?_
    refine J_eqF (F2 := va_up F 98 (oM ad (va_up (va_up (va_up f 19 0) 21 (((chr ln 0 : Nat)) : Int)) 22 (((chr ln 1 : Nat)) : Int)) v)) (up_in0) ?_
    refine J_aload_n 0 d_M_spec_44 rfl rfl ?_
    refine J_iconst d_M_spec_45 ?_
    refine pm_M_244 (by omega) (by rw [va_up_self]) d_M_spec_46 ?_
    refine J_eqF (F2 := va_up (va_up F 98 (oM ad (va_up (va_up (va_up f 19 0) 21 (((chr ln 0 : Nat)) : Int)) 22 (((chr ln 1 : Nat)) : Int)) v)) 98 (oM ad (va_up (va_up (va_up f 19 2) 21 (((chr ln 0 : Nat)) : Int)) 22 (((chr ln 1 : Nat)) : Int)) v)) (congrArg (fun qq : Nat → Int => va_up (va_up F 98 (oM ad (va_up (va_up (va_up f 19 0) 21 (((chr ln 0 : Nat)) : Int)) 22 (((chr ln 1 : Nat)) : Int)) v)) 98 (oM ad qq v)) (up_in2 (by decide) (by decide))) ?_
    refine J_eqF (F2 := va_up F 98 (oM ad (va_up (va_up (va_up f 19 2) 21 (((chr ln 0 : Nat)) : Int)) 22 (((chr ln 1 : Nat)) : Int)) v)) (up_in0) ?_
    refine J_goto (tgt := 77) d_M_spec_49 (by decide) ?_
    exact lab77 2 ((chr ln 0 : Nat)) ((chr ln 1 : Nat)) (s1_a (by rcases (show (za = 1 ∧ _) ∨ (za = 0 ∧ _) from hza) with w | w; exact w.2; omega)).1 (s1_a (by rcases (show (za = 1 ∧ _) ∨ (za = 0 ∧ _) from hza) with w | w; exact w.2; omega)).2.1 (s1_a (by rcases (show (za = 1 ∧ _) ∨ (za = 0 ∧ _) from hza) with w | w; exact w.2; omega)).2.2 (by omega) (by omega)
