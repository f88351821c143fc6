/-! the class reads a spec -/

abbrev oS (ad : Nat → Nat) (a x2 x3 x4 x5 x6 x7 x8 x9 x10 : Int) : va_E := .inr (6, [.ref (ad 7), .int (iI a), .int (iI x2), .int (iI x3), .int (iI x4), .int (iI x5), .int (iI x6), .int (iI x7), .int (iI x8), .int (iI x9), .int (iI x10)])
theorem s1_l (w : List Nat) : s1 w ≤ w.length ∧ s1 w ≤ 2 := by
  by_cases h : isAl (chr w 1 : Int)
  · rw [(s1_a h).1]
    have : chr w 1 ≠ 0 := fun q => by rw [q] at h; unfold isAl at h; omega
    have := chr_lt this
    omega
  · by_cases h2 : isAl (chr w 0 : Int)
    · rw [(s1_b h h2).1]
      have : chr w 0 ≠ 0 := fun q => by rw [q] at h2; unfold isAl at h2; omega
      have := chr_lt this
      omega
    · rw [(s1_c h h2).1]; omega
/-- whether a line is a spec, of any kind -/
def spP (w : List Nat) : Prop := s9 w = w.length ∧ sWi w ≤ 40 ∧ (sPt w = 0 ∨ (0 ≤ sPr w ∧ sPr w ≤ 20))
def spK (w : List Nat) (kd : Int) : Prop := ¬(spB (sTy w kd) ∨ sTy w kd = 100) ∨ (kd = 0 ∧ sPr w = -1 ∧ (sTy w kd = 100 ∨ sPa w ≠ 44))
theorem sPr_t {w : List Nat} (h : spP w) : sPt w = 0 ↔ sPr w = -1 := by
  have hp : sPt w = 0 → sPr w = -1 := by
    unfold sPt sPr
    intro q
    split at q
    · omega
    · rename_i c; rw [if_neg c]
  exact ⟨hp, fun q => by have := h.2.2; omega⟩
theorem spG_iff {w : List Nat} {kd : Int} : spG w kd ↔ spP w ∧ spK w kd := by
  constructor
  · rintro ⟨⟨g1, g2, g3, g4⟩, g5⟩
    have hP : spP w := ⟨g1, g2, by omega⟩
    refine ⟨hP, ?_⟩
    by_cases c : spB (sTy w kd) ∨ sTy w kd = 100
    · obtain ⟨q1, q2, q3⟩ := g5 c
      exact Or.inr ⟨q1, (sPr_t hP).mp q2, q3⟩
    · exact Or.inl c
  · rintro ⟨hP, hK⟩
    obtain ⟨p1, p2, p3⟩ := id hP
    have ht := sPr_t hP
    refine ⟨⟨p1, p2, by omega, by omega⟩, fun c => ?_⟩
    rcases hK with q | ⟨q1, q2, q3⟩
    · exact absurd c q
    · exact ⟨q1, ht.mpr q2, q3⟩
set_option maxRecDepth 100000 in
set_option maxHeartbeats 4000000 in
theorem c_S_isAlign {l : Launch} (hfl : l.flags = flags0) {D : va_G} {g : Nat → ClassId} {ad : Nat → Nat} {N : Nat} {F : Nat → va_E} {c : Int}
    (hc : inI c) :
    JC l y_S_isAlign b_S_isAlign 1 (Option.some Jvm.ClassFile.FieldType.boolean) rm_S_isAlign (0, 0) D jCl (jTys g) ad N F [.int (iI c)] (ji ad N (fun z F' => ((z = 1 ∧ isAl c) ∨ (z = 0 ∧ ¬ isAl c)) ∧ F' = F)) := by
  refine JC.go hfl (own := "NumberTower$Spec") (lv := [(0, .int (iI c))]) rfl (by decide +kernel) (Nat.le_of_ble_eq_true rfl) rfl (fun A => ?_)
  refine J_iload_n 0 d_S_isAlign_0 rfl rfl ?_
  refine J_bipush d_S_isAlign_1 (i8_ok (by decide)) ?_
  refine J_if_icmpeq (tgt := 24) d_S_isAlign_3 (by decide) ⟨by omega, by omega⟩ ⟨by omega, by omega⟩ (fun c3 => ?_) (fun c3 => ?_)
  · refine J_iconst d_S_isAlign_24 ?_
    refine J_goto (tgt := 29) d_S_isAlign_25 (by decide) ?_
    refine J_iret rfl (nb01 (by omega)).1 d_S_isAlign_29 ⟨by decide, by decide⟩ ?_
    exact ⟨_, rfl, rfl, rfl, Or.inl ⟨rfl, by unfold isAl; omega⟩, rfl⟩
  · refine J_iload_n 0 d_S_isAlign_6 rfl rfl ?_
    refine J_bipush d_S_isAlign_7 (i8_ok (by decide)) ?_
    refine J_if_icmpeq (tgt := 24) d_S_isAlign_9 (by decide) ⟨by omega, by omega⟩ ⟨by omega, by omega⟩ (fun c9 => ?_) (fun c9 => ?_)
    · refine J_iconst d_S_isAlign_24 ?_
      refine J_goto (tgt := 29) d_S_isAlign_25 (by decide) ?_
      refine J_iret rfl (nb01 (by omega)).1 d_S_isAlign_29 ⟨by decide, by decide⟩ ?_
      exact ⟨_, rfl, rfl, rfl, Or.inl ⟨rfl, by unfold isAl; omega⟩, rfl⟩
    · refine J_iload_n 0 d_S_isAlign_12 rfl rfl ?_
      refine J_bipush d_S_isAlign_13 (i8_ok (by decide)) ?_
      refine J_if_icmpeq (tgt := 24) d_S_isAlign_15 (by decide) ⟨by omega, by omega⟩ ⟨by omega, by omega⟩ (fun c15 => ?_) (fun c15 => ?_)
      · refine J_iconst d_S_isAlign_24 ?_
        refine J_goto (tgt := 29) d_S_isAlign_25 (by decide) ?_
        refine J_iret rfl (nb01 (by omega)).1 d_S_isAlign_29 ⟨by decide, by decide⟩ ?_
        exact ⟨_, rfl, rfl, rfl, Or.inl ⟨rfl, by unfold isAl; omega⟩, rfl⟩
      · refine J_iload_n 0 d_S_isAlign_18 rfl rfl ?_
        refine J_bipush d_S_isAlign_19 (i8_ok (by decide)) ?_
        refine J_if_icmpne (tgt := 28) d_S_isAlign_21 (by decide) ⟨by omega, by omega⟩ ⟨by omega, by omega⟩ (fun c21 => ?_) (fun c21 => ?_)
        · refine J_iconst d_S_isAlign_28 ?_
          refine J_iret rfl (nb01 (by omega)).1 d_S_isAlign_29 ⟨by decide, by decide⟩ ?_
          exact ⟨_, rfl, rfl, rfl, Or.inr ⟨rfl, by unfold isAl; omega⟩, rfl⟩
        · refine J_iconst d_S_isAlign_24 ?_
          refine J_goto (tgt := 29) d_S_isAlign_25 (by decide) ?_
          refine J_iret rfl (nb01 (by omega)).1 d_S_isAlign_29 ⟨by decide, by decide⟩ ?_
          exact ⟨_, rfl, rfl, rfl, Or.inl ⟨rfl, by unfold isAl; omega⟩, rfl⟩
set_option maxRecDepth 100000 in
set_option maxHeartbeats 4000000 in
theorem c_S_take {l : Launch} (hfl : l.flags = flags0) {D : va_G} {g : Nat → ClassId} {ad : Nat → Nat} {N : Nat} {F : Nat → va_E} {lh : Nat → Int} {ln : List Nat} {a0 : Nat} {x2 x3 x4 x5 x6 x7 x8 x9 x10 : Int} {c : Nat}
    (hN : 109 ≤ N) (hT7 : F 7 = oT ad 7 (ln.length : Int)) (hT8 : F 8 = aT g lh) (htx : tx lh ln) (hl40 : ln.length ≤ 40) (hch : ∀ c, c ∈ ln → 32 ≤ c ∧ c ≤ 126) (hS : F 42 = oS ad (a0 : Int) x2 x3 x4 x5 x6 x7 x8 x9 x10) (ha0 : a0 ≤ 100) (hc : 0 < c ∧ c < 200) :
    JC l y_S_take b_S_take 2 (Option.some Jvm.ClassFile.FieldType.boolean) rm_S_take (0, 0) D jCl (jTys g) ad N F [.ref (ad 42), .int (iI (c : Int))] (ji ad N (fun z F' => ((z = 1 ∧ chr ln a0 = c) ∨ (z = 0 ∧ chr ln a0 ≠ c)) ∧ F' = va_up F 42 (oS ad ((tk ln a0 c : Nat) : Int) x2 x3 x4 x5 x6 x7 x8 x9 x10))) := by
  have hca := tchr hch a0
  refine JC.go hfl (own := "NumberTower$Spec") (lv := [(0, .ref (ad 42)), (1, .int (iI (c : Int)))]) rfl (by decide +kernel) (Nat.le_of_ble_eq_true rfl) rfl (fun A => ?_)
  refine J_aload_n 0 d_S_take_0 rfl rfl ?_
  refine gf_S_9 (by omega) hS rfl d_S_take_1 ?_
  refine J_aload_n 0 d_S_take_4 rfl rfl ?_
  refine gf_S_15 (by omega) hS rfl d_S_take_5 ?_
  refine J_callVi cw_S_36 nh_T_at pn_T_at rfl rfl (by omega) hT7 (As := [.int (iI (a0 : Int))]) (rest := []) rfl (Nat.le_of_ble_eq_true rfl) ⟨by decide, by decide⟩ rfl ⟨by decide, by decide⟩ d_S_take_8 (c_T_at hfl (k := 7) (w := ln) (hh := lh) (n := (a0 : Int)) (by omega) (hT7) (hT8) htx (by omega) ⟨by omega, by omega⟩) (fun ta1 F1 hq => ?_)
  obtain ⟨hta1, eF1⟩ := hq
  refine J_eqF eF1 ?_
  refine J_topi (r := tat ln (a0 : Int)) (congrArg iI hta1) ?_
  refine J_iload_n 1 d_S_take_11 rfl rfl ?_
  refine J_if_icmpeq (tgt := 17) d_S_take_12 (by decide) ⟨by omega, by omega⟩ ⟨by omega, by omega⟩ (fun c12 => ?_) (fun c12 => ?_)
  · refine J_aload_n 0 d_S_take_17 rfl rfl ?_
    refine J_dup d_S_take_18 rfl ?_
    refine gf_S_15 (by omega) hS rfl d_S_take_19 ?_
    refine J_iconst d_S_take_22 ?_
    refine J_iadd d_S_take_23 ?_
    refine pf_S_15 (by omega) hS (Nat.le_of_ble_eq_true rfl) d_S_take_24 ?_
    refine J_eqF (F2 := va_up F 42 (.inr (6, [.ref (ad 7), .int (iI ((a0 : Int) + 1)), .int (iI x2), .int (iI x3), .int (iI x4), .int (iI x5), .int (iI x6), .int (iI x7), .int (iI x8), .int (iI x9), .int (iI x10)]))) rfl ?_
    refine J_iconst d_S_take_27 ?_
    refine J_iret rfl (nb01 (by omega)).1 d_S_take_28 ⟨by decide, by decide⟩ ?_
    refine ⟨_, rfl, rfl, rfl, Or.inl ⟨rfl, by omega⟩, ?_⟩
    rw [tk_y (by omega)]; rfl
  · refine J_iconst d_S_take_15 ?_
    refine J_iret rfl (nb01 (by omega)).1 d_S_take_16 ⟨by decide, by decide⟩ ?_
    refine ⟨_, rfl, rfl, rfl, Or.inr ⟨rfl, by omega⟩, ?_⟩
    rw [tk_n (by omega)]
    exact up_same1 hS
set_option maxRecDepth 100000 in
set_option maxHeartbeats 4000000 in
theorem c_S_parseNumber {l : Launch} (hfl : l.flags = flags0) {D : va_G} {g : Nat → ClassId} {ad : Nat → Nat} {N : Nat} {F : Nat → va_E} {lh : Nat → Int} {ln : List Nat} {a0 : Nat} {x2 x3 x4 x5 x6 x7 x8 x9 x10 : Int} {pe : Nat} {ve : Int}
    (hN : 109 ≤ N) (hT7 : F 7 = oT ad 7 (ln.length : Int)) (hT8 : F 8 = aT g lh) (htx : tx lh ln) (hl40 : ln.length ≤ 40) (hch : ∀ c, c ∈ ln → 32 ≤ c ∧ c ≤ 126) (hS : F 42 = oS ad (a0 : Int) x2 x3 x4 x5 x6 x7 x8 x9 x10) (ha0 : a0 ≤ ln.length) (hres : two2 ln 2 a0 (-1) = (ve, pe)) :
    JC l y_S_parseNumber b_S_parseNumber 3 (Option.some Jvm.ClassFile.FieldType.int) rm_S_parseNumber (0, 0) D jCl (jTys g) ad N F [.ref (ad 42)] (ji ad N (fun z F' => z = ve ∧ (-1 ≤ ve ∧ ve < 100) ∧ (a0 ≤ pe ∧ pe ≤ ln.length) ∧ F' = va_up F 42 (oS ad (pe : Int) x2 x3 x4 x5 x6 x7 x8 x9 x10))) := by
  refine JC.go hfl (own := "NumberTower$Spec") (lv := [(0, .ref (ad 42))]) rfl (by decide +kernel) (Nat.le_of_ble_eq_true rfl) rfl (fun A => ?_)
  refine J_iconst d_S_parseNumber_0 ?_
  refine J_istore_n (lv' := [(1, .int (iI (-1))), (0, .ref (ad 42))]) d_S_parseNumber_1 rfl (by decide) rfl ?_
  refine J_iconst d_S_parseNumber_2 ?_
  refine J_istore_n (lv' := [(2, .int (iI 0)), (1, .int (iI (-1))), (0, .ref (ad 42))]) d_S_parseNumber_3 rfl (by decide) rfl ?_
  refine J_pick (lv' := [(0, .ref (ad 42)), (1, .int (iI (-1))), (2, .int (iI 0))]) [2, 1, 0] rfl ?_
  have loop4 : ∀ (fuel : Nat) (p : Nat) (vv : Int) (i : Nat) (hi : i ≤ 2) (hpi : p = a0 + i) (hpl : p ≤ ln.length) (hvr : hold ((i = 0 ∧ vv = -1) ∨ (i = 1 ∧ 0 ≤ vv ∧ vv < 10) ∨ (i = 2 ∧ 0 ≤ vv ∧ vv < 100))) (hv1 : -1 ≤ vv ∧ vv < 100) (htw : two2 ln (2 - i) p vv = (ve, pe)) (hfu : 2 - i < fuel), J l rm_S_parseNumber (0, 0) "NumberTower$Spec" b_S_parseNumber 3 (Option.some Jvm.ClassFile.FieldType.int) D jCl (jTys g) A (fun _ me => me.name = y_S_parseNumber.name) (ji ad N (fun z F' => z = ve ∧ (-1 ≤ ve ∧ ve < 100) ∧ (a0 ≤ pe ∧ pe ≤ ln.length) ∧ F' = va_up F 42 (oS ad (pe : Int) x2 x3 x4 x5 x6 x7 x8 x9 x10))) ad N 0 0 4 [(0, .ref (ad 42)), (1, .int (iI vv)), (2, .int (iI (i : Int)))] [] (va_up F 42 (.inr (6, [.ref (ad 7), .int (iI (p : Int)), .int (iI x2), .int (iI x3), .int (iI x4), .int (iI x5), .int (iI x6), .int (iI x7), .int (iI x8), .int (iI x9), .int (iI x10)]))) := by
    intro fuel
    induction fuel with
    | zero => intro p vv i hi hpi hpl hvr hv1 htw hfu; exact absurd hfu (Nat.not_lt_zero _)
    | succ fuel ih =>
      intro p vv i hi hpi hpl hvr hv1 htw hfu
      have hcp := tchr hch p
      refine J_iload_n 2 d_S_parseNumber_4 rfl rfl ?_
      refine J_iconst d_S_parseNumber_5 ?_
      refine J_if_icmpge (tgt := 81) d_S_parseNumber_6 (by decide) ⟨by omega, by omega⟩ ⟨by omega, by omega⟩ (fun c6 => ?_) (fun c6 => ?_)
      · refine J_iload_n 1 d_S_parseNumber_81 rfl rfl ?_
        refine J_iret rfl rfl d_S_parseNumber_82 ⟨by decide, by decide⟩ ?_
        have h8 := htw
        rw [show 2 - i = 0 by omega] at h8
        injection h8 with h9 h10
        subst h9 h10
        exact ⟨_, rfl, rfl, rfl, rfl, hv1, ⟨by omega, by omega⟩, rfl⟩
      · refine J_aload_n 0 d_S_parseNumber_9 rfl rfl ?_
        refine gf_S_9 (by omega) (by rw [va_up_self]) rfl d_S_parseNumber_10 ?_
        refine J_aload_n 0 d_S_parseNumber_13 rfl rfl ?_
        refine gf_S_15 (by omega) (by rw [va_up_self]) rfl d_S_parseNumber_14 ?_
        refine J_callVi cw_S_36 nh_T_at pn_T_at rfl rfl (by omega) (by rw [va_up_ne _ _ (by decide)]; exact hT7) (As := [.int (iI (p : Int))]) (rest := []) rfl (Nat.le_of_ble_eq_true rfl) ⟨by decide, by decide⟩ rfl ⟨by decide, by decide⟩ d_S_parseNumber_17 (c_T_at hfl (k := 7) (w := ln) (hh := lh) (n := (p : Int)) (by omega) (by rw [va_up_ne _ _ (by decide)]; exact hT7) (by rw [va_up_ne _ _ (by decide)]; exact hT8) htx (by omega) ⟨by omega, by omega⟩) (fun ta2 F1 hq => ?_)
        obtain ⟨hta2, eF1⟩ := hq
        refine J_eqF eF1 ?_
        refine J_topi (r := tat ln (p : Int)) (congrArg iI hta2) ?_
        refine J_bipush d_S_parseNumber_20 (i8_ok (by decide)) ?_
        refine J_if_icmplt (tgt := 81) d_S_parseNumber_22 (by decide) ⟨by omega, by omega⟩ ⟨by omega, by omega⟩ (fun c22 => ?_) (fun c22 => ?_)
        · refine J_iload_n 1 d_S_parseNumber_81 rfl rfl ?_
          refine J_iret rfl rfl d_S_parseNumber_82 ⟨by decide, by decide⟩ ?_
          have h8 := htw
          rw [two2_e (fun q => by have := (dgr10 (c := (chr ln p : Int))).1 q; omega)] at h8
          injection h8 with h9 h10
          subst h9 h10
          exact ⟨_, rfl, rfl, rfl, rfl, hv1, ⟨by omega, by omega⟩, rfl⟩
        · refine J_aload_n 0 d_S_parseNumber_25 rfl rfl ?_
          refine gf_S_9 (by omega) (by rw [va_up_self]) rfl d_S_parseNumber_26 ?_
          refine J_aload_n 0 d_S_parseNumber_29 rfl rfl ?_
          refine gf_S_15 (by omega) (by rw [va_up_self]) rfl d_S_parseNumber_30 ?_
          refine J_callVi cw_S_36 nh_T_at pn_T_at rfl rfl (by omega) (by rw [va_up_ne _ _ (by decide)]; exact hT7) (As := [.int (iI (p : Int))]) (rest := []) rfl (Nat.le_of_ble_eq_true rfl) ⟨by decide, by decide⟩ rfl ⟨by decide, by decide⟩ d_S_parseNumber_33 (c_T_at hfl (k := 7) (w := ln) (hh := lh) (n := (p : Int)) (by omega) (by rw [va_up_ne _ _ (by decide)]; exact hT7) (by rw [va_up_ne _ _ (by decide)]; exact hT8) htx (by omega) ⟨by omega, by omega⟩) (fun ta3 F2 hq => ?_)
          obtain ⟨hta3, eF2⟩ := hq
          refine J_eqF eF2 ?_
          refine J_topi (r := tat ln (p : Int)) (congrArg iI hta3) ?_
          refine J_bipush d_S_parseNumber_36 (i8_ok (by decide)) ?_
          refine J_if_icmpgt (tgt := 81) d_S_parseNumber_38 (by decide) ⟨by omega, by omega⟩ ⟨by omega, by omega⟩ (fun c38 => ?_) (fun c38 => ?_)
          · refine J_iload_n 1 d_S_parseNumber_81 rfl rfl ?_
            refine J_iret rfl rfl d_S_parseNumber_82 ⟨by decide, by decide⟩ ?_
            have h8 := htw
            rw [two2_e (fun q => by have := (dgr10 (c := (chr ln p : Int))).1 q; omega)] at h8
            injection h8 with h9 h10
            subst h9 h10
            exact ⟨_, rfl, rfl, rfl, rfl, hv1, ⟨by omega, by omega⟩, rfl⟩
          · refine J_iload_n 1 d_S_parseNumber_41 rfl rfl ?_
            refine J_iconst d_S_parseNumber_42 ?_
            refine J_callSi cw_S_45 nh_JMath_max pn_JMath_max rfl (As := [.int (iI vv), .int (iI 0)]) (rest := []) rfl (Nat.le_of_ble_eq_true rfl) ⟨by decide, by decide⟩ rfl ⟨by decide, by decide⟩ d_S_parseNumber_43 (c_JMath_max hfl (a := vv) (b := 0) ⟨by omega, by omega⟩ ⟨by omega, by omega⟩) (fun mx F3 hq => ?_)
            obtain ⟨hmx, eF3⟩ := hq
            refine J_eqF eF3 ?_
            have hmx2 : mx = if vv < 0 then 0 else vv := by rw [hmx]; split <;> omega
            have hdd := (dgr10 (c := (chr ln p : Int))).2
            have hd1 : 0 ≤ dgr (chr ln p) 10 := by
              by_cases q : 0 ≤ dgr (chr ln p) 10
              · exact q
              · exact absurd (by omega) (hdd q)
            clear hdd
            refine J_topi (r := (if vv < 0 then 0 else vv)) (congrArg iI hmx2) ?_
            refine J_bipush d_S_parseNumber_46 (i8_ok (by decide)) ?_
            refine J_imul d_S_parseNumber_48 ?_
            refine J_aload_n 0 d_S_parseNumber_49 rfl rfl ?_
            refine gf_S_9 (by omega) (by rw [va_up_self]) rfl d_S_parseNumber_50 ?_
            refine J_aload_n 0 d_S_parseNumber_53 rfl rfl ?_
            refine gf_S_15 (by omega) (by rw [va_up_self]) rfl d_S_parseNumber_54 ?_
            refine J_callVi cw_S_36 nh_T_at pn_T_at rfl rfl (by omega) (by rw [va_up_ne _ _ (by decide)]; exact hT7) (As := [.int (iI (p : Int))]) (rest := [.int (iI ((if vv < 0 then 0 else vv) * 10))]) rfl (Nat.le_of_ble_eq_true rfl) ⟨by decide, by decide⟩ rfl ⟨by decide, by decide⟩ d_S_parseNumber_57 (c_T_at hfl (k := 7) (w := ln) (hh := lh) (n := (p : Int)) (by omega) (by rw [va_up_ne _ _ (by decide)]; exact hT7) (by rw [va_up_ne _ _ (by decide)]; exact hT8) htx (by omega) ⟨by omega, by omega⟩) (fun ta4 F4 hq => ?_)
            obtain ⟨hta4, eF4⟩ := hq
            refine J_eqF eF4 ?_
            refine J_topi (r := tat ln (p : Int)) (congrArg iI hta4) ?_
            refine J_iadd d_S_parseNumber_60 ?_
            refine J_bipush d_S_parseNumber_61 (i8_ok (by decide)) ?_
            refine J_isub d_S_parseNumber_63 ?_
            refine J_topi (r := ((if vv < 0 then 0 else vv) * 10) + (tat ln (p : Int)) - 48) (congrArg iI (by omega)) ?_
            refine J_istore_n (lv' := [(1, .int (iI (((if vv < 0 then 0 else vv) * 10) + (tat ln (p : Int)) - 48))), (0, .ref (ad 42)), (2, .int (iI (i : Int)))]) d_S_parseNumber_64 rfl (by decide) rfl ?_
            refine J_aload_n 1 d_S_parseNumber_65 rfl rfl ?_
            refine J_dup d_S_parseNumber_66 rfl ?_
            refine gf_S_15 (by omega) (by rw [va_up_self]) rfl d_S_parseNumber_67 ?_
            refine J_iconst d_S_parseNumber_70 ?_
            refine J_iadd d_S_parseNumber_71 ?_
            refine pf_S_15 (by omega) (by rw [va_up_self]) (Nat.le_of_ble_eq_true rfl) d_S_parseNumber_72 ?_
            refine J_eqF (F2 := va_up F 42 (.inr (6, [.ref (ad 7), .int (iI ((p : Int) + 1)), .int (iI x2), .int (iI x3), .int (iI x4), .int (iI x5), .int (iI x6), .int (iI x7), .int (iI x8), .int (iI x9), .int (iI x10)]))) (up_in0) ?_
            refine J_iinc (j := 2) (b := (i : Int) + 1) (lv' := [(2, .int (iI ((i : Int) + 1))), (1, .int (iI (((if vv < 0 then 0 else vv) * 10) + (tat ln (p : Int)) - 48))), (0, .ref (ad 42))]) d_S_parseNumber_75 rfl (by omega) (by decide) rfl ?_
            refine J_goto (tgt := 4) d_S_parseNumber_78 (by decide) ?_
            refine J_pick (lv' := [(0, .ref (ad 42)), (1, .int (iI (((if vv < 0 then 0 else vv) * 10) + (tat ln (p : Int)) - 48))), (2, .int (iI ((i : Int) + 1)))]) [2, 1, 0] rfl ?_
            refine J_eqF (F2 := va_up F 42 (.inr (6, [.ref (ad 7), .int (iI (((p + 1 : Nat)) : Int)), .int (iI x2), .int (iI x3), .int (iI x4), .int (iI x5), .int (iI x6), .int (iI x7), .int (iI x8), .int (iI x9), .int (iI x10)]))) (congrArg (fun qq => va_up F 42 (.inr (6, [.ref (ad 7), .int (iI qq), .int (iI x2), .int (iI x3), .int (iI x4), .int (iI x5), .int (iI x6), .int (iI x7), .int (iI x8), .int (iI x9), .int (iI x10)]))) (by omega)) ?_
            refine ih (p + 1) (((if vv < 0 then 0 else vv) * 10) + (tat ln (p : Int)) - 48) (i + 1) (by omega) (by omega) ?_ ?_ ?_ ?_ (by omega)
            · omega
            · rcases hvr with w | w | w
              · exact Or.inr (Or.inl ⟨by omega, by rw [if_pos (by omega)]; omega⟩)
              · exact Or.inr (Or.inr ⟨by omega, by rw [if_neg (by omega)]; omega⟩)
              · omega
            · rcases hvr with w | w | w
              · rw [if_pos (by omega)]; omega
              · rw [if_neg (by omega)]; omega
              · omega
            · have h8 := htw
              rw [show 2 - i = 2 - (i + 1) + 1 by omega, two2_d hd1] at h8
              rw [← h8]
              congr 1
              split <;> omega
  refine J_eqF (F2 := va_up F 42 (.inr (6, [.ref (ad 7), .int (iI (a0 : Int)), .int (iI x2), .int (iI x3), .int (iI x4), .int (iI x5), .int (iI x6), .int (iI x7), .int (iI x8), .int (iI x9), .int (iI x10)]))) (up_same1 hS) ?_
  exact loop4 ((2 - 0) + 1) a0 (-1) 0 (by decide) rfl (by omega) (Or.inl ⟨rfl, rfl⟩) (by decide) hres (Nat.lt_succ_self _)
set_option maxRecDepth 100000 in
set_option maxHeartbeats 4000000 in
theorem c_S_parseType {l : Launch} (hfl : l.flags = flags0) {D : va_G} {g : Nat → ClassId} {ad : Nat → Nat} {N : Nat} {F : Nat → va_E} {lh : Nat → Int} {ln : List Nat} {a0 : Nat} {x2 x3 x4 x5 x6 x7 x8 x9 x10 : Int}
    (hN : 109 ≤ N) (hT7 : F 7 = oT ad 7 (ln.length : Int)) (hT8 : F 8 = aT g lh) (htx : tx lh ln) (hl40 : ln.length ≤ 40) (hch : ∀ c, c ∈ ln → 32 ≤ c ∧ c ≤ 126) (hS : F 42 = oS ad (a0 : Int) x2 x3 x4 x5 x6 x7 x8 x9 x10) (hs8 : s8 ln = a0) (ha0 : a0 ≤ ln.length) :
    JC l y_S_parseType b_S_parseType 1 (Option.none : Option Jvm.ClassFile.FieldType) rm_S_parseType (0, 0) D jCl (jTys g) ad N F [.ref (ad 42)] (jv ad N (fun F' => s9 ln ≤ ln.length ∧ F' = va_up F 42 (oS ad (s9 ln : Int) x2 x3 x4 x5 x6 x7 x8 x9 (sTc ln : Int)))) := by
  have hca := tchr hch a0
  refine JC.go hfl (own := "NumberTower$Spec") (lv := [(0, .ref (ad 42))]) rfl (by decide +kernel) (Nat.le_of_ble_eq_true rfl) rfl (fun A => ?_)
  refine J_aload_n 0 d_S_parseType_0 rfl rfl ?_
  refine J_iconst d_S_parseType_1 ?_
  refine pf_S_75 (by omega) hS (Nat.le_of_ble_eq_true rfl) d_S_parseType_2 ?_
  refine J_eqF (F2 := va_up F 42 (.inr (6, [.ref (ad 7), .int (iI (a0 : Int)), .int (iI x2), .int (iI x3), .int (iI x4), .int (iI x5), .int (iI x6), .int (iI x7), .int (iI x8), .int (iI x9), .int (iI 0)]))) rfl ?_
  have lab108 : ∀  (hty : tyB (chr ln a0)) (hpos : 0 < chr ln a0) , J l rm_S_parseType (0, 0) "NumberTower$Spec" b_S_parseType 1 (Option.none : Option Jvm.ClassFile.FieldType) D jCl (jTys g) A (fun _ me => me.name = y_S_parseType.name) (jv ad N (fun F' => s9 ln ≤ ln.length ∧ F' = va_up F 42 (oS ad (s9 ln : Int) x2 x3 x4 x5 x6 x7 x8 x9 (sTc ln : Int)))) ad N 0 0 108 [(0, .ref (ad 42))] [] (va_up F 42 (.inr (6, [.ref (ad 7), .int (iI (a0 : Int)), .int (iI x2), .int (iI x3), .int (iI x4), .int (iI x5), .int (iI x6), .int (iI x7), .int (iI x8), .int (iI x9), .int (iI 0)]))) := by
    intro  hty hpos
    refine J_aload_n 0 d_S_parseType_108 rfl rfl ?_
    refine J_aload_n 0 d_S_parseType_109 rfl rfl ?_
    refine gf_S_9 (by omega) (by rw [va_up_self]) rfl d_S_parseType_110 ?_
    refine J_aload_n 0 d_S_parseType_113 rfl rfl ?_
    refine gf_S_15 (by omega) (by rw [va_up_self]) rfl d_S_parseType_114 ?_
    refine J_callVi cw_S_36 nh_T_at pn_T_at rfl rfl (by omega) (by rw [va_up_ne _ _ (by decide)]; exact hT7) (As := [.int (iI (a0 : Int))]) (rest := [.ref (ad 42)]) rfl (Nat.le_of_ble_eq_true rfl) ⟨by decide, by decide⟩ rfl ⟨by decide, by decide⟩ d_S_parseType_117 (c_T_at hfl (k := 7) (w := ln) (hh := lh) (n := (a0 : Int)) (by omega) (by rw [va_up_ne _ _ (by decide)]; exact hT7) (by rw [va_up_ne _ _ (by decide)]; exact hT8) htx (by omega) ⟨by omega, by omega⟩) (fun ta5 F1 hq => ?_)
    obtain ⟨hta5, eF1⟩ := hq
    refine J_eqF eF1 ?_
    refine J_topi (r := tat ln (a0 : Int)) (congrArg iI hta5) ?_
    refine pf_S_75 (by omega) (by rw [va_up_self]) (Nat.le_of_ble_eq_true rfl) d_S_parseType_120 ?_
    refine J_eqF (F2 := va_up F 42 (.inr (6, [.ref (ad 7), .int (iI (a0 : Int)), .int (iI x2), .int (iI x3), .int (iI x4), .int (iI x5), .int (iI x6), .int (iI x7), .int (iI x8), .int (iI x9), .int (iI (tat ln (a0 : Int)))]))) (up_in0) ?_
    refine J_aload_n 0 d_S_parseType_123 rfl rfl ?_
    refine J_dup d_S_parseType_124 rfl ?_
    refine gf_S_15 (by omega) (by rw [va_up_self]) rfl d_S_parseType_125 ?_
    refine J_iconst d_S_parseType_128 ?_
    refine J_iadd d_S_parseType_129 ?_
    refine pf_S_15 (by omega) (by rw [va_up_self]) (Nat.le_of_ble_eq_true rfl) d_S_parseType_130 ?_
    refine J_eqF (F2 := va_up F 42 (.inr (6, [.ref (ad 7), .int (iI ((a0 : Int) + 1)), .int (iI x2), .int (iI x3), .int (iI x4), .int (iI x5), .int (iI x6), .int (iI x7), .int (iI x8), .int (iI x9), .int (iI (tat ln (a0 : Int)))]))) (up_in0) ?_
    refine J_goto (tgt := 136) d_S_parseType_133 (by decide) ?_
    refine J_vret rfl d_S_parseType_136 ⟨by decide, by decide⟩ ?_
    have h1 : sTc ln = chr ln a0 := by unfold sTc; rw [hs8]; exact if_pos hty
    have h2 : s9 ln = a0 + 1 := by unfold s9; rw [h1, hs8, if_pos hpos]
    refine ⟨rfl, rfl, rfl, by omega, ?_⟩
    rw [h1, h2, ← show tat ln (a0 : Int) = (chr ln a0 : Int) by omega]; rfl
  refine J_aload_n 0 d_S_parseType_5 rfl rfl ?_
  refine gf_S_9 (by omega) (by rw [va_up_self]) rfl d_S_parseType_6 ?_
  refine J_aload_n 0 d_S_parseType_9 rfl rfl ?_
  refine gf_S_15 (by omega) (by rw [va_up_self]) rfl d_S_parseType_10 ?_
  refine J_callVi cw_S_36 nh_T_at pn_T_at rfl rfl (by omega) (by rw [va_up_ne _ _ (by decide)]; exact hT7) (As := [.int (iI (a0 : Int))]) (rest := []) rfl (Nat.le_of_ble_eq_true rfl) ⟨by decide, by decide⟩ rfl ⟨by decide, by decide⟩ d_S_parseType_13 (c_T_at hfl (k := 7) (w := ln) (hh := lh) (n := (a0 : Int)) (by omega) (by rw [va_up_ne _ _ (by decide)]; exact hT7) (by rw [va_up_ne _ _ (by decide)]; exact hT8) htx (by omega) ⟨by omega, by omega⟩) (fun ta6 F2 hq => ?_)
  obtain ⟨hta6, eF2⟩ := hq
  refine J_eqF eF2 ?_
  refine J_topi (r := tat ln (a0 : Int)) (congrArg iI hta6) ?_
  by_cases sw16_37 : (tat ln (a0 : Int)) = 37
  · refine J_lookup (off := 92) (tgt := 108) d_S_parseType_16 (by decide) ⟨by omega, by omega⟩ (by rw [sw16_37]; rfl) (by decide) ?_
    exact lab108  (by unfold tyB; omega) (by omega)
  by_cases sw16_69 : (tat ln (a0 : Int)) = 69
  · refine J_lookup (off := 92) (tgt := 108) d_S_parseType_16 (by decide) ⟨by omega, by omega⟩ (by rw [sw16_69]; rfl) (by decide) ?_
    exact lab108  (by unfold tyB; omega) (by omega)
  by_cases sw16_71 : (tat ln (a0 : Int)) = 71
  · refine J_lookup (off := 92) (tgt := 108) d_S_parseType_16 (by decide) ⟨by omega, by omega⟩ (by rw [sw16_71]; rfl) (by decide) ?_
    exact lab108  (by unfold tyB; omega) (by omega)
  by_cases sw16_88 : (tat ln (a0 : Int)) = 88
  · refine J_lookup (off := 92) (tgt := 108) d_S_parseType_16 (by decide) ⟨by omega, by omega⟩ (by rw [sw16_88]; rfl) (by decide) ?_
    exact lab108  (by unfold tyB; omega) (by omega)
  by_cases sw16_98 : (tat ln (a0 : Int)) = 98
  · refine J_lookup (off := 92) (tgt := 108) d_S_parseType_16 (by decide) ⟨by omega, by omega⟩ (by rw [sw16_98]; rfl) (by decide) ?_
    exact lab108  (by unfold tyB; omega) (by omega)
  by_cases sw16_100 : (tat ln (a0 : Int)) = 100
  · refine J_lookup (off := 92) (tgt := 108) d_S_parseType_16 (by decide) ⟨by omega, by omega⟩ (by rw [sw16_100]; rfl) (by decide) ?_
    exact lab108  (by unfold tyB; omega) (by omega)
  by_cases sw16_101 : (tat ln (a0 : Int)) = 101
  · refine J_lookup (off := 92) (tgt := 108) d_S_parseType_16 (by decide) ⟨by omega, by omega⟩ (by rw [sw16_101]; rfl) (by decide) ?_
    exact lab108  (by unfold tyB; omega) (by omega)
  by_cases sw16_102 : (tat ln (a0 : Int)) = 102
  · refine J_lookup (off := 92) (tgt := 108) d_S_parseType_16 (by decide) ⟨by omega, by omega⟩ (by rw [sw16_102]; rfl) (by decide) ?_
    exact lab108  (by unfold tyB; omega) (by omega)
  by_cases sw16_103 : (tat ln (a0 : Int)) = 103
  · refine J_lookup (off := 92) (tgt := 108) d_S_parseType_16 (by decide) ⟨by omega, by omega⟩ (by rw [sw16_103]; rfl) (by decide) ?_
    exact lab108  (by unfold tyB; omega) (by omega)
  by_cases sw16_120 : (tat ln (a0 : Int)) = 120
  · refine J_lookup (off := 92) (tgt := 108) d_S_parseType_16 (by decide) ⟨by omega, by omega⟩ (by rw [sw16_120]; rfl) (by decide) ?_
    exact lab108  (by unfold tyB; omega) (by omega)
  refine J_lookup (off := 120) (tgt := 136) d_S_parseType_16 (by decide) ⟨by omega, by omega⟩ (by simp [Op.lookupswitch.offset]; omega) (by decide) ?_
  refine J_vret rfl d_S_parseType_136 ⟨by decide, by decide⟩ ?_
  have h1 : sTc ln = 0 := by unfold sTc; rw [hs8]; exact if_neg (fun q => by unfold tyB at q; omega)
  have h2 : s9 ln = a0 := by unfold s9; rw [h1, hs8, if_neg (by omega)]
  refine ⟨rfl, rfl, rfl, by omega, ?_⟩
  rw [h1, h2]; rfl
set_option maxRecDepth 100000 in
set_option maxHeartbeats 4000000 in
theorem c_S_parseAlign {l : Launch} (hfl : l.flags = flags0) {D : va_G} {g : Nat → ClassId} {ad : Nat → Nat} {N : Nat} {F : Nat → va_E} {lh : Nat → Int} {ln : List Nat} {x2 x3 x4 x5 x6 x7 x8 x9 x10 : Int}
    (hN : 109 ≤ N) (hT7 : F 7 = oT ad 7 (ln.length : Int)) (hT8 : F 8 = aT g lh) (htx : tx lh ln) (hl40 : ln.length ≤ 40) (hch : ∀ c, c ∈ ln → 32 ≤ c ∧ c ≤ 126) (hS : F 42 = oS ad 0 x2 x3 x4 x5 x6 x7 x8 x9 x10) :
    JC l y_S_parseAlign b_S_parseAlign 1 (Option.none : Option Jvm.ClassFile.FieldType) rm_S_parseAlign (0, 0) D jCl (jTys g) ad N F [.ref (ad 42)] (jv ad N (fun F' => F' = va_up F 42 (oS ad (s1 ln : Int) (sFi ln : Int) (sAl ln : Int) x4 x5 x6 x7 x8 x9 x10))) := by
  have hc0 : (chr ln 0 = 0 ∧ ln.length ≤ 0 ∧ tat ln 0 = -1) ∨ (32 ≤ chr ln 0 ∧ chr ln 0 ≤ 126 ∧ 0 < ln.length ∧ tat ln 0 = (chr ln 0 : Int)) := tchr hch 0
  have hc1 : (chr ln 1 = 0 ∧ ln.length ≤ 1 ∧ tat ln 1 = -1) ∨ (32 ≤ chr ln 1 ∧ chr ln 1 ≤ 126 ∧ 1 < ln.length ∧ tat ln 1 = (chr ln 1 : Int)) := tchr hch 1
  refine JC.go hfl (own := "NumberTower$Spec") (lv := [(0, .ref (ad 42))]) rfl (by decide +kernel) (Nat.le_of_ble_eq_true rfl) rfl (fun A => ?_)
  refine J_aload_n 0 d_S_parseAlign_0 rfl rfl ?_
  refine J_iconst d_S_parseAlign_1 ?_
  refine pf_S_66 (by omega) hS (Nat.le_of_ble_eq_true rfl) d_S_parseAlign_2 ?_
  refine J_eqF (F2 := va_up F 42 (.inr (6, [.ref (ad 7), .int (iI 0), .int (iI 0), .int (iI x3), .int (iI x4), .int (iI x5), .int (iI x6), .int (iI x7), .int (iI x8), .int (iI x9), .int (iI x10)]))) rfl ?_
  refine J_aload_n 0 d_S_parseAlign_5 rfl rfl ?_
  refine J_iconst d_S_parseAlign_6 ?_
  refine pf_S_69 (by omega) (by rw [va_up_self]) (Nat.le_of_ble_eq_true rfl) d_S_parseAlign_7 ?_
  refine J_eqF (F2 := va_up F 42 (.inr (6, [.ref (ad 7), .int (iI 0), .int (iI 0), .int (iI 0), .int (iI x4), .int (iI x5), .int (iI x6), .int (iI x7), .int (iI x8), .int (iI x9), .int (iI x10)]))) (up_in0) ?_
  refine J_aload_n 0 d_S_parseAlign_10 rfl rfl ?_
  refine gf_S_9 (by omega) (by rw [va_up_self]) rfl d_S_parseAlign_11 ?_
  refine J_iconst d_S_parseAlign_14 ?_
  refine J_callVi cw_S_36 nh_T_at pn_T_at rfl rfl (by omega) (by rw [va_up_ne _ _ (by decide)]; exact hT7) (As := [.int (iI 1)]) (rest := []) rfl (Nat.le_of_ble_eq_true rfl) ⟨by decide, by decide⟩ rfl ⟨by decide, by decide⟩ d_S_parseAlign_15 (c_T_at hfl (k := 7) (w := ln) (hh := lh) (n := 1) (by omega) (by rw [va_up_ne _ _ (by decide)]; exact hT7) (by rw [va_up_ne _ _ (by decide)]; exact hT8) htx (by omega) ⟨by omega, by omega⟩) (fun ta7 F1 hq => ?_)
  obtain ⟨hta7, eF1⟩ := hq
  refine J_eqF eF1 ?_
  refine J_topi (r := tat ln 1) (congrArg iI hta7) ?_
  refine J_callSi cw_S_72 nh_S_isAlign pn_S_isAlign rfl (As := [.int (iI (tat ln 1))]) (rest := []) rfl (Nat.le_of_ble_eq_true rfl) ⟨by decide, by decide⟩ rfl ⟨by decide, by decide⟩ d_S_parseAlign_18 (c_S_isAlign hfl (c := tat ln 1) ⟨by omega, by omega⟩) (fun za F2 hq => ?_)
  obtain ⟨hza, eF2⟩ := hq
  refine J_eqF eF2 ?_
  have hza1 : za = 0 ∨ za = 1 := by rcases hza with w | w; exact Or.inr w.1; exact Or.inl w.1
  have hza : (za = 1 ∧ isAl (chr ln 1 : Int)) ∨ (za = 0 ∧ ¬ isAl (chr ln 1 : Int)) := by
    rcases hza with w | w
    · exact Or.inl ⟨w.1, by have := w.2; unfold isAl at *; omega⟩
    · exact Or.inr ⟨w.1, fun q => w.2 (by unfold isAl at *; omega)⟩
  replace hza : hold _ := hza
  refine J_ifeq (tgt := 56) d_S_parseAlign_21 (by decide) ⟨by omega, by omega⟩ (fun c21 => ?_) (fun c21 => ?_)
  · refine J_aload_n 0 d_S_parseAlign_56 rfl rfl ?_
    refine gf_S_9 (by omega) (by rw [va_up_self]) rfl d_S_parseAlign_57 ?_
    refine J_iconst d_S_parseAlign_60 ?_
    refine J_callVi cw_S_36 nh_T_at pn_T_at rfl rfl (by omega) (by rw [va_up_ne _ _ (by decide)]; exact hT7) (As := [.int (iI 0)]) (rest := []) rfl (Nat.le_of_ble_eq_true rfl) ⟨by decide, by decide⟩ rfl ⟨by decide, by decide⟩ d_S_parseAlign_61 (c_T_at hfl (k := 7) (w := ln) (hh := lh) (n := 0) (by omega) (by rw [va_up_ne _ _ (by decide)]; exact hT7) (by rw [va_up_ne _ _ (by decide)]; exact hT8) htx (by omega) ⟨by omega, by omega⟩) (fun ta8 F3 hq => ?_)
    obtain ⟨hta8, eF3⟩ := hq
    refine J_eqF eF3 ?_
    refine J_topi (r := tat ln 0) (congrArg iI hta8) ?_
    refine J_callSi cw_S_72 nh_S_isAlign pn_S_isAlign rfl (As := [.int (iI (tat ln 0))]) (rest := []) rfl (Nat.le_of_ble_eq_true rfl) ⟨by decide, by decide⟩ rfl ⟨by decide, by decide⟩ d_S_parseAlign_64 (c_S_isAlign hfl (c := tat ln 0) ⟨by omega, by omega⟩) (fun zb F4 hq => ?_)
    obtain ⟨hzb, eF4⟩ := hq
    refine J_eqF eF4 ?_
    have hzb1 : zb = 0 ∨ zb = 1 := by rcases hzb with w | w; exact Or.inr w.1; exact Or.inl w.1
    have hzb : (zb = 1 ∧ isAl (chr ln 0 : Int)) ∨ (zb = 0 ∧ ¬ isAl (chr ln 0 : Int)) := by
      rcases hzb with w | w
      · exact Or.inl ⟨w.1, by have := w.2; unfold isAl at *; omega⟩
      · exact Or.inr ⟨w.1, fun q => w.2 (by unfold isAl at *; omega)⟩
    replace hzb : hold _ := hzb
    refine J_ifeq (tgt := 87) d_S_parseAlign_67 (by decide) ⟨by omega, by omega⟩ (fun c67 => ?_) (fun c67 => ?_)
    · refine J_vret rfl d_S_parseAlign_87 ⟨by decide, by decide⟩ ?_
      obtain ⟨e1, e2, e3⟩ := s1_c (by rcases (show (za = 1 ∧ _) ∨ (za = 0 ∧ _) from hza) with w | w; omega; exact w.2) (by rcases (show (zb = 1 ∧ _) ∨ (zb = 0 ∧ _) from hzb) with w | w; omega; exact w.2)
      refine ⟨rfl, rfl, rfl, ?_⟩
      rw [e1, e2, e3]; rfl
    · refine J_aload_n 0 d_S_parseAlign_70 rfl rfl ?_
      refine J_aload_n 0 d_S_parseAlign_71 rfl rfl ?_
      refine gf_S_9 (by omega) (by rw [va_up_self]) rfl d_S_parseAlign_72 ?_
      refine J_iconst d_S_parseAlign_75 ?_
      refine J_callVi cw_S_36 nh_T_at pn_T_at rfl rfl (by omega) (by rw [va_up_ne _ _ (by decide)]; exact hT7) (As := [.int (iI 0)]) (rest := [.ref (ad 42)]) rfl (Nat.le_of_ble_eq_true rfl) ⟨by decide, by decide⟩ rfl ⟨by decide, by decide⟩ d_S_parseAlign_76 (c_T_at hfl (k := 7) (w := ln) (hh := lh) (n := 0) (by omega) (by rw [va_up_ne _ _ (by decide)]; exact hT7) (by rw [va_up_ne _ _ (by decide)]; exact hT8) htx (by omega) ⟨by omega, by omega⟩) (fun ta9 F5 hq => ?_)
      obtain ⟨hta9, eF5⟩ := hq
      refine J_eqF eF5 ?_
      refine J_topi (r := tat ln 0) (congrArg iI hta9) ?_
      refine pf_S_69 (by omega) (by rw [va_up_self]) (Nat.le_of_ble_eq_true rfl) d_S_parseAlign_79 ?_
      refine J_eqF (F2 := va_up F 42 (.inr (6, [.ref (ad 7), .int (iI 0), .int (iI 0), .int (iI (tat ln 0)), .int (iI x4), .int (iI x5), .int (iI x6), .int (iI x7), .int (iI x8), .int (iI x9), .int (iI x10)]))) (up_in0) ?_
      refine J_aload_n 0 d_S_parseAlign_82 rfl rfl ?_
      refine J_iconst d_S_parseAlign_83 ?_
      refine pf_S_15 (by omega) (by rw [va_up_self]) (Nat.le_of_ble_eq_true rfl) d_S_parseAlign_84 ?_
      refine J_eqF (F2 := va_up F 42 (.inr (6, [.ref (ad 7), .int (iI 1), .int (iI 0), .int (iI (tat ln 0)), .int (iI x4), .int (iI x5), .int (iI x6), .int (iI x7), .int (iI x8), .int (iI x9), .int (iI x10)]))) (up_in0) ?_
      refine J_vret rfl d_S_parseAlign_87 ⟨by decide, by decide⟩ ?_
      obtain ⟨e1, e2, e3⟩ := s1_b (by rcases (show (za = 1 ∧ _) ∨ (za = 0 ∧ _) from hza) with w | w; omega; exact w.2) (by rcases (show (zb = 1 ∧ _) ∨ (zb = 0 ∧ _) from hzb) with w | w; exact w.2; omega)
      refine ⟨rfl, rfl, rfl, ?_⟩
      rw [e1, e2, e3, ← show tat ln 0 = (chr ln 0 : Int) by (have := (show isAl (chr ln 0 : Int) from (by rcases (show (zb = 1 ∧ _) ∨ (zb = 0 ∧ _) from hzb) with w | w; exact w.2; omega)); unfold isAl at this; omega)]; rfl
  · refine J_aload_n 0 d_S_parseAlign_24 rfl rfl ?_
    refine J_aload_n 0 d_S_parseAlign_25 rfl rfl ?_
    refine gf_S_9 (by omega) (by rw [va_up_self]) rfl d_S_parseAlign_26 ?_
    refine J_iconst d_S_parseAlign_29 ?_
    refine J_callVi cw_S_36 nh_T_at pn_T_at rfl rfl (by omega) (by rw [va_up_ne _ _ (by decide)]; exact hT7) (As := [.int (iI 0)]) (rest := [.ref (ad 42)]) rfl (Nat.le_of_ble_eq_true rfl) ⟨by decide, by decide⟩ rfl ⟨by decide, by decide⟩ d_S_parseAlign_30 (c_T_at hfl (k := 7) (w := ln) (hh := lh) (n := 0) (by omega) (by rw [va_up_ne _ _ (by decide)]; exact hT7) (by rw [va_up_ne _ _ (by decide)]; exact hT8) htx (by omega) ⟨by omega, by omega⟩) (fun ta10 F6 hq => ?_)
    obtain ⟨hta10, eF6⟩ := hq
    refine J_eqF eF6 ?_
    refine J_topi (r := tat ln 0) (congrArg iI hta10) ?_
    refine pf_S_66 (by omega) (by rw [va_up_self]) (Nat.le_of_ble_eq_true rfl) d_S_parseAlign_33 ?_
    refine J_eqF (F2 := va_up F 42 (.inr (6, [.ref (ad 7), .int (iI 0), .int (iI (tat ln 0)), .int (iI 0), .int (iI x4), .int (iI x5), .int (iI x6), .int (iI x7), .int (iI x8), .int (iI x9), .int (iI x10)]))) (up_in0) ?_
    refine J_aload_n 0 d_S_parseAlign_36 rfl rfl ?_
    refine J_aload_n 0 d_S_parseAlign_37 rfl rfl ?_
    refine gf_S_9 (by omega) (by rw [va_up_self]) rfl d_S_parseAlign_38 ?_
    refine J_iconst d_S_parseAlign_41 ?_
    refine J_callVi cw_S_36 nh_T_at pn_T_at rfl rfl (by omega) (by rw [va_up_ne _ _ (by decide)]; exact hT7) (As := [.int (iI 1)]) (rest := [.ref (ad 42)]) rfl (Nat.le_of_ble_eq_true rfl) ⟨by decide, by decide⟩ rfl ⟨by decide, by decide⟩ d_S_parseAlign_42 (c_T_at hfl (k := 7) (w := ln) (hh := lh) (n := 1) (by omega) (by rw [va_up_ne _ _ (by decide)]; exact hT7) (by rw [va_up_ne _ _ (by decide)]; exact hT8) htx (by omega) ⟨by omega, by omega⟩) (fun ta11 F7 hq => ?_)
    obtain ⟨hta11, eF7⟩ := hq
    refine J_eqF eF7 ?_
    refine J_topi (r := tat ln 1) (congrArg iI hta11) ?_
    refine pf_S_69 (by omega) (by rw [va_up_self]) (Nat.le_of_ble_eq_true rfl) d_S_parseAlign_45 ?_
    refine J_eqF (F2 := va_up F 42 (.inr (6, [.ref (ad 7), .int (iI 0), .int (iI (tat ln 0)), .int (iI (tat ln 1)), .int (iI x4), .int (iI x5), .int (iI x6), .int (iI x7), .int (iI x8), .int (iI x9), .int (iI x10)]))) (up_in0) ?_
    refine J_aload_n 0 d_S_parseAlign_48 rfl rfl ?_
    refine J_iconst d_S_parseAlign_49 ?_
    refine pf_S_15 (by omega) (by rw [va_up_self]) (Nat.le_of_ble_eq_true rfl) d_S_parseAlign_50 ?_
    refine J_eqF (F2 := va_up F 42 (.inr (6, [.ref (ad 7), .int (iI 2), .int (iI (tat ln 0)), .int (iI (tat ln 1)), .int (iI x4), .int (iI x5), .int (iI x6), .int (iI x7), .int (iI x8), .int (iI x9), .int (iI x10)]))) (up_in0) ?_
    refine J_goto (tgt := 87) d_S_parseAlign_53 (by decide) ?_
    refine J_vret rfl d_S_parseAlign_87 ⟨by decide, by decide⟩ ?_
    obtain ⟨e1, e2, e3⟩ := s1_a (by rcases (show (za = 1 ∧ _) ∨ (za = 0 ∧ _) from hza) with w | w; exact w.2; omega)
    refine ⟨rfl, rfl, rfl, ?_⟩
    rw [e1, e2, e3, ← show tat ln 0 = (chr ln 0 : Int) by (have := (show isAl (chr ln 1 : Int) from (by rcases (show (za = 1 ∧ _) ∨ (za = 0 ∧ _) from hza) with w | w; exact w.2; omega)); unfold isAl at this; omega), ← show tat ln 1 = (chr ln 1 : Int) by (have := (show isAl (chr ln 1 : Int) from (by rcases (show (za = 1 ∧ _) ∨ (za = 0 ∧ _) from hza) with w | w; exact w.2; omega)); unfold isAl at this; omega)]; rfl
