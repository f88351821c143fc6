/-! the class reads a spec: the whole line -/
set_option maxRecDepth 100000 in
set_option maxHeartbeats 4000000 in
theorem c_S_parse {l : Launch} (hfl : l.flags = flags0) {D : va_G} {g : Nat → ClassId} {ad : Nat → Nat} {N : Nat} {F : Nat → va_E} {lh : Nat → Int} {ln : List Nat} {x1 : Int} {x2 x3 x4 x5 x6 x7 x8 x9 x10 : Int}
    (hN : 109 ≤ N) (hT7 : F 7 = oT ad 7 (ln.length : Int)) (hT8 : F 8 = aT g lh) (htx : tx lh ln) (hl40 : ln.length ≤ 40) (hch : ∀ c, c ∈ ln → 32 ≤ c ∧ c ≤ 126) (hS : F 42 = oS ad x1 x2 x3 x4 x5 x6 x7 x8 x9 x10) :
    JC l y_S_parse b_S_parse 1 (Option.some Jvm.ClassFile.FieldType.boolean) rm_S_parse (0, 0) D jCl (jTys g) ad N F [.ref (ad 42)] (ji ad N (fun z F' => ((z = 1 ∧ spP ln) ∨ (z = 0 ∧ ¬ spP ln)) ∧ ∃ y1 y2 y3 y4 y5 y6 y7 y8 y9 y10 : Int, (z = 1 → y1 = (s9 ln : Int) ∧ y2 = (sFi ln : Int) ∧ y3 = (sAl ln : Int) ∧ y4 = (sPl ln : Int) ∧ y5 = sSh ln ∧ y6 = sZe ln ∧ y7 = max 0 (sWi ln) ∧ y8 = (sPa ln : Int) ∧ y9 = sPr ln ∧ y10 = (sTc ln : Int)) ∧ F' = va_up F 42 (oS ad y1 y2 y3 y4 y5 y6 y7 y8 y9 y10))) := by
  refine JC.go hfl (own := "NumberTower$Spec") (lv := [(0, .ref (ad 42))]) rfl (by decide +kernel) (Nat.le_of_ble_eq_true rfl) rfl (fun A => ?_)
  refine J_aload_n 0 d_S_parse_0 rfl rfl ?_
  refine J_iconst d_S_parse_1 ?_
  refine pf_S_15 (by omega) hS (Nat.le_of_ble_eq_true rfl) d_S_parse_2 ?_
  refine J_eqF (F2 := va_up F 42 (.inr (6, [.ref (ad 7), .int (iI 0), .int (iI x2), .int (iI x3), .int (iI x4), .int (iI x5), .int (iI x6), .int (iI x7), .int (iI x8), .int (iI x9), .int (iI x10)]))) rfl ?_
  refine J_aload_n 0 d_S_parse_5 rfl rfl ?_
  refine J_callVv cw_S_19 nh_S_parseAlign pn_S_parseAlign rfl rfl (by omega) (by rw [va_up_self]) (As := []) (rest := []) rfl (Nat.le_of_ble_eq_true rfl) ⟨by decide, by decide⟩ rfl ⟨by decide, by decide⟩ d_S_parse_6 (c_S_parseAlign hfl (lh := lh) (ln := ln) hN (by rw [va_up_ne _ _ (by decide)]; exact hT7) (by rw [va_up_ne _ _ (by decide)]; exact hT8) htx hl40 hch (by rw [va_up_self])) (fun  F1 hq => ?_)
  have eF1 := hq
  refine J_eqF (F2 := va_up F 42 (.inr (6, [.ref (ad 7), .int (iI (s1 ln : Int)), .int (iI (sFi ln : Int)), .int (iI (sAl ln : Int)), .int (iI x4), .int (iI x5), .int (iI x6), .int (iI x7), .int (iI x8), .int (iI x9), .int (iI x10)]))) (eF1.trans (up_in0)) ?_
  obtain ⟨hp1l, hp12⟩ := s1_l ln
  obtain ⟨p1, hs1⟩ : ∃ q, s1 ln = q := ⟨_, rfl⟩
  rw [hs1] at hp1l hp12
  refine J_eqF (F2 := va_up F 42 (.inr (6, [.ref (ad 7), .int (iI (p1 : Int)), .int (iI (sFi ln : Int)), .int (iI (sAl ln : Int)), .int (iI x4), .int (iI x5), .int (iI x6), .int (iI x7), .int (iI x8), .int (iI x9), .int (iI x10)]))) (congrArg (fun qq => va_up F 42 (.inr (6, [.ref (ad 7), .int (iI qq), .int (iI (sFi ln : Int)), .int (iI (sAl ln : Int)), .int (iI x4), .int (iI x5), .int (iI x6), .int (iI x7), .int (iI x8), .int (iI x9), .int (iI x10)]))) (by rw [hs1])) ?_
  have hcp1 := tchr hch p1
  refine J_aload_n 0 d_S_parse_9 rfl rfl ?_
  have lab53 : ∀ (pl : Nat) (p2 : Nat) (hpl : sPl ln = pl) (hs2 : s2 ln = p2) (hp2 : p2 ≤ ln.length) (hplb : pl ≤ 45) , J l rm_S_parse (0, 0) "NumberTower$Spec" b_S_parse 1 (Option.some Jvm.ClassFile.FieldType.boolean) D jCl (jTys g) A (fun _ me => me.name = y_S_parse.name) (ji ad N (fun z F' => ((z = 1 ∧ spP ln) ∨ (z = 0 ∧ ¬ spP ln)) ∧ ∃ y1 y2 y3 y4 y5 y6 y7 y8 y9 y10 : Int, (z = 1 → y1 = (s9 ln : Int) ∧ y2 = (sFi ln : Int) ∧ y3 = (sAl ln : Int) ∧ y4 = (sPl ln : Int) ∧ y5 = sSh ln ∧ y6 = sZe ln ∧ y7 = max 0 (sWi ln) ∧ y8 = (sPa ln : Int) ∧ y9 = sPr ln ∧ y10 = (sTc ln : Int)) ∧ F' = va_up F 42 (oS ad y1 y2 y3 y4 y5 y6 y7 y8 y9 y10))) ad N 0 0 53 [(0, .ref (ad 42))] [.int (iI (pl : Int)), .ref (ad 42)] (va_up F 42 (.inr (6, [.ref (ad 7), .int (iI (p2 : Int)), .int (iI (sFi ln : Int)), .int (iI (sAl ln : Int)), .int (iI x4), .int (iI x5), .int (iI x6), .int (iI x7), .int (iI x8), .int (iI x9), .int (iI x10)]))) := by
    intro pl p2 hpl hs2 hp2 hplb
    have hcp2 := tchr hch p2
    clear hcp1
    refine pf_S_26 (by omega) (by rw [va_up_self]) (Nat.le_of_ble_eq_true rfl) d_S_parse_53 ?_
    refine J_eqF (F2 := va_up F 42 (.inr (6, [.ref (ad 7), .int (iI (p2 : Int)), .int (iI (sFi ln : Int)), .int (iI (sAl ln : Int)), .int (iI (pl : Int)), .int (iI x5), .int (iI x6), .int (iI x7), .int (iI x8), .int (iI x9), .int (iI x10)]))) (up_in0) ?_
    refine J_aload_n 0 d_S_parse_56 rfl rfl ?_
    refine J_aload_n 0 d_S_parse_57 rfl rfl ?_
    refine J_bipush d_S_parse_58 (i8_ok (by decide)) ?_
    refine J_callVi cw_S_22 nh_S_take pn_S_take rfl rfl (by omega) (by rw [va_up_self]) (As := [.int (iI 35)]) (rest := [.ref (ad 42)]) rfl (Nat.le_of_ble_eq_true rfl) ⟨by decide, by decide⟩ rfl ⟨by decide, by decide⟩ d_S_parse_60 (c_S_take hfl (lh := lh) (ln := ln) (a0 := p2) (c := 35) hN (by rw [va_up_ne _ _ (by decide)]; exact hT7) (by rw [va_up_ne _ _ (by decide)]; exact hT8) htx hl40 hch (by rw [va_up_self]) (by omega) (by omega)) (fun zs F2 hq => ?_)
    obtain ⟨hzs, eF2⟩ := hq
    refine J_eqF (F2 := va_up F 42 (.inr (6, [.ref (ad 7), .int (iI ((tk ln p2 35 : Nat) : Int)), .int (iI (sFi ln : Int)), .int (iI (sAl ln : Int)), .int (iI (pl : Int)), .int (iI x5), .int (iI x6), .int (iI x7), .int (iI x8), .int (iI x9), .int (iI x10)]))) (eF2.trans (up_in0)) ?_
    have hfzs : sSh ln = zs := by
      unfold sSh; rw [hs2]
      rcases hzs with w | w
      · rw [if_pos w.2]; exact w.1.symm
      · rw [if_neg w.2]; exact w.1.symm
    have hzs1 : zs = 0 ∨ zs = 1 := by omega
    obtain ⟨p3, hkp3⟩ : ∃ q9, tk ln p2 35 = q9 := ⟨_, rfl⟩
    have hbp3 : p2 ≤ p3 ∧ p3 ≤ ln.length ∧ p3 ≤ p2 + 1 := by
      rw [← hkp3]; unfold tk
      have h9 := tchr hch p2
      split <;> omega
    refine J_eqF (F2 := va_up F 42 (.inr (6, [.ref (ad 7), .int (iI (p3 : Int)), .int (iI (sFi ln : Int)), .int (iI (sAl ln : Int)), .int (iI (pl : Int)), .int (iI x5), .int (iI x6), .int (iI x7), .int (iI x8), .int (iI x9), .int (iI x10)]))) (congrArg (fun qq => va_up F 42 (.inr (6, [.ref (ad 7), .int (iI qq), .int (iI (sFi ln : Int)), .int (iI (sAl ln : Int)), .int (iI (pl : Int)), .int (iI x5), .int (iI x6), .int (iI x7), .int (iI x8), .int (iI x9), .int (iI x10)]))) (by rw [hkp3])) ?_
    have hsp3 : s3 ln = p3 := by unfold s3; rw [hs2]; exact hkp3
    replace hzs : hold _ := hzs
    refine pf_S_29 (by omega) (by rw [va_up_self]) (Nat.le_of_ble_eq_true rfl) (nb01 (by omega)) d_S_parse_63 ?_
    refine J_eqF (F2 := va_up F 42 (.inr (6, [.ref (ad 7), .int (iI (p3 : Int)), .int (iI (sFi ln : Int)), .int (iI (sAl ln : Int)), .int (iI (pl : Int)), .int (iI zs), .int (iI x6), .int (iI x7), .int (iI x8), .int (iI x9), .int (iI x10)]))) (up_in0) ?_
    refine J_aload_n 0 d_S_parse_66 rfl rfl ?_
    refine J_aload_n 0 d_S_parse_67 rfl rfl ?_
    refine J_bipush d_S_parse_68 (i8_ok (by decide)) ?_
    refine J_callVi cw_S_22 nh_S_take pn_S_take rfl rfl (by omega) (by rw [va_up_self]) (As := [.int (iI 48)]) (rest := [.ref (ad 42)]) rfl (Nat.le_of_ble_eq_true rfl) ⟨by decide, by decide⟩ rfl ⟨by decide, by decide⟩ d_S_parse_70 (c_S_take hfl (lh := lh) (ln := ln) (a0 := p3) (c := 48) hN (by rw [va_up_ne _ _ (by decide)]; exact hT7) (by rw [va_up_ne _ _ (by decide)]; exact hT8) htx hl40 hch (by rw [va_up_self]) (by omega) (by omega)) (fun zz F3 hq => ?_)
    obtain ⟨hzz, eF3⟩ := hq
    refine J_eqF (F2 := va_up F 42 (.inr (6, [.ref (ad 7), .int (iI ((tk ln p3 48 : Nat) : Int)), .int (iI (sFi ln : Int)), .int (iI (sAl ln : Int)), .int (iI (pl : Int)), .int (iI zs), .int (iI x6), .int (iI x7), .int (iI x8), .int (iI x9), .int (iI x10)]))) (eF3.trans (up_in0)) ?_
    have hfzz : sZe ln = zz := by
      unfold sZe; rw [hsp3]
      rcases hzz with w | w
      · rw [if_pos w.2]; exact w.1.symm
      · rw [if_neg w.2]; exact w.1.symm
    have hzz1 : zz = 0 ∨ zz = 1 := by omega
    obtain ⟨p4, hkp4⟩ : ∃ q9, tk ln p3 48 = q9 := ⟨_, rfl⟩
    have hbp4 : p3 ≤ p4 ∧ p4 ≤ ln.length ∧ p4 ≤ p3 + 1 := by
      rw [← hkp4]; unfold tk
      have h9 := tchr hch p3
      split <;> omega
    refine J_eqF (F2 := va_up F 42 (.inr (6, [.ref (ad 7), .int (iI (p4 : Int)), .int (iI (sFi ln : Int)), .int (iI (sAl ln : Int)), .int (iI (pl : Int)), .int (iI zs), .int (iI x6), .int (iI x7), .int (iI x8), .int (iI x9), .int (iI x10)]))) (congrArg (fun qq => va_up F 42 (.inr (6, [.ref (ad 7), .int (iI qq), .int (iI (sFi ln : Int)), .int (iI (sAl ln : Int)), .int (iI (pl : Int)), .int (iI zs), .int (iI x6), .int (iI x7), .int (iI x8), .int (iI x9), .int (iI x10)]))) (by rw [hkp4])) ?_
    have hsp4 : s4 ln = p4 := by unfold s4; rw [hsp3]; exact hkp4
    replace hzz : hold _ := hzz
    refine pf_S_33 (by omega) (by rw [va_up_self]) (Nat.le_of_ble_eq_true rfl) (nb01 (by omega)) d_S_parse_73 ?_
    refine J_eqF (F2 := va_up F 42 (.inr (6, [.ref (ad 7), .int (iI (p4 : Int)), .int (iI (sFi ln : Int)), .int (iI (sAl ln : Int)), .int (iI (pl : Int)), .int (iI zs), .int (iI zz), .int (iI x7), .int (iI x8), .int (iI x9), .int (iI x10)]))) (up_in0) ?_
    have hcp4 := tchr hch p4
    refine J_aload_n 0 d_S_parse_76 rfl rfl ?_
    have lab105 : ∀ (wv : Int) (p5 : Nat) (hwv : wv = max 0 (sWi ln)) (hs5 : s5 ln = p5) (hp5 : p5 ≤ ln.length) (hwb : 0 ≤ wv ∧ wv < 100) , J l rm_S_parse (0, 0) "NumberTower$Spec" b_S_parse 1 (Option.some Jvm.ClassFile.FieldType.boolean) D jCl (jTys g) A (fun _ me => me.name = y_S_parse.name) (ji ad N (fun z F' => ((z = 1 ∧ spP ln) ∨ (z = 0 ∧ ¬ spP ln)) ∧ ∃ y1 y2 y3 y4 y5 y6 y7 y8 y9 y10 : Int, (z = 1 → y1 = (s9 ln : Int) ∧ y2 = (sFi ln : Int) ∧ y3 = (sAl ln : Int) ∧ y4 = (sPl ln : Int) ∧ y5 = sSh ln ∧ y6 = sZe ln ∧ y7 = max 0 (sWi ln) ∧ y8 = (sPa ln : Int) ∧ y9 = sPr ln ∧ y10 = (sTc ln : Int)) ∧ F' = va_up F 42 (oS ad y1 y2 y3 y4 y5 y6 y7 y8 y9 y10))) ad N 0 0 105 [(0, .ref (ad 42))] [.int (iI wv), .ref (ad 42)] (va_up F 42 (.inr (6, [.ref (ad 7), .int (iI (p5 : Int)), .int (iI (sFi ln : Int)), .int (iI (sAl ln : Int)), .int (iI (pl : Int)), .int (iI zs), .int (iI zz), .int (iI x7), .int (iI x8), .int (iI x9), .int (iI x10)]))) := by
      intro wv p5 hwv hs5 hp5 hwb
      have hcp5 := tchr hch p5
      clear hcp2
      refine pf_S_51 (by omega) (by rw [va_up_self]) (Nat.le_of_ble_eq_true rfl) d_S_parse_105 ?_
      refine J_eqF (F2 := va_up F 42 (.inr (6, [.ref (ad 7), .int (iI (p5 : Int)), .int (iI (sFi ln : Int)), .int (iI (sAl ln : Int)), .int (iI (pl : Int)), .int (iI zs), .int (iI zz), .int (iI wv), .int (iI x8), .int (iI x9), .int (iI x10)]))) (up_in0) ?_
      refine J_aload_n 0 d_S_parse_108 rfl rfl ?_
      have lab138 : ∀ (pa : Nat) (p6 : Nat) (hpa : sPa ln = pa) (hs6 : s6 ln = p6) (hp6 : p6 ≤ ln.length) , J l rm_S_parse (0, 0) "NumberTower$Spec" b_S_parse 1 (Option.some Jvm.ClassFile.FieldType.boolean) D jCl (jTys g) A (fun _ me => me.name = y_S_parse.name) (ji ad N (fun z F' => ((z = 1 ∧ spP ln) ∨ (z = 0 ∧ ¬ spP ln)) ∧ ∃ y1 y2 y3 y4 y5 y6 y7 y8 y9 y10 : Int, (z = 1 → y1 = (s9 ln : Int) ∧ y2 = (sFi ln : Int) ∧ y3 = (sAl ln : Int) ∧ y4 = (sPl ln : Int) ∧ y5 = sSh ln ∧ y6 = sZe ln ∧ y7 = max 0 (sWi ln) ∧ y8 = (sPa ln : Int) ∧ y9 = sPr ln ∧ y10 = (sTc ln : Int)) ∧ F' = va_up F 42 (oS ad y1 y2 y3 y4 y5 y6 y7 y8 y9 y10))) ad N 0 0 138 [(0, .ref (ad 42))] [.int (iI (pa : Int)), .ref (ad 42)] (va_up F 42 (.inr (6, [.ref (ad 7), .int (iI (p6 : Int)), .int (iI (sFi ln : Int)), .int (iI (sAl ln : Int)), .int (iI (pl : Int)), .int (iI zs), .int (iI zz), .int (iI wv), .int (iI x8), .int (iI x9), .int (iI x10)]))) := by
        intro pa p6 hpa hs6 hp6
        have hcp6 := tchr hch p6
        clear hcp5
        have hpab : pa ≤ 126 := by
          rw [← hpa]
          have := sPa_b (w := ln)
          omega
        refine pf_S_54 (by omega) (by rw [va_up_self]) (Nat.le_of_ble_eq_true rfl) d_S_parse_138 ?_
        refine J_eqF (F2 := va_up F 42 (.inr (6, [.ref (ad 7), .int (iI (p6 : Int)), .int (iI (sFi ln : Int)), .int (iI (sAl ln : Int)), .int (iI (pl : Int)), .int (iI zs), .int (iI zz), .int (iI wv), .int (iI (pa : Int)), .int (iI x9), .int (iI x10)]))) (up_in0) ?_
        refine J_aload_n 0 d_S_parse_141 rfl rfl ?_
        refine J_iconst d_S_parse_142 ?_
        refine pf_S_57 (by omega) (by rw [va_up_self]) (Nat.le_of_ble_eq_true rfl) d_S_parse_143 ?_
        refine J_eqF (F2 := va_up F 42 (.inr (6, [.ref (ad 7), .int (iI (p6 : Int)), .int (iI (sFi ln : Int)), .int (iI (sAl ln : Int)), .int (iI (pl : Int)), .int (iI zs), .int (iI zz), .int (iI wv), .int (iI (pa : Int)), .int (iI (-1)), .int (iI x10)]))) (up_in0) ?_
        refine J_aload_n 0 d_S_parse_146 rfl rfl ?_
        refine J_bipush d_S_parse_147 (i8_ok (by decide)) ?_
        refine J_callVi cw_S_22 nh_S_take pn_S_take rfl rfl (by omega) (by rw [va_up_self]) (As := [.int (iI 46)]) (rest := []) rfl (Nat.le_of_ble_eq_true rfl) ⟨by decide, by decide⟩ rfl ⟨by decide, by decide⟩ d_S_parse_149 (c_S_take hfl (lh := lh) (ln := ln) (a0 := p6) (c := 46) hN (by rw [va_up_ne _ _ (by decide)]; exact hT7) (by rw [va_up_ne _ _ (by decide)]; exact hT8) htx hl40 hch (by rw [va_up_self]) (by omega) (by omega)) (fun zp F4 hq => ?_)
        obtain ⟨hzp, eF4⟩ := hq
        refine J_eqF (F2 := va_up F 42 (.inr (6, [.ref (ad 7), .int (iI ((tk ln p6 46 : Nat) : Int)), .int (iI (sFi ln : Int)), .int (iI (sAl ln : Int)), .int (iI (pl : Int)), .int (iI zs), .int (iI zz), .int (iI wv), .int (iI (pa : Int)), .int (iI (-1)), .int (iI x10)]))) (eF4.trans (up_in0)) ?_
        have lab181 : ∀ (pr : Int) (p8 : Nat) (hpr : sPr ln = pr) (hs8 : s8 ln = p8) (hp8 : p8 ≤ ln.length) (hpt : (sPt ln = 0 ∧ pr = -1) ∨ (0 ≤ pr ∧ pr ≤ 20)) , J l rm_S_parse (0, 0) "NumberTower$Spec" b_S_parse 1 (Option.some Jvm.ClassFile.FieldType.boolean) D jCl (jTys g) A (fun _ me => me.name = y_S_parse.name) (ji ad N (fun z F' => ((z = 1 ∧ spP ln) ∨ (z = 0 ∧ ¬ spP ln)) ∧ ∃ y1 y2 y3 y4 y5 y6 y7 y8 y9 y10 : Int, (z = 1 → y1 = (s9 ln : Int) ∧ y2 = (sFi ln : Int) ∧ y3 = (sAl ln : Int) ∧ y4 = (sPl ln : Int) ∧ y5 = sSh ln ∧ y6 = sZe ln ∧ y7 = max 0 (sWi ln) ∧ y8 = (sPa ln : Int) ∧ y9 = sPr ln ∧ y10 = (sTc ln : Int)) ∧ F' = va_up F 42 (oS ad y1 y2 y3 y4 y5 y6 y7 y8 y9 y10))) ad N 0 0 181 [(0, .ref (ad 42))] [] (va_up F 42 (.inr (6, [.ref (ad 7), .int (iI (p8 : Int)), .int (iI (sFi ln : Int)), .int (iI (sAl ln : Int)), .int (iI (pl : Int)), .int (iI zs), .int (iI zz), .int (iI wv), .int (iI (pa : Int)), .int (iI pr), .int (iI x10)]))) := by
          intro pr p8 hpr hs8 hp8 hpt
          have hprb : -1 ≤ pr ∧ pr ≤ 20 := by omega
          refine J_aload_n 0 d_S_parse_181 rfl rfl ?_
          refine J_callVv cw_S_60 nh_S_parseType pn_S_parseType rfl rfl (by omega) (by rw [va_up_self]) (As := []) (rest := []) rfl (Nat.le_of_ble_eq_true rfl) ⟨by decide, by decide⟩ rfl ⟨by decide, by decide⟩ d_S_parse_182 (c_S_parseType hfl (lh := lh) (ln := ln) (a0 := p8) hN (by rw [va_up_ne _ _ (by decide)]; exact hT7) (by rw [va_up_ne _ _ (by decide)]; exact hT8) htx hl40 hch (by rw [va_up_self]) hs8 hp8) (fun  F5 hq => ?_)
          obtain ⟨hs9l, eF5⟩ := hq
          refine J_eqF (F2 := va_up F 42 (.inr (6, [.ref (ad 7), .int (iI (s9 ln : Int)), .int (iI (sFi ln : Int)), .int (iI (sAl ln : Int)), .int (iI (pl : Int)), .int (iI zs), .int (iI zz), .int (iI wv), .int (iI (pa : Int)), .int (iI pr), .int (iI (sTc ln : Int))]))) (eF5.trans (up_in0)) ?_
          refine J_aload_n 0 d_S_parse_185 rfl rfl ?_
          refine gf_S_51 (by omega) (by rw [va_up_self]) rfl d_S_parse_186 ?_
          refine J_bipush d_S_parse_189 (i8_ok (by decide)) ?_
          refine J_if_icmpgt (tgt := 212) d_S_parse_191 (by decide) ⟨by omega, by omega⟩ ⟨by omega, by omega⟩ (fun c191 => ?_) (fun c191 => ?_)
          · refine J_iconst d_S_parse_212 ?_
            refine J_iret rfl (nb01 (by omega)).1 d_S_parse_213 ⟨by decide, by decide⟩ ?_
            refine ⟨_, rfl, rfl, rfl, Or.inr ⟨rfl, ?_⟩, (s9 ln : Int), (sFi ln : Int), (sAl ln : Int), (pl : Int), zs, zz, wv, (pa : Int), pr, (sTc ln : Int), (fun q => absurd q (by decide)), rfl⟩
            rintro ⟨g1, g2, g3⟩
            omega
          · refine J_aload_n 0 d_S_parse_194 rfl rfl ?_
            refine gf_S_15 (by omega) (by rw [va_up_self]) rfl d_S_parse_195 ?_
            refine J_aload_n 0 d_S_parse_198 rfl rfl ?_
            refine gf_S_9 (by omega) (by rw [va_up_self]) rfl d_S_parse_199 ?_
            refine gf_S_63 (by omega) (by rw [va_up_ne _ _ (by decide)]; exact hT7) rfl d_S_parse_202 ?_
            refine J_if_icmpne (tgt := 212) d_S_parse_205 (by decide) ⟨by omega, by omega⟩ ⟨by omega, by omega⟩ (fun c205 => ?_) (fun c205 => ?_)
            · refine J_iconst d_S_parse_212 ?_
              refine J_iret rfl (nb01 (by omega)).1 d_S_parse_213 ⟨by decide, by decide⟩ ?_
              refine ⟨_, rfl, rfl, rfl, Or.inr ⟨rfl, ?_⟩, (s9 ln : Int), (sFi ln : Int), (sAl ln : Int), (pl : Int), zs, zz, wv, (pa : Int), pr, (sTc ln : Int), (fun q => absurd q (by decide)), rfl⟩
              rintro ⟨g1, g2, g3⟩
              omega
            · refine J_iconst d_S_parse_208 ?_
              refine J_goto (tgt := 213) d_S_parse_209 (by decide) ?_
              refine J_iret rfl (nb01 (by omega)).1 d_S_parse_213 ⟨by decide, by decide⟩ ?_
              refine ⟨_, rfl, rfl, rfl, Or.inl ⟨rfl, ?_⟩, (s9 ln : Int), (sFi ln : Int), (sAl ln : Int), (pl : Int), zs, zz, wv, (pa : Int), pr, (sTc ln : Int), ?_, rfl⟩
              · exact ⟨by omega, by omega, by rw [hpr]; omega⟩
              · exact fun _ => ⟨rfl, rfl, rfl, by rw [hpl], hfzs.symm, hfzz.symm, hwv, by rw [hpa], hpr.symm, rfl⟩
        refine J_ifeq (tgt := 181) d_S_parse_152 (by decide) ⟨by omega, by omega⟩ (fun c152 => ?_) (fun c152 => ?_)
        · refine J_eqF (F2 := va_up F 42 (.inr (6, [.ref (ad 7), .int (iI (p6 : Int)), .int (iI (sFi ln : Int)), .int (iI (sAl ln : Int)), .int (iI (pl : Int)), .int (iI zs), .int (iI zz), .int (iI wv), .int (iI (pa : Int)), .int (iI (-1)), .int (iI x10)]))) (congrArg (fun qq => va_up F 42 (.inr (6, [.ref (ad 7), .int (iI qq), .int (iI (sFi ln : Int)), .int (iI (sAl ln : Int)), .int (iI (pl : Int)), .int (iI zs), .int (iI zz), .int (iI wv), .int (iI (pa : Int)), .int (iI (-1)), .int (iI x10)]))) (by rw [tk_n (by omega)])) ?_
          exact lab181 (-1 : Int) p6 (by unfold sPr; rw [hs6, if_neg (by omega)]) (by unfold s8 s7; rw [hs6, if_neg (by omega), tk_n (by omega)]) (by omega) (Or.inl ⟨by unfold sPt; rw [hs6, if_neg (by omega)], rfl⟩)
        · have hc46 : chr ln p6 = 46 := by omega
          have hs7 : s7 ln = p6 + 1 := by unfold s7; rw [hs6]; exact tk_y hc46
          refine J_eqF (F2 := va_up F 42 (.inr (6, [.ref (ad 7), .int (iI (((p6 + 1 : Nat)) : Int)), .int (iI (sFi ln : Int)), .int (iI (sAl ln : Int)), .int (iI (pl : Int)), .int (iI zs), .int (iI zz), .int (iI wv), .int (iI (pa : Int)), .int (iI (-1)), .int (iI x10)]))) (congrArg (fun qq => va_up F 42 (.inr (6, [.ref (ad 7), .int (iI qq), .int (iI (sFi ln : Int)), .int (iI (sAl ln : Int)), .int (iI (pl : Int)), .int (iI zs), .int (iI zz), .int (iI wv), .int (iI (pa : Int)), .int (iI (-1)), .int (iI x10)]))) (by rw [tk_y hc46])) ?_
          refine J_aload_n 0 d_S_parse_155 rfl rfl ?_
          refine J_aload_n 0 d_S_parse_156 rfl rfl ?_
          obtain ⟨⟨vP, qP⟩, htP⟩ : ∃ x, two2 ln 2 (p6 + 1) (-1) = x := ⟨_, rfl⟩
          refine J_callVi cw_S_41 nh_S_parseNumber pn_S_parseNumber rfl rfl (by omega) (by rw [va_up_self]) (As := []) (rest := [.ref (ad 42)]) rfl (Nat.le_of_ble_eq_true rfl) ⟨by decide, by decide⟩ rfl ⟨by decide, by decide⟩ d_S_parse_157 (c_S_parseNumber hfl (lh := lh) (ln := ln) (a0 := (p6 + 1)) (pe := qP) (ve := vP) hN (by rw [va_up_ne _ _ (by decide)]; exact hT7) (by rw [va_up_ne _ _ (by decide)]; exact hT8) htx hl40 hch (by rw [va_up_self]) (by omega) htP) (fun ztP F6 hq => ?_)
          obtain ⟨hzP, hvbP, hqbP, eF6⟩ := hq
          refine J_eqF (F2 := va_up F 42 (.inr (6, [.ref (ad 7), .int (iI (qP : Int)), .int (iI (sFi ln : Int)), .int (iI (sAl ln : Int)), .int (iI (pl : Int)), .int (iI zs), .int (iI zz), .int (iI wv), .int (iI (pa : Int)), .int (iI (-1)), .int (iI x10)]))) (eF6.trans (up_in0)) ?_
          refine J_topi (r := vP) (congrArg iI hzP) ?_
          refine pf_S_57 (by omega) (by rw [va_up_self]) (Nat.le_of_ble_eq_true rfl) d_S_parse_160 ?_
          refine J_eqF (F2 := va_up F 42 (.inr (6, [.ref (ad 7), .int (iI (qP : Int)), .int (iI (sFi ln : Int)), .int (iI (sAl ln : Int)), .int (iI (pl : Int)), .int (iI zs), .int (iI zz), .int (iI wv), .int (iI (pa : Int)), .int (iI vP), .int (iI x10)]))) (up_in0) ?_
          refine J_aload_n 0 d_S_parse_163 rfl rfl ?_
          refine gf_S_57 (by omega) (by rw [va_up_self]) rfl d_S_parse_164 ?_
          refine J_iflt (tgt := 179) d_S_parse_167 (by decide) ⟨by omega, by omega⟩ (fun c167 => ?_) (fun c167 => ?_)
          · refine J_iconst d_S_parse_179 ?_
            refine J_iret rfl (nb01 (by omega)).1 d_S_parse_180 ⟨by decide, by decide⟩ ?_
            refine ⟨_, rfl, rfl, rfl, Or.inr ⟨rfl, ?_⟩, (qP : Int), (sFi ln : Int), (sAl ln : Int), (pl : Int), zs, zz, wv, (pa : Int), vP, x10, (fun q => absurd q (by decide)), rfl⟩
            rintro ⟨g1, g2, g3⟩
            have e1 : sPt ln = 1 := by unfold sPt; rw [hs6]; exact if_pos hc46
            have e2 : sPr ln = vP := by unfold sPr; rw [hs6, hs7, if_pos hc46, htP]
            omega
          · refine J_aload_n 0 d_S_parse_170 rfl rfl ?_
            refine gf_S_57 (by omega) (by rw [va_up_self]) rfl d_S_parse_171 ?_
            refine J_bipush d_S_parse_174 (i8_ok (by decide)) ?_
            refine J_if_icmple (tgt := 181) d_S_parse_176 (by decide) ⟨by omega, by omega⟩ ⟨by omega, by omega⟩ (fun c176 => ?_) (fun c176 => ?_)
            · exact lab181 (vP : Int) qP (by unfold sPr; rw [hs6, hs7, if_pos hc46, htP]) (by unfold s8; rw [hs6, hs7, if_pos hc46, htP]) (by omega) (Or.inr ⟨by omega, by omega⟩)
            · refine J_iconst d_S_parse_179 ?_
              refine J_iret rfl (nb01 (by omega)).1 d_S_parse_180 ⟨by decide, by decide⟩ ?_
              refine ⟨_, rfl, rfl, rfl, Or.inr ⟨rfl, ?_⟩, (qP : Int), (sFi ln : Int), (sAl ln : Int), (pl : Int), zs, zz, wv, (pa : Int), vP, x10, (fun q => absurd q (by decide)), rfl⟩
              rintro ⟨g1, g2, g3⟩
              have e1 : sPt ln = 1 := by unfold sPt; rw [hs6]; exact if_pos hc46
              have e2 : sPr ln = vP := by unfold sPr; rw [hs6, hs7, if_pos hc46, htP]
              omega
      refine J_aload_n 0 d_S_parse_109 rfl rfl ?_
      refine J_bipush d_S_parse_110 (i8_ok (by decide)) ?_
      refine J_callVi cw_S_22 nh_S_take pn_S_take rfl rfl (by omega) (by rw [va_up_self]) (As := [.int (iI 44)]) (rest := [.ref (ad 42)]) rfl (Nat.le_of_ble_eq_true rfl) ⟨by decide, by decide⟩ rfl ⟨by decide, by decide⟩ d_S_parse_112 (c_S_take hfl (lh := lh) (ln := ln) (a0 := p5) (c := 44) hN (by rw [va_up_ne _ _ (by decide)]; exact hT7) (by rw [va_up_ne _ _ (by decide)]; exact hT8) htx hl40 hch (by rw [va_up_self]) (by omega) (by omega)) (fun zD F7 hq => ?_)
      obtain ⟨hzD, eF7⟩ := hq
      refine J_eqF (F2 := va_up F 42 (.inr (6, [.ref (ad 7), .int (iI ((tk ln p5 44 : Nat) : Int)), .int (iI (sFi ln : Int)), .int (iI (sAl ln : Int)), .int (iI (pl : Int)), .int (iI zs), .int (iI zz), .int (iI wv), .int (iI x8), .int (iI x9), .int (iI x10)]))) (eF7.trans (up_in0)) ?_
      refine J_ifeq (tgt := 123) d_S_parse_115 (by decide) ⟨by omega, by omega⟩ (fun c115 => ?_) (fun c115 => ?_)
      · refine J_eqF (F2 := va_up F 42 (.inr (6, [.ref (ad 7), .int (iI (p5 : Int)), .int (iI (sFi ln : Int)), .int (iI (sAl ln : Int)), .int (iI (pl : Int)), .int (iI zs), .int (iI zz), .int (iI wv), .int (iI x8), .int (iI x9), .int (iI x10)]))) (congrArg (fun qq => va_up F 42 (.inr (6, [.ref (ad 7), .int (iI qq), .int (iI (sFi ln : Int)), .int (iI (sAl ln : Int)), .int (iI (pl : Int)), .int (iI zs), .int (iI zz), .int (iI wv), .int (iI x8), .int (iI x9), .int (iI x10)]))) (by rw [tk_n (by omega)])) ?_
        refine J_aload_n 0 d_S_parse_123 rfl rfl ?_
        refine J_bipush d_S_parse_124 (i8_ok (by decide)) ?_
        refine J_callVi cw_S_22 nh_S_take pn_S_take rfl rfl (by omega) (by rw [va_up_self]) (As := [.int (iI 95)]) (rest := [.ref (ad 42)]) rfl (Nat.le_of_ble_eq_true rfl) ⟨by decide, by decide⟩ rfl ⟨by decide, by decide⟩ d_S_parse_126 (c_S_take hfl (lh := lh) (ln := ln) (a0 := p5) (c := 95) hN (by rw [va_up_ne _ _ (by decide)]; exact hT7) (by rw [va_up_ne _ _ (by decide)]; exact hT8) htx hl40 hch (by rw [va_up_self]) (by omega) (by omega)) (fun zE F8 hq => ?_)
        obtain ⟨hzE, eF8⟩ := hq
        refine J_eqF (F2 := va_up F 42 (.inr (6, [.ref (ad 7), .int (iI ((tk ln p5 95 : Nat) : Int)), .int (iI (sFi ln : Int)), .int (iI (sAl ln : Int)), .int (iI (pl : Int)), .int (iI zs), .int (iI zz), .int (iI wv), .int (iI x8), .int (iI x9), .int (iI x10)]))) (eF8.trans (up_in0)) ?_
        refine J_ifeq (tgt := 137) d_S_parse_129 (by decide) ⟨by omega, by omega⟩ (fun c129 => ?_) (fun c129 => ?_)
        · refine J_eqF (F2 := va_up F 42 (.inr (6, [.ref (ad 7), .int (iI (p5 : Int)), .int (iI (sFi ln : Int)), .int (iI (sAl ln : Int)), .int (iI (pl : Int)), .int (iI zs), .int (iI zz), .int (iI wv), .int (iI x8), .int (iI x9), .int (iI x10)]))) (congrArg (fun qq => va_up F 42 (.inr (6, [.ref (ad 7), .int (iI qq), .int (iI (sFi ln : Int)), .int (iI (sAl ln : Int)), .int (iI (pl : Int)), .int (iI zs), .int (iI zz), .int (iI wv), .int (iI x8), .int (iI x9), .int (iI x10)]))) (by rw [tk_n (by omega)])) ?_
          refine J_iconst d_S_parse_137 ?_
          exact lab138 0 p5 (by unfold sPa; rw [hs5, if_neg (by omega)]) (by have h9 : sPa ln = 0 := (by unfold sPa; rw [hs5, if_neg (by omega)]); unfold s6; rw [h9, hs5, if_neg (by decide)]) (by omega)
        · refine J_eqF (F2 := va_up F 42 (.inr (6, [.ref (ad 7), .int (iI (((p5 + 1 : Nat)) : Int)), .int (iI (sFi ln : Int)), .int (iI (sAl ln : Int)), .int (iI (pl : Int)), .int (iI zs), .int (iI zz), .int (iI wv), .int (iI x8), .int (iI x9), .int (iI x10)]))) (congrArg (fun qq => va_up F 42 (.inr (6, [.ref (ad 7), .int (iI qq), .int (iI (sFi ln : Int)), .int (iI (sAl ln : Int)), .int (iI (pl : Int)), .int (iI zs), .int (iI zz), .int (iI wv), .int (iI x8), .int (iI x9), .int (iI x10)]))) (by rw [tk_y (by omega)])) ?_
          refine J_bipush d_S_parse_132 (i8_ok (by decide)) ?_
          refine J_goto (tgt := 138) d_S_parse_134 (by decide) ?_
          exact lab138 95 ((p5 + 1 : Nat)) (by unfold sPa; rw [hs5, if_pos (by omega)]; omega) (by have h9 : sPa ln = 95 := (by unfold sPa; rw [hs5, if_pos (by omega)]; omega); unfold s6; rw [h9, hs5, if_pos (by decide)]) (by omega)
      · refine J_eqF (F2 := va_up F 42 (.inr (6, [.ref (ad 7), .int (iI (((p5 + 1 : Nat)) : Int)), .int (iI (sFi ln : Int)), .int (iI (sAl ln : Int)), .int (iI (pl : Int)), .int (iI zs), .int (iI zz), .int (iI wv), .int (iI x8), .int (iI x9), .int (iI x10)]))) (congrArg (fun qq => va_up F 42 (.inr (6, [.ref (ad 7), .int (iI qq), .int (iI (sFi ln : Int)), .int (iI (sAl ln : Int)), .int (iI (pl : Int)), .int (iI zs), .int (iI zz), .int (iI wv), .int (iI x8), .int (iI x9), .int (iI x10)]))) (by rw [tk_y (by omega)])) ?_
        refine J_bipush d_S_parse_118 (i8_ok (by decide)) ?_
        refine J_goto (tgt := 138) d_S_parse_120 (by decide) ?_
        exact lab138 44 ((p5 + 1 : Nat)) (by unfold sPa; rw [hs5, if_pos (by omega)]; omega) (by have h9 : sPa ln = 44 := (by unfold sPa; rw [hs5, if_pos (by omega)]; omega); unfold s6; rw [h9, hs5, if_pos (by decide)]) (by omega)
    refine J_aload_n 0 d_S_parse_77 rfl rfl ?_
    refine gf_S_9 (by omega) (by rw [va_up_self]) rfl d_S_parse_78 ?_
    refine J_aload_n 0 d_S_parse_81 rfl rfl ?_
    refine gf_S_15 (by omega) (by rw [va_up_self]) rfl d_S_parse_82 ?_
    refine J_callVi cw_S_36 nh_T_at pn_T_at rfl rfl (by omega) (by rw [va_up_ne _ _ (by decide)]; exact hT7) (As := [.int (iI (p4 : Int))]) (rest := [.ref (ad 42)]) rfl (Nat.le_of_ble_eq_true rfl) ⟨by decide, by decide⟩ rfl ⟨by decide, by decide⟩ d_S_parse_85 (c_T_at hfl (k := 7) (w := ln) (hh := lh) (n := (p4 : Int)) (by omega) (by rw [va_up_ne _ _ (by decide)]; exact hT7) (by rw [va_up_ne _ _ (by decide)]; exact hT8) htx (by omega) ⟨by omega, by omega⟩) (fun ta1 F9 hq => ?_)
    obtain ⟨hta1, eF9⟩ := hq
    refine J_eqF eF9 ?_
    refine J_topi (r := tat ln (p4 : Int)) (congrArg iI hta1) ?_
    refine J_bipush d_S_parse_88 (i8_ok (by decide)) ?_
    refine J_if_icmpne (tgt := 97) d_S_parse_90 (by decide) ⟨by omega, by omega⟩ ⟨by omega, by omega⟩ (fun c90 => ?_) (fun c90 => ?_)
    · refine J_iconst d_S_parse_97 ?_
      refine J_aload_n 0 d_S_parse_98 rfl rfl ?_
      obtain ⟨⟨vW, qW⟩, htW⟩ : ∃ x, two2 ln 2 p4 (-1) = x := ⟨_, rfl⟩
      refine J_callVi cw_S_41 nh_S_parseNumber pn_S_parseNumber rfl rfl (by omega) (by rw [va_up_self]) (As := []) (rest := [.int (iI 0), .ref (ad 42)]) rfl (Nat.le_of_ble_eq_true rfl) ⟨by decide, by decide⟩ rfl ⟨by decide, by decide⟩ d_S_parse_99 (c_S_parseNumber hfl (lh := lh) (ln := ln) (a0 := p4) (pe := qW) (ve := vW) hN (by rw [va_up_ne _ _ (by decide)]; exact hT7) (by rw [va_up_ne _ _ (by decide)]; exact hT8) htx hl40 hch (by rw [va_up_self]) (by omega) htW) (fun ztW F10 hq => ?_)
      obtain ⟨hzW, hvbW, hqbW, eF10⟩ := hq
      refine J_eqF (F2 := va_up F 42 (.inr (6, [.ref (ad 7), .int (iI (qW : Int)), .int (iI (sFi ln : Int)), .int (iI (sAl ln : Int)), .int (iI (pl : Int)), .int (iI zs), .int (iI zz), .int (iI x7), .int (iI x8), .int (iI x9), .int (iI x10)]))) (eF10.trans (up_in0)) ?_
      refine J_topi (r := vW) (congrArg iI hzW) ?_
      refine J_callSi cw_S_45 nh_JMath_max pn_JMath_max rfl (As := [.int (iI 0), .int (iI vW)]) (rest := [.ref (ad 42)]) rfl (Nat.le_of_ble_eq_true rfl) ⟨by decide, by decide⟩ rfl ⟨by decide, by decide⟩ d_S_parse_102 (c_JMath_max hfl (a := 0) (b := vW) ⟨by omega, by omega⟩ ⟨by omega, by omega⟩) (fun mx F11 hq => ?_)
      obtain ⟨hmx, eF11⟩ := hq
      refine J_eqF eF11 ?_
      have hmxb : 0 ≤ mx ∧ mx < 100 := by omega
      refine J_topi (r := (max 0 vW)) (congrArg iI hmx) ?_
      exact lab105 ((max 0 vW) : Int) qW (by unfold sWi; rw [hsp4, if_neg (by omega), htW]) (by unfold s5; rw [hsp4, if_neg (by omega), htW]) (by omega) (by omega)
    · refine J_iconst d_S_parse_93 ?_
      refine J_goto (tgt := 105) d_S_parse_94 (by decide) ?_
      exact lab105 (0 : Int) p4 (by unfold sWi; rw [hsp4, if_pos (by omega)]; decide) (by unfold s5; rw [hsp4, if_pos (by omega)]) (by omega) (by omega)
  refine J_aload_n 0 d_S_parse_10 rfl rfl ?_
  refine J_bipush d_S_parse_11 (i8_ok (by decide)) ?_
  refine J_callVi cw_S_22 nh_S_take pn_S_take rfl rfl (by omega) (by rw [va_up_self]) (As := [.int (iI 43)]) (rest := [.ref (ad 42)]) rfl (Nat.le_of_ble_eq_true rfl) ⟨by decide, by decide⟩ rfl ⟨by decide, by decide⟩ d_S_parse_13 (c_S_take hfl (lh := lh) (ln := ln) (a0 := p1) (c := 43) hN (by rw [va_up_ne _ _ (by decide)]; exact hT7) (by rw [va_up_ne _ _ (by decide)]; exact hT8) htx hl40 hch (by rw [va_up_self]) (by omega) (by omega)) (fun zA F12 hq => ?_)
  obtain ⟨hzA, eF12⟩ := hq
  refine J_eqF (F2 := va_up F 42 (.inr (6, [.ref (ad 7), .int (iI ((tk ln p1 43 : Nat) : Int)), .int (iI (sFi ln : Int)), .int (iI (sAl ln : Int)), .int (iI x4), .int (iI x5), .int (iI x6), .int (iI x7), .int (iI x8), .int (iI x9), .int (iI x10)]))) (eF12.trans (up_in0)) ?_
  refine J_ifeq (tgt := 24) d_S_parse_16 (by decide) ⟨by omega, by omega⟩ (fun c16 => ?_) (fun c16 => ?_)
  · refine J_eqF (F2 := va_up F 42 (.inr (6, [.ref (ad 7), .int (iI (p1 : Int)), .int (iI (sFi ln : Int)), .int (iI (sAl ln : Int)), .int (iI x4), .int (iI x5), .int (iI x6), .int (iI x7), .int (iI x8), .int (iI x9), .int (iI x10)]))) (congrArg (fun qq => va_up F 42 (.inr (6, [.ref (ad 7), .int (iI qq), .int (iI (sFi ln : Int)), .int (iI (sAl ln : Int)), .int (iI x4), .int (iI x5), .int (iI x6), .int (iI x7), .int (iI x8), .int (iI x9), .int (iI x10)]))) (by rw [tk_n (by omega)])) ?_
    refine J_aload_n 0 d_S_parse_24 rfl rfl ?_
    refine J_bipush d_S_parse_25 (i8_ok (by decide)) ?_
    refine J_callVi cw_S_22 nh_S_take pn_S_take rfl rfl (by omega) (by rw [va_up_self]) (As := [.int (iI 45)]) (rest := [.ref (ad 42)]) rfl (Nat.le_of_ble_eq_true rfl) ⟨by decide, by decide⟩ rfl ⟨by decide, by decide⟩ d_S_parse_27 (c_S_take hfl (lh := lh) (ln := ln) (a0 := p1) (c := 45) hN (by rw [va_up_ne _ _ (by decide)]; exact hT7) (by rw [va_up_ne _ _ (by decide)]; exact hT8) htx hl40 hch (by rw [va_up_self]) (by omega) (by omega)) (fun zB F13 hq => ?_)
    obtain ⟨hzB, eF13⟩ := hq
    refine J_eqF (F2 := va_up F 42 (.inr (6, [.ref (ad 7), .int (iI ((tk ln p1 45 : Nat) : Int)), .int (iI (sFi ln : Int)), .int (iI (sAl ln : Int)), .int (iI x4), .int (iI x5), .int (iI x6), .int (iI x7), .int (iI x8), .int (iI x9), .int (iI x10)]))) (eF13.trans (up_in0)) ?_
    refine J_ifeq (tgt := 38) d_S_parse_30 (by decide) ⟨by omega, by omega⟩ (fun c30 => ?_) (fun c30 => ?_)
    · refine J_eqF (F2 := va_up F 42 (.inr (6, [.ref (ad 7), .int (iI (p1 : Int)), .int (iI (sFi ln : Int)), .int (iI (sAl ln : Int)), .int (iI x4), .int (iI x5), .int (iI x6), .int (iI x7), .int (iI x8), .int (iI x9), .int (iI x10)]))) (congrArg (fun qq => va_up F 42 (.inr (6, [.ref (ad 7), .int (iI qq), .int (iI (sFi ln : Int)), .int (iI (sAl ln : Int)), .int (iI x4), .int (iI x5), .int (iI x6), .int (iI x7), .int (iI x8), .int (iI x9), .int (iI x10)]))) (by rw [tk_n (by omega)])) ?_
      refine J_aload_n 0 d_S_parse_38 rfl rfl ?_
      refine J_bipush d_S_parse_39 (i8_ok (by decide)) ?_
      refine J_callVi cw_S_22 nh_S_take pn_S_take rfl rfl (by omega) (by rw [va_up_self]) (As := [.int (iI 32)]) (rest := [.ref (ad 42)]) rfl (Nat.le_of_ble_eq_true rfl) ⟨by decide, by decide⟩ rfl ⟨by decide, by decide⟩ d_S_parse_41 (c_S_take hfl (lh := lh) (ln := ln) (a0 := p1) (c := 32) hN (by rw [va_up_ne _ _ (by decide)]; exact hT7) (by rw [va_up_ne _ _ (by decide)]; exact hT8) htx hl40 hch (by rw [va_up_self]) (by omega) (by omega)) (fun zC F14 hq => ?_)
      obtain ⟨hzC, eF14⟩ := hq
      refine J_eqF (F2 := va_up F 42 (.inr (6, [.ref (ad 7), .int (iI ((tk ln p1 32 : Nat) : Int)), .int (iI (sFi ln : Int)), .int (iI (sAl ln : Int)), .int (iI x4), .int (iI x5), .int (iI x6), .int (iI x7), .int (iI x8), .int (iI x9), .int (iI x10)]))) (eF14.trans (up_in0)) ?_
      refine J_ifeq (tgt := 52) d_S_parse_44 (by decide) ⟨by omega, by omega⟩ (fun c44 => ?_) (fun c44 => ?_)
      · refine J_eqF (F2 := va_up F 42 (.inr (6, [.ref (ad 7), .int (iI (p1 : Int)), .int (iI (sFi ln : Int)), .int (iI (sAl ln : Int)), .int (iI x4), .int (iI x5), .int (iI x6), .int (iI x7), .int (iI x8), .int (iI x9), .int (iI x10)]))) (congrArg (fun qq => va_up F 42 (.inr (6, [.ref (ad 7), .int (iI qq), .int (iI (sFi ln : Int)), .int (iI (sAl ln : Int)), .int (iI x4), .int (iI x5), .int (iI x6), .int (iI x7), .int (iI x8), .int (iI x9), .int (iI x10)]))) (by rw [tk_n (by omega)])) ?_
        refine J_iconst d_S_parse_52 ?_
        exact lab53 0 p1 (by unfold sPl; rw [hs1, if_neg (by omega)]) (by unfold s2; rw [show sPl ln = 0 from (by unfold sPl; rw [hs1, if_neg (by omega)]), hs1, if_neg (by decide)]) (by omega) (by omega)
      · refine J_eqF (F2 := va_up F 42 (.inr (6, [.ref (ad 7), .int (iI (((p1 + 1 : Nat)) : Int)), .int (iI (sFi ln : Int)), .int (iI (sAl ln : Int)), .int (iI x4), .int (iI x5), .int (iI x6), .int (iI x7), .int (iI x8), .int (iI x9), .int (iI x10)]))) (congrArg (fun qq => va_up F 42 (.inr (6, [.ref (ad 7), .int (iI qq), .int (iI (sFi ln : Int)), .int (iI (sAl ln : Int)), .int (iI x4), .int (iI x5), .int (iI x6), .int (iI x7), .int (iI x8), .int (iI x9), .int (iI x10)]))) (by rw [tk_y (by omega)])) ?_
        refine J_bipush d_S_parse_47 (i8_ok (by decide)) ?_
        refine J_goto (tgt := 53) d_S_parse_49 (by decide) ?_
        exact lab53 32 ((p1 + 1 : Nat)) (by unfold sPl; rw [hs1, if_pos (by omega)]; omega) (by unfold s2; rw [show sPl ln = 32 from (by unfold sPl; rw [hs1, if_pos (by omega)]; omega), hs1, if_pos (by decide)]) (by omega) (by omega)
    · refine J_eqF (F2 := va_up F 42 (.inr (6, [.ref (ad 7), .int (iI (((p1 + 1 : Nat)) : Int)), .int (iI (sFi ln : Int)), .int (iI (sAl ln : Int)), .int (iI x4), .int (iI x5), .int (iI x6), .int (iI x7), .int (iI x8), .int (iI x9), .int (iI x10)]))) (congrArg (fun qq => va_up F 42 (.inr (6, [.ref (ad 7), .int (iI qq), .int (iI (sFi ln : Int)), .int (iI (sAl ln : Int)), .int (iI x4), .int (iI x5), .int (iI x6), .int (iI x7), .int (iI x8), .int (iI x9), .int (iI x10)]))) (by rw [tk_y (by omega)])) ?_
      refine J_bipush d_S_parse_33 (i8_ok (by decide)) ?_
      refine J_goto (tgt := 53) d_S_parse_35 (by decide) ?_
      exact lab53 45 ((p1 + 1 : Nat)) (by unfold sPl; rw [hs1, if_pos (by omega)]; omega) (by unfold s2; rw [show sPl ln = 45 from (by unfold sPl; rw [hs1, if_pos (by omega)]; omega), hs1, if_pos (by decide)]) (by omega) (by omega)
  · refine J_eqF (F2 := va_up F 42 (.inr (6, [.ref (ad 7), .int (iI (((p1 + 1 : Nat)) : Int)), .int (iI (sFi ln : Int)), .int (iI (sAl ln : Int)), .int (iI x4), .int (iI x5), .int (iI x6), .int (iI x7), .int (iI x8), .int (iI x9), .int (iI x10)]))) (congrArg (fun qq => va_up F 42 (.inr (6, [.ref (ad 7), .int (iI qq), .int (iI (sFi ln : Int)), .int (iI (sAl ln : Int)), .int (iI x4), .int (iI x5), .int (iI x6), .int (iI x7), .int (iI x8), .int (iI x9), .int (iI x10)]))) (by rw [tk_y (by omega)])) ?_
    refine J_bipush d_S_parse_19 (i8_ok (by decide)) ?_
    refine J_goto (tgt := 53) d_S_parse_21 (by decide) ?_
    exact lab53 43 ((p1 + 1 : Nat)) (by unfold sPl; rw [hs1, if_pos (by omega)]; omega) (by unfold s2; rw [show sPl ln = 43 from (by unfold sPl; rw [hs1, if_pos (by omega)]; omega), hs1, if_pos (by decide)]) (by omega) (by omega)
set_option maxRecDepth 100000 in
set_option maxHeartbeats 4000000 in
theorem c_S_suits {l : Launch} (hfl : l.flags = flags0) {D : va_G} {g : Nat → ClassId} {ad : Nat → Nat} {N : Nat} {F : Nat → va_E} {ln : List Nat} {x1 x7 kd : Int}
    (hN : 109 ≤ N) (hS : F 42 = oS ad x1 (sFi ln : Int) (sAl ln : Int) (sPl ln : Int) (sSh ln) (sZe ln) x7 (sPa ln : Int) (sPr ln) (sTc ln : Int)) (hkd : 0 ≤ kd ∧ kd ≤ 2) :
    JC l y_S_suits b_S_suits 3 (Option.some Jvm.ClassFile.FieldType.boolean) rm_S_suits (0, 0) D jCl (jTys g) ad N F [.ref (ad 42), .int (iI kd)] (ji ad N (fun z F' => ((z = 1 ∧ spK ln kd) ∨ (z = 0 ∧ ¬ spK ln kd)) ∧ F' = va_up F 42 (oS ad x1 (sFi ln : Int) (sAl ln : Int) (sPl ln : Int) (sSh ln) (sZe ln) x7 (sPa ln : Int) (sPr ln) (sTy ln kd : Int)))) := by
  have hTB := sTy_b (w := ln) (kd := kd)
  have hTl := sTy_l (w := ln) (kd := kd)
  have hTc : sTc ln ≤ 126 ∨ sTc ln = 0 := by
    have h9 : sTc ln = 0 ∨ tyB (sTc ln) := by
      unfold sTc
      by_cases h : tyB (chr ln (s8 ln))
      · rw [if_pos h]; exact Or.inr h
      · rw [if_neg h]; exact Or.inl rfl
    unfold tyB at h9; omega
  have hPr := sPr_b (w := ln)
  have hPa := sPa_b (w := ln)
  replace hTB : hold _ := hTB
  refine JC.go hfl (own := "NumberTower$Spec") (lv := [(0, .ref (ad 42)), (1, .int (iI kd))]) rfl (by decide +kernel) (Nat.le_of_ble_eq_true rfl) rfl (fun A => ?_)
  have lab22 : ∀ (ty : Nat) (hty : sTy ln kd = ty) (htyb : ty ≤ 126) , J l rm_S_suits (0, 0) "NumberTower$Spec" b_S_suits 3 (Option.some Jvm.ClassFile.FieldType.boolean) D jCl (jTys g) A (fun _ me => me.name = y_S_suits.name) (ji ad N (fun z F' => ((z = 1 ∧ spK ln kd) ∨ (z = 0 ∧ ¬ spK ln kd)) ∧ F' = va_up F 42 (oS ad x1 (sFi ln : Int) (sAl ln : Int) (sPl ln : Int) (sSh ln) (sZe ln) x7 (sPa ln : Int) (sPr ln) (sTy ln kd : Int)))) ad N 0 0 22 [(0, .ref (ad 42)), (1, .int (iI kd))] [] (va_up F 42 (.inr (6, [.ref (ad 7), .int (iI x1), .int (iI (sFi ln : Int)), .int (iI (sAl ln : Int)), .int (iI (sPl ln : Int)), .int (iI (sSh ln)), .int (iI (sZe ln)), .int (iI x7), .int (iI (sPa ln : Int)), .int (iI (sPr ln)), .int (iI (ty : Int))]))) := by
    intro ty hty htyb
    have lab54 : ∀ (bz : Int) (hbz : hold ((bz = 1 ∧ spB ty) ∨ (bz = 0 ∧ ¬ spB ty))) (hbz1 : bz = 0 ∨ bz = 1) , J l rm_S_suits (0, 0) "NumberTower$Spec" b_S_suits 3 (Option.some Jvm.ClassFile.FieldType.boolean) D jCl (jTys g) A (fun _ me => me.name = y_S_suits.name) (ji ad N (fun z F' => ((z = 1 ∧ spK ln kd) ∨ (z = 0 ∧ ¬ spK ln kd)) ∧ F' = va_up F 42 (oS ad x1 (sFi ln : Int) (sAl ln : Int) (sPl ln : Int) (sSh ln) (sZe ln) x7 (sPa ln : Int) (sPr ln) (sTy ln kd : Int)))) ad N 0 0 54 [(0, .ref (ad 42)), (1, .int (iI kd))] [.int (iI bz)] (va_up F 42 (.inr (6, [.ref (ad 7), .int (iI x1), .int (iI (sFi ln : Int)), .int (iI (sAl ln : Int)), .int (iI (sPl ln : Int)), .int (iI (sSh ln)), .int (iI (sZe ln)), .int (iI x7), .int (iI (sPa ln : Int)), .int (iI (sPr ln)), .int (iI (ty : Int))]))) := by
      intro bz hbz hbz1
      refine J_istore_n (lv' := [(2, .int (iI bz)), (0, .ref (ad 42)), (1, .int (iI kd))]) d_S_suits_54 rfl (by decide) rfl ?_
      refine J_aload_n 1 d_S_suits_55 rfl rfl ?_
      refine gf_S_75 (by omega) (by rw [va_up_self]) rfl d_S_suits_56 ?_
      refine J_bipush d_S_suits_59 (i8_ok (by decide)) ?_
      refine J_if_icmpeq (tgt := 70) d_S_suits_61 (by decide) ⟨by omega, by omega⟩ ⟨by omega, by omega⟩ (fun c61 => ?_) (fun c61 => ?_)
      · refine J_iload_n 2 d_S_suits_70 rfl rfl ?_
        refine J_ifne (tgt := 99) d_S_suits_71 (by decide) ⟨by omega, by omega⟩ (fun c71 => ?_) (fun c71 => ?_)
        · refine J_iconst d_S_suits_99 ?_
          refine J_iret rfl (nb01 (by omega)).1 d_S_suits_100 ⟨by decide, by decide⟩ ?_
          refine ⟨_, rfl, rfl, rfl, Or.inr ⟨rfl, ?_⟩, by rw [hty]⟩
          unfold spK
          rw [hty]
          intro q
          rcases q with q | q
          · refine q ?_
            rcases (show _ ∨ _ from hbz) with w | w
            · exact Or.inl w.2
            · exact Or.inr (by omega)
          · obtain ⟨q1, q2, q3⟩ := q
            rcases (show _ ∨ _ from hbz) with w | w
            · have := w.2; unfold spB at this; omega
            · omega
        · refine J_aload_n 1 d_S_suits_74 rfl rfl ?_
          refine gf_S_57 (by omega) (by rw [va_up_self]) rfl d_S_suits_75 ?_
          refine J_iconst d_S_suits_78 ?_
          refine J_if_icmpne (tgt := 99) d_S_suits_79 (by decide) ⟨by omega, by omega⟩ ⟨by omega, by omega⟩ (fun c79 => ?_) (fun c79 => ?_)
          · refine J_iconst d_S_suits_99 ?_
            refine J_iret rfl (nb01 (by omega)).1 d_S_suits_100 ⟨by decide, by decide⟩ ?_
            refine ⟨_, rfl, rfl, rfl, Or.inr ⟨rfl, ?_⟩, by rw [hty]⟩
            unfold spK
            rw [hty]
            intro q
            rcases q with q | q
            · refine q ?_
              rcases (show _ ∨ _ from hbz) with w | w
              · exact Or.inl w.2
              · exact Or.inr (by omega)
            · obtain ⟨q1, q2, q3⟩ := q
              rcases (show _ ∨ _ from hbz) with w | w
              · have := w.2; unfold spB at this; omega
              · omega
          · refine J_iload_n 0 d_S_suits_82 rfl rfl ?_
            refine J_ifeq (tgt := 95) d_S_suits_83 (by decide) ⟨by omega, by omega⟩ (fun c83 => ?_) (fun c83 => ?_)
            · refine J_iconst d_S_suits_95 ?_
              refine J_goto (tgt := 100) d_S_suits_96 (by decide) ?_
              refine J_iret rfl (nb01 (by omega)).1 d_S_suits_100 ⟨by decide, by decide⟩ ?_
              refine ⟨_, rfl, rfl, rfl, Or.inl ⟨rfl, Or.inr ⟨by omega, by omega, ?_⟩⟩, by rw [hty]⟩
              rw [hty]
              left
              omega
            · refine J_aload_n 1 d_S_suits_86 rfl rfl ?_
              refine gf_S_54 (by omega) (by rw [va_up_self]) rfl d_S_suits_87 ?_
              refine J_bipush d_S_suits_90 (i8_ok (by decide)) ?_
              refine J_if_icmpeq (tgt := 99) d_S_suits_92 (by decide) ⟨by omega, by omega⟩ ⟨by omega, by omega⟩ (fun c92 => ?_) (fun c92 => ?_)
              · refine J_iconst d_S_suits_99 ?_
                refine J_iret rfl (nb01 (by omega)).1 d_S_suits_100 ⟨by decide, by decide⟩ ?_
                refine ⟨_, rfl, rfl, rfl, Or.inr ⟨rfl, ?_⟩, by rw [hty]⟩
                unfold spK
                rw [hty]
                intro q
                rcases q with q | q
                · refine q ?_
                  rcases (show _ ∨ _ from hbz) with w | w
                  · exact Or.inl w.2
                  · exact Or.inr (by omega)
                · obtain ⟨q1, q2, q3⟩ := q
                  rcases (show _ ∨ _ from hbz) with w | w
                  · have := w.2; unfold spB at this; omega
                  · omega
              · refine J_iconst d_S_suits_95 ?_
                refine J_goto (tgt := 100) d_S_suits_96 (by decide) ?_
                refine J_iret rfl (nb01 (by omega)).1 d_S_suits_100 ⟨by decide, by decide⟩ ?_
                refine ⟨_, rfl, rfl, rfl, Or.inl ⟨rfl, Or.inr ⟨by omega, by omega, ?_⟩⟩, by rw [hty]⟩
                rw [hty]
                right; omega
      · refine J_iload_n 0 d_S_suits_64 rfl rfl ?_
        refine J_ifne (tgt := 70) d_S_suits_65 (by decide) ⟨by omega, by omega⟩ (fun c65 => ?_) (fun c65 => ?_)
        · refine J_iload_n 2 d_S_suits_70 rfl rfl ?_
          refine J_ifne (tgt := 99) d_S_suits_71 (by decide) ⟨by omega, by omega⟩ (fun c71 => ?_) (fun c71 => ?_)
          · refine J_iconst d_S_suits_99 ?_
            refine J_iret rfl (nb01 (by omega)).1 d_S_suits_100 ⟨by decide, by decide⟩ ?_
            refine ⟨_, rfl, rfl, rfl, Or.inr ⟨rfl, ?_⟩, by rw [hty]⟩
            unfold spK
            rw [hty]
            intro q
            rcases q with q | q
            · refine q ?_
              rcases (show _ ∨ _ from hbz) with w | w
              · exact Or.inl w.2
              · exact Or.inr (by omega)
            · obtain ⟨q1, q2, q3⟩ := q
              rcases (show _ ∨ _ from hbz) with w | w
              · have := w.2; unfold spB at this; omega
              · omega
          · refine J_aload_n 1 d_S_suits_74 rfl rfl ?_
            refine gf_S_57 (by omega) (by rw [va_up_self]) rfl d_S_suits_75 ?_
            refine J_iconst d_S_suits_78 ?_
            refine J_if_icmpne (tgt := 99) d_S_suits_79 (by decide) ⟨by omega, by omega⟩ ⟨by omega, by omega⟩ (fun c79 => ?_) (fun c79 => ?_)
            · refine J_iconst d_S_suits_99 ?_
              refine J_iret rfl (nb01 (by omega)).1 d_S_suits_100 ⟨by decide, by decide⟩ ?_
              refine ⟨_, rfl, rfl, rfl, Or.inr ⟨rfl, ?_⟩, by rw [hty]⟩
              unfold spK
              rw [hty]
              intro q
              rcases q with q | q
              · refine q ?_
                rcases (show _ ∨ _ from hbz) with w | w
                · exact Or.inl w.2
                · exact Or.inr (by omega)
              · obtain ⟨q1, q2, q3⟩ := q
                rcases (show _ ∨ _ from hbz) with w | w
                · have := w.2; unfold spB at this; omega
                · omega
            · refine J_iload_n 0 d_S_suits_82 rfl rfl ?_
              refine J_ifeq (tgt := 95) d_S_suits_83 (by decide) ⟨by omega, by omega⟩ (fun c83 => ?_) (fun c83 => ?_)
              · refine J_iconst d_S_suits_95 ?_
                refine J_goto (tgt := 100) d_S_suits_96 (by decide) ?_
                refine J_iret rfl (nb01 (by omega)).1 d_S_suits_100 ⟨by decide, by decide⟩ ?_
                refine ⟨_, rfl, rfl, rfl, Or.inl ⟨rfl, Or.inr ⟨by omega, by omega, ?_⟩⟩, by rw [hty]⟩
                rw [hty]
                left
                omega
              · refine J_aload_n 1 d_S_suits_86 rfl rfl ?_
                refine gf_S_54 (by omega) (by rw [va_up_self]) rfl d_S_suits_87 ?_
                refine J_bipush d_S_suits_90 (i8_ok (by decide)) ?_
                refine J_if_icmpeq (tgt := 99) d_S_suits_92 (by decide) ⟨by omega, by omega⟩ ⟨by omega, by omega⟩ (fun c92 => ?_) (fun c92 => ?_)
                · refine J_iconst d_S_suits_99 ?_
                  refine J_iret rfl (nb01 (by omega)).1 d_S_suits_100 ⟨by decide, by decide⟩ ?_
                  refine ⟨_, rfl, rfl, rfl, Or.inr ⟨rfl, ?_⟩, by rw [hty]⟩
                  unfold spK
                  rw [hty]
                  intro q
                  rcases q with q | q
                  · refine q ?_
                    rcases (show _ ∨ _ from hbz) with w | w
                    · exact Or.inl w.2
                    · exact Or.inr (by omega)
                  · obtain ⟨q1, q2, q3⟩ := q
                    rcases (show _ ∨ _ from hbz) with w | w
                    · have := w.2; unfold spB at this; omega
                    · omega
                · refine J_iconst d_S_suits_95 ?_
                  refine J_goto (tgt := 100) d_S_suits_96 (by decide) ?_
                  refine J_iret rfl (nb01 (by omega)).1 d_S_suits_100 ⟨by decide, by decide⟩ ?_
                  refine ⟨_, rfl, rfl, rfl, Or.inl ⟨rfl, Or.inr ⟨by omega, by omega, ?_⟩⟩, by rw [hty]⟩
                  rw [hty]
                  right; omega
        · refine J_iconst d_S_suits_68 ?_
          refine J_iret rfl (nb01 (by omega)).1 d_S_suits_69 ⟨by decide, by decide⟩ ?_
          refine ⟨_, rfl, rfl, rfl, Or.inl ⟨rfl, Or.inl ?_⟩, by rw [hty]⟩
          rw [hty]
          intro q
          rcases (show _ ∨ _ from hbz) with w | w
          · omega
          · rcases q with q | q; exact w.2 q; omega
    refine J_aload_n 0 d_S_suits_22 rfl rfl ?_
    refine gf_S_75 (by omega) (by rw [va_up_self]) rfl d_S_suits_23 ?_
    refine J_bipush d_S_suits_26 (i8_ok (by decide)) ?_
    refine J_if_icmpeq (tgt := 49) d_S_suits_28 (by decide) ⟨by omega, by omega⟩ ⟨by omega, by omega⟩ (fun c28 => ?_) (fun c28 => ?_)
    · refine J_iconst d_S_suits_49 ?_
      refine J_goto (tgt := 54) d_S_suits_50 (by decide) ?_
      exact lab54 (1 : Int) (Or.inl ⟨rfl, by unfold spB; omega⟩) (by omega)
    · refine J_aload_n 0 d_S_suits_31 rfl rfl ?_
      refine gf_S_75 (by omega) (by rw [va_up_self]) rfl d_S_suits_32 ?_
      refine J_bipush d_S_suits_35 (i8_ok (by decide)) ?_
      refine J_if_icmpeq (tgt := 49) d_S_suits_37 (by decide) ⟨by omega, by omega⟩ ⟨by omega, by omega⟩ (fun c37 => ?_) (fun c37 => ?_)
      · refine J_iconst d_S_suits_49 ?_
        refine J_goto (tgt := 54) d_S_suits_50 (by decide) ?_
        exact lab54 (1 : Int) (Or.inl ⟨rfl, by unfold spB; omega⟩) (by omega)
      · refine J_aload_n 0 d_S_suits_40 rfl rfl ?_
        refine gf_S_75 (by omega) (by rw [va_up_self]) rfl d_S_suits_41 ?_
        refine J_bipush d_S_suits_44 (i8_ok (by decide)) ?_
        refine J_if_icmpne (tgt := 53) d_S_suits_46 (by decide) ⟨by omega, by omega⟩ ⟨by omega, by omega⟩ (fun c46 => ?_) (fun c46 => ?_)
        · refine J_iconst d_S_suits_53 ?_
          exact lab54 (0 : Int) (Or.inr ⟨rfl, by unfold spB; omega⟩) (by omega)
        · refine J_iconst d_S_suits_49 ?_
          refine J_goto (tgt := 54) d_S_suits_50 (by decide) ?_
          exact lab54 (1 : Int) (Or.inl ⟨rfl, by unfold spB; omega⟩) (by omega)
  refine J_aload_n 0 d_S_suits_0 rfl rfl ?_
  refine gf_S_75 (by omega) hS rfl d_S_suits_1 ?_
  refine J_ifne (tgt := 22) d_S_suits_4 (by decide) ⟨by omega, by omega⟩ (fun c4 => ?_) (fun c4 => ?_)
  · refine J_eqF (F2 := va_up F 42 (.inr (6, [.ref (ad 7), .int (iI x1), .int (iI (sFi ln : Int)), .int (iI (sAl ln : Int)), .int (iI (sPl ln : Int)), .int (iI (sSh ln)), .int (iI (sZe ln)), .int (iI x7), .int (iI (sPa ln : Int)), .int (iI (sPr ln)), .int (iI (sTc ln : Int))]))) (up_same1 hS) ?_
    exact lab22 (sTc ln) (by unfold sTy; rw [if_pos (by omega)]) (by omega)
  · refine J_aload_n 0 d_S_suits_7 rfl rfl ?_
    refine J_iload_n 1 d_S_suits_8 rfl rfl ?_
    refine J_ifne (tgt := 17) d_S_suits_9 (by decide) ⟨by omega, by omega⟩ (fun c9 => ?_) (fun c9 => ?_)
    · refine J_bipush d_S_suits_17 (i8_ok (by decide)) ?_
      refine pf_S_75 (by omega) hS (Nat.le_of_ble_eq_true rfl) d_S_suits_19 ?_
      refine J_eqF (F2 := va_up F 42 (.inr (6, [.ref (ad 7), .int (iI x1), .int (iI (sFi ln : Int)), .int (iI (sAl ln : Int)), .int (iI (sPl ln : Int)), .int (iI (sSh ln)), .int (iI (sZe ln)), .int (iI x7), .int (iI (sPa ln : Int)), .int (iI (sPr ln)), .int (iI 103)]))) rfl ?_
      exact lab22 103 (by unfold sTy; rw [if_neg (by omega), if_neg (by omega)]) (by omega)
    · refine J_bipush d_S_suits_12 (i8_ok (by decide)) ?_
      refine J_goto (tgt := 19) d_S_suits_14 (by decide) ?_
      refine pf_S_75 (by omega) hS (Nat.le_of_ble_eq_true rfl) d_S_suits_19 ?_
      refine J_eqF (F2 := va_up F 42 (.inr (6, [.ref (ad 7), .int (iI x1), .int (iI (sFi ln : Int)), .int (iI (sAl ln : Int)), .int (iI (sPl ln : Int)), .int (iI (sSh ln)), .int (iI (sZe ln)), .int (iI x7), .int (iI (sPa ln : Int)), .int (iI (sPr ln)), .int (iI 100)]))) rfl ?_
      exact lab22 100 (by unfold sTy; rw [if_neg (by omega), if_pos (by omega)]) (by omega)
