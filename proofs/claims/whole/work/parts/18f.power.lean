/-! the class: power -/

/-- what a storing operation of the class may end in, by a relation -/
abbrev QXp (ad : Nat → Nat) (N : Nat) (g : Nat → ClassId) (R : Nat → Vn) (ln sh : List Nat) (to : Int) (P : Sum Int Vn → Prop) (F : Nat → va_E) : JQ :=
  jix ad N (fun z F' => ∃ w, P (.inr w) ∧ z = w.1 ∧ cst ad g (va_up R to.toNat w) ln sh F' ∧ offC F F') (fun k F' => P (.inl (k : Int)) ∧ cst ad g R ln sh F' ∧ offC F F')
set_option maxRecDepth 100000 in
set_option maxHeartbeats 4000000 in
theorem c_X_power {l : Launch} (hfl : l.flags = flags0) {D : va_G} {g : Nat → ClassId} {ad : Nat → Nat} {N : Nat} {F : Nat → va_E} {R : Nat → Vn} {ln sh : List Nat} {x y m to : Int}
    (hN : 109 ≤ N) (hC : cst ad g R ln sh F) (hok : ∀ r, r < 8 → okv (R r)) (hx : inI x) (hy : inI y) (hm : inI m) (hto : inI to) :
    JC l y_X_power b_X_power 9 (Option.some Jvm.ClassFile.FieldType.int) rm_X_power (0, 0) D jCl (jTys g) ad N F [.ref (ad 0), .int (iI x), .int (iI y), .int (iI m), .int (iI to)] (QXp ad N g R ln sh to (powR (regV R x) (regV R y) (regV R m) to) F) := by
  obtain ⟨F0, W, K, S, hS, hV, hFc⟩ := hC
  have hS0 := hS
  obtain ⟨hX0, ⟨rf, hX1, hrf⟩, hDk, ⟨hl7, hT7, hln, hA7, tt7⟩, ⟨hl40, hch⟩, ⟨ra, rt, hRd⟩, ⟨x1, x2, x3, x4, x5, x6, x7, x8, x9, x10, hSp⟩, ⟨ex, hPn⟩, ⟨hl44, hT44, hsh, hA44, tt44⟩, ⟨wH, hl46, hT46, hH, hA46, tt46⟩, ⟨wB, hl48, hT48, hB, hA48, tt48⟩, ⟨wD, hl50, hT50, hD, hA50, tt50⟩⟩ := hS0
  have hW := hV.1
  obtain ⟨p1, k1, s1, u1, d1, hpA1, hpU1, hp12, hu1, hd1, hk1, hs1, hr1, hz1, hkV1, hreg1⟩ := cV_at hV hok x
  have hpL1 := (isU_1 hpU1).1
  replace hreg1 : hold _ := hreg1
  replace hz1 : hold _ := hz1
  obtain ⟨p2, k2, s2, u2, d2, hpA2, hpU2, hp22, hu2, hd2, hk2, hs2, hr2, hz2, hkV2, hreg2⟩ := cV_at hV hok y
  have hpL2 := (isU_1 hpU2).1
  replace hreg2 : hold _ := hreg2
  replace hz2 : hold _ := hz2
  obtain ⟨p3, k3, s3, u3, d3, hpA3, hpU3, hp32, hu3, hd3, hk3, hs3, hr3, hz3, hkV3, hreg3⟩ := cV_at hV hok m
  have hpL3 := (isU_1 hpU3).1
  replace hreg3 : hold _ := hreg3
  replace hz3 : hold _ := hz3
  obtain ⟨v, hv⟩ : ∃ v : Int, s2 * (u2 : Int) = v := ⟨_, rfl⟩
  have hz2 := hz2
  unfold hold at hz2
  refine JC.go hfl (own := "NumberTower") (lv := [(0, .ref (ad 0)), (1, .int (iI x)), (2, .int (iI y)), (3, .int (iI m)), (4, .int (iI to))]) rfl (by decide +kernel) (Nat.le_of_ble_eq_true rfl) rfl (fun A => ?_)
  refine J_eqF (F2 := cF ad g F0 W K S) hFc ?_
  refine J_aload_n 0 d_X_power_0 rfl rfl ?_
  refine J_iload_n 1 d_X_power_1 rfl rfl ?_
  refine J_callVr cw_X_121 nh_X_numberAt pn_X_numberAt rfl rfl (by omega) ((cF_0 (by decide)).trans hX0) (As := [.int (iI x)]) (rest := []) rfl (Nat.le_of_ble_eq_true rfl) ⟨by decide, by decide⟩ rfl ⟨by decide, by decide⟩ d_X_power_2 (c_X_numberAt hfl (F0 := F0) (W := W) (K := K) (S := S) (r := x) (p := p1) hN hW (hX0) (hX1) hrf (by omega) hpA1) (fun zr F1 hq => ?_)
  obtain ⟨rfl, eF1⟩ := hq
  refine J_eqF eF1 ?_
  refine J_astore (lv' := [(5, .ref (ad p1)), (0, .ref (ad 0)), (1, .int (iI x)), (2, .int (iI y)), (3, .int (iI m)), (4, .int (iI to))]) d_X_power_5 (by decide) rfl ?_
  refine J_aload_n 1 d_X_power_7 rfl rfl ?_
  refine J_iload_n 3 d_X_power_8 rfl rfl ?_
  refine J_callVr cw_X_121 nh_X_numberAt pn_X_numberAt rfl rfl (by omega) ((cF_0 (by decide)).trans hX0) (As := [.int (iI y)]) (rest := []) rfl (Nat.le_of_ble_eq_true rfl) ⟨by decide, by decide⟩ rfl ⟨by decide, by decide⟩ d_X_power_9 (c_X_numberAt hfl (F0 := F0) (W := W) (K := K) (S := S) (r := y) (p := p2) hN hW (hX0) (hX1) hrf (by omega) hpA2) (fun zr F2 hq => ?_)
  obtain ⟨rfl, eF2⟩ := hq
  refine J_eqF eF2 ?_
  refine J_astore (lv' := [(6, .ref (ad p2)), (5, .ref (ad p1)), (0, .ref (ad 0)), (1, .int (iI x)), (2, .int (iI y)), (3, .int (iI m)), (4, .int (iI to))]) d_X_power_12 (by decide) rfl ?_
  refine J_aload_n 2 d_X_power_14 rfl rfl ?_
  refine J_iload_n 5 d_X_power_15 rfl rfl ?_
  refine J_callVr cw_X_121 nh_X_numberAt pn_X_numberAt rfl rfl (by omega) ((cF_0 (by decide)).trans hX0) (As := [.int (iI m)]) (rest := []) rfl (Nat.le_of_ble_eq_true rfl) ⟨by decide, by decide⟩ rfl ⟨by decide, by decide⟩ d_X_power_16 (c_X_numberAt hfl (F0 := F0) (W := W) (K := K) (S := S) (r := m) (p := p3) hN hW (hX0) (hX1) hrf (by omega) hpA3) (fun zr F3 hq => ?_)
  obtain ⟨rfl, eF3⟩ := hq
  refine J_eqF eF3 ?_
  refine J_astore (lv' := [(7, .ref (ad p3)), (6, .ref (ad p2)), (5, .ref (ad p1)), (0, .ref (ad 0)), (1, .int (iI x)), (2, .int (iI y)), (3, .int (iI m)), (4, .int (iI to))]) d_X_power_19 (by decide) rfl ?_
  have lab42 : ∀ (bz : Int) (hbz : (bz = 1 ∧ k1 = 0 ∧ k3 = 0) ∨ (bz = 0 ∧ ¬(k1 = 0 ∧ k3 = 0))) , J l rm_X_power (0, 0) "NumberTower" b_X_power 9 (Option.some Jvm.ClassFile.FieldType.int) D jCl (jTys g) A (fun _ me => me.name = y_X_power.name) (QXp ad N g R ln sh to (powR (regV R x) (regV R y) (regV R m) to) F) ad N 0 0 42 [(0, .ref (ad 0)), (4, .int (iI to)), (5, .ref (ad p1)), (6, .ref (ad p2)), (7, .ref (ad p3))] [.int (iI bz)] (cF ad g F0 W K S) := by
    intro bz hbz
    refine J_istore (lv' := [(8, .int (iI bz)), (0, .ref (ad 0)), (4, .int (iI to)), (5, .ref (ad p1)), (6, .ref (ad p2)), (7, .ref (ad p3))]) d_X_power_42 (by decide) rfl ?_
    refine J_iload 2 d_X_power_44 rfl ?_
    refine J_callSi cw_X_75 nh_X_isRegister pn_X_isRegister rfl (As := [.int (iI to)]) (rest := []) rfl (Nat.le_of_ble_eq_true rfl) ⟨by decide, by decide⟩ rfl ⟨by decide, by decide⟩ d_X_power_46 (c_X_isRegister hfl (r := to) (by omega)) (fun z1 F4 hq => ?_)
    obtain ⟨hz1, eF4⟩ := hq
    refine J_eqF eF4 ?_
    refine J_ifeq (tgt := 79) d_X_power_49 (by decide) ⟨by omega, by omega⟩ (fun c49 => ?_) (fun c49 => ?_)
    · refine J_throw (k := 0) (by decide) wd_525 wd_526 wd_15 wd_567 (List.mem_of_getElem? (i := 5) rfl) d_X_power_79 d_X_power_82 d_X_power_83 d_X_power_85 d_X_power_88 ⟨by decide, by decide⟩ (by decide) (by decide) ?_
      exact Or.inr ⟨_, rfl, rfl, rfl, Or.inl ⟨(fun q => by
          obtain ⟨q1, q2, q3, q4, q5, q6, q7⟩ := q
          have g1 := hreg1
          have g2 := hreg2
          have g3 := hreg3
          unfold hold at g1 g2 g3
          obtain ⟨r2, -, -⟩ := g2.resolve_left (by omega)
          obtain ⟨r3, -, -⟩ := g3.resolve_left (by omega)
          rw [r3] at q4
          rw [r2] at q6 q7
          have q4b : 0 < s3 := q4
          have q6b : -999 ≤ s2 * (u2 : Int) := q6
          have q7b : s2 * (u2 : Int) ≤ 999 := q7
          rw [hv] at q6b q7b
          clear g1 g2 g3 q4 q6 q7
          omega), rfl⟩, ⟨_, _, _, _, hS, hV, rfl⟩, (offC_e hFc (fun j hj => by rfl))⟩
    · refine J_iload 0 d_X_power_52 rfl ?_
      refine J_ifeq (tgt := 79) d_X_power_54 (by decide) ⟨by omega, by omega⟩ (fun c54 => ?_) (fun c54 => ?_)
      · refine J_throw (k := 0) (by decide) wd_525 wd_526 wd_15 wd_567 (List.mem_of_getElem? (i := 5) rfl) d_X_power_79 d_X_power_82 d_X_power_83 d_X_power_85 d_X_power_88 ⟨by decide, by decide⟩ (by decide) (by decide) ?_
        exact Or.inr ⟨_, rfl, rfl, rfl, Or.inl ⟨(fun q => by
            obtain ⟨q1, q2, q3, q4, q5, q6, q7⟩ := q
            have g1 := hreg1
            have g2 := hreg2
            have g3 := hreg3
            unfold hold at g1 g2 g3
            obtain ⟨r2, -, -⟩ := g2.resolve_left (by omega)
            obtain ⟨r3, -, -⟩ := g3.resolve_left (by omega)
            rw [r3] at q4
            rw [r2] at q6 q7
            have q4b : 0 < s3 := q4
            have q6b : -999 ≤ s2 * (u2 : Int) := q6
            have q7b : s2 * (u2 : Int) ≤ 999 := q7
            rw [hv] at q6b q7b
            clear g1 g2 g3 q4 q6 q7
            omega), rfl⟩, ⟨_, _, _, _, hS, hV, rfl⟩, (offC_e hFc (fun j hj => by rfl))⟩
      · refine J_aload 5 d_X_power_57 rfl ?_
        refine gf_X_134 (by omega) (cF_U hpU3 hk3 hs3) rfl d_X_power_59 ?_
        refine J_ifle (tgt := 79) d_X_power_62 (by decide) ⟨by omega, by omega⟩ (fun c62 => ?_) (fun c62 => ?_)
        · refine J_throw (k := 0) (by decide) wd_525 wd_526 wd_15 wd_567 (List.mem_of_getElem? (i := 5) rfl) d_X_power_79 d_X_power_82 d_X_power_83 d_X_power_85 d_X_power_88 ⟨by decide, by decide⟩ (by decide) (by decide) ?_
          exact Or.inr ⟨_, rfl, rfl, rfl, Or.inl ⟨(fun q => by
              obtain ⟨q1, q2, q3, q4, q5, q6, q7⟩ := q
              have g1 := hreg1
              have g2 := hreg2
              have g3 := hreg3
              unfold hold at g1 g2 g3
              obtain ⟨r2, -, -⟩ := g2.resolve_left (by omega)
              obtain ⟨r3, -, -⟩ := g3.resolve_left (by omega)
              rw [r3] at q4
              rw [r2] at q6 q7
              have q4b : 0 < s3 := q4
              have q6b : -999 ≤ s2 * (u2 : Int) := q6
              have q7b : s2 * (u2 : Int) ≤ 999 := q7
              rw [hv] at q6b q7b
              clear g1 g2 g3 q4 q6 q7
              omega), rfl⟩, ⟨_, _, _, _, hS, hV, rfl⟩, (offC_e hFc (fun j hj => by rfl))⟩
        · refine J_aload 4 d_X_power_65 rfl ?_
          refine J_sipush d_X_power_67 (i16_ok (by decide)) ?_
          refine J_sipush d_X_power_70 (i16_ok (by decide)) ?_
          refine J_callVi cw_X_160 nh_U_isWholeWithin pn_U_isWholeWithin rfl rfl (by omega) (cF_U hpU2 hk2 hs2) (As := [.int (iI (-999)), .int (iI 999)]) (rest := []) rfl (Nat.le_of_ble_eq_true rfl) ⟨by decide, by decide⟩ rfl ⟨by decide, by decide⟩ d_X_power_73 (u_isWholeWithin hfl (F0 := F0) (W := W) (K := K) (S := S) (k := p2) (a := -999) (b := 999) (by omega) hW hpU2 (by rw [hk2]; exact ⟨by omega, by omega⟩) (by rw [hs2]; omega) (by rw [hs2, hu2]; exact hz2) (by decide)) (fun z2 F5 hq => ?_)
          obtain ⟨hz2, eF5⟩ := hq
          refine J_eqF eF5 ?_
          rw [hs2, hu2, hk2, hv] at hz2
          refine J_ifne (tgt := 89) d_X_power_76 (by decide) ⟨by omega, by omega⟩ (fun c76 => ?_) (fun c76 => ?_)
          · have hg1 := hreg1
            unfold hold at hg1
            obtain ⟨hRV1, hokv1, hp581⟩ := hg1.resolve_left (by omega)
            obtain ⟨hk11, hd01, hs11, hfin1, hcop1, hk01, hb1, hs01, hb21, hre1⟩ := okv_b hokv1 (by omega)
            clear hg1
            replace hk01 : hold _ := hk01
            replace hs01 : hold _ := hs01
            replace hb21 : hold _ := hb21
            replace hre1 : hold _ := hre1
            have hg2 := hreg2
            unfold hold at hg2
            obtain ⟨hRV2, hokv2, hp582⟩ := hg2.resolve_left (by omega)
            obtain ⟨hk12, hd02, hs12, hfin2, hcop2, hk02, hb2, hs02, hb22, hre2⟩ := okv_b hokv2 (by omega)
            clear hg2
            have hs02x := hs02
            replace hk02 : hold _ := hk02
            replace hs02 : hold _ := hs02
            replace hb22 : hold _ := hb22
            replace hre2 : hold _ := hre2
            have hg3 := hreg3
            unfold hold at hg3
            obtain ⟨hRV3, hokv3, hp583⟩ := hg3.resolve_left (by omega)
            obtain ⟨hk13, hd03, hs13, hfin3, hcop3, hk03, hb3, hs03, hb23, hre3⟩ := okv_b hokv3 (by omega)
            clear hg3
            have hs03x := hs03
            have hb23x := hb23
            replace hk03 : hold _ := hk03
            replace hs03 : hold _ := hs03
            replace hb23 : hold _ := hb23
            replace hre3 : hold _ := hre3
            replace hb23x : hold _ := hb23x
            have hm0 : 0 < u3 := by omega
            have hvY : (k2, s2, u2, d2).2.1 * ((k2, s2, u2, d2).2.2.1 : Int) = v := hv
            have hPC : powC (regV R x) (regV R y) (regV R m) to := by
              rw [hRV1, hRV2, hRV3]
              exact ⟨⟨by omega, by omega⟩, by show k1 = 0; omega, by show k3 = 0; omega, by show 0 < s3; omega, by show k2 = 0; omega, by rw [hvY]; omega, by rw [hvY]; omega⟩
            clear hs03x
            replace hs02x : hold _ := hs02x
            refine J_aload_n 1 d_X_power_89 rfl rfl ?_
            refine gf_X_30 (by omega) ((cF_0 (by decide)).trans hX0) rfl d_X_power_90 ?_
            refine J_aload 3 d_X_power_93 rfl ?_
            refine J_aload 4 d_X_power_95 rfl ?_
            refine J_callVi cw_X_139 nh_U_small pn_U_small rfl rfl (by omega) (cF_U hpU2 hk2 hs2) (As := []) (rest := [.ref (ad p1), .ref (ad 9)]) rfl (Nat.le_of_ble_eq_true rfl) ⟨by decide, by decide⟩ rfl ⟨by decide, by decide⟩ d_X_power_97 (u_small hfl (F0 := F0) (W := W) (K := K) (S := S) (k := p2) (by omega) hW hpU2) (fun sm F6 hq => ?_)
            obtain ⟨hsm, eF6⟩ := hq
            refine J_eqF eF6 ?_
            rw [hs2, hu2] at hsm
            refine J_topi (r := v) (congrArg iI (hsm.trans (sm_v ⟨by omega, by omega⟩ hs02x hv ⟨by omega, by omega⟩))) ?_
            refine J_aload 5 d_X_power_100 rfl ?_
            refine gf_X_166 (by omega) (cF_U hpU3 hk3 hs3) rfl d_X_power_102 ?_
            refine J_callVi cw_X_169 nh_D_raiseModulo pn_D_raiseModulo rfl rfl (by omega) ((cF_0 (by decide)).trans hDk) (As := [.ref (ad p1), .int (iI v), .ref (ad (p3 + 1))]) (rest := []) rfl (Nat.le_of_ble_eq_true rfl) ⟨by decide, by decide⟩ rfl ⟨by decide, by decide⟩ d_X_power_105 (c_D_raiseModulo hfl (F0 := F0) (W := W) (K := K) (S := S) (x := p1) (ux := u1) (dx := d1) (kx := k1) (sx := s1) (pm := p3 + 1) (m := u3) (y := v) hN hW (hDk) hpU1 (by omega) hu1 hd1 hk1 hs1 hr1 hb1 (isU_1 hpU3).2.1 (by omega) hu3 hm0 (hb23x (by omega)).1 ⟨by omega, by omega⟩) (fun zm F3 hq => ?_)
            obtain ⟨W9, K9, S9, hcase, hb9, hf9, eF9⟩ := hq
            have hzm : zm = 0 ∨ zm = 1 := by
              rcases hcase with w | w
              · exact Or.inl w.1
              · exact Or.inr w.1
            replace hcase : hold _ := hcase
            refine J_eqF (F2 := cF ad g F0 W9 K9 S9) eF9 ?_
            refine J_ifne (tgt := 121) d_X_power_108 (by decide) ⟨by omega, by omega⟩ (fun c108 => ?_) (fun c108 => ?_)
            · unfold hold at hcase
              obtain ⟨-, b2, hb2m, hb2a, hb2b, hK10, hW11, hW13, hS10⟩ := hcase.resolve_left (fun q => by omega)
              clear hcase
              replace hb2a : hold _ := hb2a
              replace hb2b : hold _ := hb2b
              refine J_aload_n 1 d_X_power_121 rfl rfl ?_
              refine J_iload 2 d_X_power_122 rfl ?_
              refine J_callVi cw_X_107 nh_X_keep pn_X_keep rfl rfl (by omega) ((cF_0 (by decide)).trans hX0) (As := [.int (iI to)]) (rest := []) rfl (Nat.le_of_ble_eq_true rfl) ⟨by decide, by decide⟩ rfl ⟨by decide, by decide⟩ d_X_power_124 (c_X_keep hfl (F0 := F0) (W := W9) (K := K9) (S := S9) (to := to) (r := to.toNat) (u := (b2 ^ v.natAbs % u3)) (d := 1) (q := 58 + 5 * to.toNat) (kd := 0) (sx := (if b2 ^ v.natAbs % u3 = 0 then 0 else 1)) hN hb9 (hX0) (hX1) hrf (hDk) ⟨by omega, by omega⟩ rfl rfl hK10 hS10 hW11 hW13) (fun z6 F7 hq => ?_)
              obtain ⟨hz6, hb4, eF5⟩ := hq
              refine J_eqF (F2 := cF ad g F0 (va_up (va_up W9 (58 + 5 * to.toNat + 1) (b2 ^ v.natAbs % u3)) (58 + 5 * to.toNat + 3) 1) (va_up K9 (58 + 5 * to.toNat) 0) (va_up S9 (58 + 5 * to.toNat) (if b2 ^ v.natAbs % u3 = 0 then 0 else 1))) eF5 ?_
              refine J_topi (r := 0) (congrArg iI hz6) ?_
              refine J_iret rfl rfl d_X_power_127 ⟨by decide, by decide⟩ ?_
              unfold hold at hb2a hb2b
              exact Or.inl ⟨_, rfl, rfl, rfl, (0, (if b2 ^ v.natAbs % u3 = 0 then 0 else 1), b2 ^ v.natAbs % u3, 1), Or.inr (Or.inr ⟨hPC, b2, (by rw [hRV3]; exact hb2m), (by rw [hRV1, hRV2, hRV3, hvY]; exact hb2a), (by rw [hRV1, hRV2, hRV3, hvY]; exact hb2b), (by rw [hRV2, hRV3, hvY])⟩), rfl, ⟨_, _, _, _, hS, (cV_put (cV_fr hV hb9 (fun j hj => hf9 j (by omega))) (by omega) hb4 (by decide)), rfl⟩, (offC_e hFc (fun j hj => by rfl))⟩
            · unfold hold at hcase
              refine J_throw (k := 1) (by decide) wd_594 wd_595 wd_16 wd_604 (List.mem_of_getElem? (i := 6) rfl) d_X_power_111 d_X_power_114 d_X_power_115 d_X_power_117 d_X_power_120 ⟨by decide, by decide⟩ (by decide) (by decide) ?_
              obtain ⟨-, hy9, hg9⟩ := hcase.resolve_right (fun q => by omega)
              exact Or.inr ⟨_, rfl, rfl, rfl, Or.inr (Or.inl ⟨hPC, by rw [hRV2, hvY]; exact hy9, by rw [hRV1, hRV3]; exact hg9, rfl⟩), ⟨_, _, _, _, hS, (cV_fr hV hb9 (fun j hj => hf9 j (by omega))), rfl⟩, (offC_e hFc (fun j hj => by rfl))⟩
          · refine J_throw (k := 0) (by decide) wd_525 wd_526 wd_15 wd_567 (List.mem_of_getElem? (i := 5) rfl) d_X_power_79 d_X_power_82 d_X_power_83 d_X_power_85 d_X_power_88 ⟨by decide, by decide⟩ (by decide) (by decide) ?_
            exact Or.inr ⟨_, rfl, rfl, rfl, Or.inl ⟨(fun q => by
                obtain ⟨q1, q2, q3, q4, q5, q6, q7⟩ := q
                have g1 := hreg1
                have g2 := hreg2
                have g3 := hreg3
                unfold hold at g1 g2 g3
                obtain ⟨r2, -, -⟩ := g2.resolve_left (by omega)
                obtain ⟨r3, -, -⟩ := g3.resolve_left (by omega)
                rw [r3] at q4
                rw [r2] at q6 q7
                have q4b : 0 < s3 := q4
                have q6b : -999 ≤ s2 * (u2 : Int) := q6
                have q7b : s2 * (u2 : Int) ≤ 999 := q7
                rw [hv] at q6b q7b
                clear g1 g2 g3 q4 q6 q7
                omega), rfl⟩, ⟨_, _, _, _, hS, hV, rfl⟩, (offC_e hFc (fun j hj => by rfl))⟩
  refine J_aload 2 d_X_power_21 rfl ?_
  refine gf_X_157 (by omega) (cF_U hpU1 hk1 hs1) rfl d_X_power_23 ?_
  refine J_ifne (tgt := 41) d_X_power_26 (by decide) ⟨by omega, by omega⟩ (fun c26 => ?_) (fun c26 => ?_)
  · refine J_iconst d_X_power_41 ?_
    refine J_pick (lv' := [(0, .ref (ad 0)), (4, .int (iI to)), (5, .ref (ad p1)), (6, .ref (ad p2)), (7, .ref (ad p3))]) [3, 7, 2, 1, 0] rfl ?_
    exact lab42 (0 : Int) (by omega)
  · refine J_aload 0 d_X_power_29 rfl ?_
    refine gf_X_157 (by omega) (cF_U hpU3 hk3 hs3) rfl d_X_power_31 ?_
    refine J_ifne (tgt := 41) d_X_power_34 (by decide) ⟨by omega, by omega⟩ (fun c34 => ?_) (fun c34 => ?_)
    · refine J_iconst d_X_power_41 ?_
      refine J_pick (lv' := [(0, .ref (ad 0)), (4, .int (iI to)), (5, .ref (ad p1)), (6, .ref (ad p2)), (7, .ref (ad p3))]) [3, 7, 2, 1, 0] rfl ?_
      exact lab42 (0 : Int) (by omega)
    · refine J_iconst d_X_power_37 ?_
      refine J_goto (tgt := 42) d_X_power_38 (by decide) ?_
      refine J_pick (lv' := [(0, .ref (ad 0)), (4, .int (iI to)), (5, .ref (ad p1)), (6, .ref (ad p2)), (7, .ref (ad p3))]) [3, 7, 2, 1, 0] rfl ?_
      exact lab42 (1 : Int) (by omega)
