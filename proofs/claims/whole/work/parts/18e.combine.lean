/-! the class: combine -/

theorem sm_v {s v : Int} {u : Nat} (hs : -1 ≤ s ∧ s ≤ 1) (h0 : s = 0 ↔ u = 0) (hv : s * (u : Int) = v) (hb : -1000 ≤ v ∧ v ≤ 1000) : s * dg u 0 = v := by
  have hu : u < 2 ^ 30 := by
    obtain rfl | rfl | rfl : s = -1 ∨ s = 0 ∨ s = 1 := by omega
    · omega
    · omega
    · omega
  rw [dg_one ((lnw_le (by decide)).mpr hu)]
  exact hv
theorem op_k {op k sl sr : Int} {ul dl ur dr : Nat} {w : Vn} (h : opF op k sl ul dl sr ur dr = some w) (hk : 0 ≤ k) : w.1 ≠ -1 := by
  unfold opF at h
  split at h
  · rw [fin_k h]; omega
  split at h
  · rw [fin_k h]; omega
  split at h
  · rw [fin_k h]; omega
  split at h
  · rw [fin_k h]; split <;> omega
  split at h
  · rw [fin_k h]; split <;> omega
  · rw [fin_k h]; omega
theorem reck_k {op kx sx ky sy : Int} {ux dx uy dy : Nat} {w : Vn} (h : reckF op kx sx ux dx ky sy uy dy = some w) (hk : 0 ≤ kx) : w.1 ≠ -1 := by
  unfold reckF at h
  cases h1 : meetN (max kx ky) kx sx ux dx with
  | none => rw [h1] at h; exact absurd h (by simp)
  | some L =>
    cases h2 : meetN (max kx ky) ky sy uy dy with
    | none => rw [h1, h2] at h; exact absurd h (by simp)
    | some R =>
      rw [h1, h2] at h
      exact op_k h (by omega)
theorem pow_k {kx sx : Int} {ux dx : Nat} {w : Vn} : ∀ n, powF kx sx ux dx n = some w → kx ≠ -1 → w.1 ≠ -1
  | 0, h, hk => by
    have h2 : some (kx, (1 : Int), 1, 1) = some w := h
    injection h2 with h2; rw [← h2]; exact hk
  | n + 1, h, hk => by
    have h2 : ((powF kx sx ux dx n).bind fun r => fin kx (r.2.1 * sx) (r.2.2.1 * ux) (r.2.2.2 * dx)) = some w := h
    cases h1 : powF kx sx ux dx n with
    | none => rw [h1] at h2; exact absurd h2 (by simp)
    | some r => rw [h1] at h2; rw [fin_k h2]; exact hk
theorem mix_k {op sx sy : Int} {ux uy : Nat} {w : Vn} (h : mixF op sx ux sy uy = some w) : w.1 ≠ -1 := by
  unfold mixF at h
  rw [fin_k h]; decide
theorem sh_k {sx by' : Int} {ux : Nat} {w : Vn} (h : shF sx ux by' = some w) : w.1 ≠ -1 := by
  unfold shF at h
  rw [fin_k h]; decide
set_option maxRecDepth 100000 in
set_option maxHeartbeats 4000000 in
theorem c_X_takes {l : Launch} (hfl : l.flags = flags0) {D : va_G} {g : Nat → ClassId} {ad : Nat → Nat} {N : Nat} {F0 : Nat → va_E} {W : Nat → Nat} {K S : Nat → Int} {p1 p2 u1 d1 u2 d2 : Nat} {k1 s1 k2 s2 op v : Int}
    (hN : 109 ≤ N) (hW : bW W) (hop : inI op) (hpU1 : isU p1) (hpU2 : isU p2) (hk1 : K p1 = k1) (hk2 : K p2 = k2) (hs2 : S p2 = s2) (hu2 : W (p2 + 1) = u2) (hkr1 : -1 ≤ k1 ∧ k1 ≤ 2) (hkr2 : -1 ≤ k2 ∧ k2 ≤ 2) (hsr2 : -1 ≤ s2 ∧ s2 ≤ 1) (hz2 : s2 = 0 ↔ u2 = 0) (hv : s2 * (u2 : Int) = v) :
    JC l y_X_takes b_X_takes 4 (Option.some Jvm.ClassFile.FieldType.boolean) rm_X_takes (0, 0) D jCl (jTys g) ad N (cF ad g F0 W K S) [.int (iI op), .ref (ad p1), .ref (ad p2)] (ji ad N (fun z F' => ((z = 1 ∧ ((0 ≤ op ∧ op ≤ 10) ∧ ((op = 6 ∧ k2 = 0 ∧ 0 ≤ v ∧ v ≤ 40) ∨ op < 6 ∨ (6 < op ∧ k1 = 0 ∧ k2 = 0 ∧ (op < 10 ∨ (-120 ≤ v ∧ v ≤ 120)))))) ∨ (z = 0 ∧ ¬ ((0 ≤ op ∧ op ≤ 10) ∧ ((op = 6 ∧ k2 = 0 ∧ 0 ≤ v ∧ v ≤ 40) ∨ op < 6 ∨ (6 < op ∧ k1 = 0 ∧ k2 = 0 ∧ (op < 10 ∨ (-120 ≤ v ∧ v ≤ 120))))))) ∧ F' = cF ad g F0 W K S)) := by
  have hL1 := (isU_1 hpU1).1
  have hL2 := (isU_1 hpU2).1
  
  refine JC.go hfl (own := "NumberTower") (lv := [(0, .int (iI op)), (1, .ref (ad p1)), (2, .ref (ad p2))]) rfl (by decide +kernel) (Nat.le_of_ble_eq_true rfl) rfl (fun A => ?_)
  refine J_iload_n 0 d_X_takes_0 rfl rfl ?_
  refine J_iflt (tgt := 10) d_X_takes_1 (by decide) ⟨by omega, by omega⟩ (fun c1 => ?_) (fun c1 => ?_)
  · refine J_iconst d_X_takes_10 ?_
    refine J_iret rfl (nb01 (by omega)).1 d_X_takes_11 ⟨by decide, by decide⟩ ?_
    exact ⟨_, rfl, rfl, rfl, by omega, rfl⟩
  · refine J_iload_n 0 d_X_takes_4 rfl rfl ?_
    refine J_bipush d_X_takes_5 (i8_ok (by decide)) ?_
    refine J_if_icmple (tgt := 12) d_X_takes_7 (by decide) ⟨by omega, by omega⟩ ⟨by omega, by omega⟩ (fun c7 => ?_) (fun c7 => ?_)
    · refine J_iload_n 0 d_X_takes_12 rfl rfl ?_
      refine J_bipush d_X_takes_13 (i8_ok (by decide)) ?_
      refine J_if_icmpge (tgt := 20) d_X_takes_15 (by decide) ⟨by omega, by omega⟩ ⟨by omega, by omega⟩ (fun c15 => ?_) (fun c15 => ?_)
      · refine J_iload_n 0 d_X_takes_20 rfl rfl ?_
        refine J_bipush d_X_takes_21 (i8_ok (by decide)) ?_
        refine J_if_icmpne (tgt := 34) d_X_takes_23 (by decide) ⟨by omega, by omega⟩ ⟨by omega, by omega⟩ (fun c23 => ?_) (fun c23 => ?_)
        · have lab53 : ∀ (bz : Int) (hbz : (bz = 1 ∧ k1 = 0 ∧ k2 = 0) ∨ (bz = 0 ∧ ¬(k1 = 0 ∧ k2 = 0))) , J l rm_X_takes (0, 0) "NumberTower" b_X_takes 4 (Option.some Jvm.ClassFile.FieldType.boolean) D jCl (jTys g) A (fun _ me => me.name = y_X_takes.name) (ji ad N (fun z F' => ((z = 1 ∧ ((0 ≤ op ∧ op ≤ 10) ∧ ((op = 6 ∧ k2 = 0 ∧ 0 ≤ v ∧ v ≤ 40) ∨ op < 6 ∨ (6 < op ∧ k1 = 0 ∧ k2 = 0 ∧ (op < 10 ∨ (-120 ≤ v ∧ v ≤ 120)))))) ∨ (z = 0 ∧ ¬ ((0 ≤ op ∧ op ≤ 10) ∧ ((op = 6 ∧ k2 = 0 ∧ 0 ≤ v ∧ v ≤ 40) ∨ op < 6 ∨ (6 < op ∧ k1 = 0 ∧ k2 = 0 ∧ (op < 10 ∨ (-120 ≤ v ∧ v ≤ 120))))))) ∧ F' = cF ad g F0 W K S)) ad N 0 0 53 [(0, .int (iI op)), (1, .ref (ad p1)), (2, .ref (ad p2))] [.int (iI bz)] (cF ad g F0 W K S) := by
            intro bz hbz
            refine J_istore_n (lv' := [(3, .int (iI bz)), (0, .int (iI op)), (1, .ref (ad p1)), (2, .ref (ad p2))]) d_X_takes_53 rfl (by decide) rfl ?_
            refine J_iload_n 0 d_X_takes_54 rfl rfl ?_
            refine J_ifeq (tgt := 79) d_X_takes_55 (by decide) ⟨by omega, by omega⟩ (fun c55 => ?_) (fun c55 => ?_)
            · refine J_iconst d_X_takes_79 ?_
              refine J_iret rfl (nb01 (by omega)).1 d_X_takes_80 ⟨by decide, by decide⟩ ?_
              exact ⟨_, rfl, rfl, rfl, by omega, rfl⟩
            · refine J_iload_n 1 d_X_takes_58 rfl rfl ?_
              refine J_bipush d_X_takes_59 (i8_ok (by decide)) ?_
              refine J_if_icmpne (tgt := 75) d_X_takes_61 (by decide) ⟨by omega, by omega⟩ ⟨by omega, by omega⟩ (fun c61 => ?_) (fun c61 => ?_)
              · refine J_iconst d_X_takes_75 ?_
                refine J_goto (tgt := 80) d_X_takes_76 (by decide) ?_
                refine J_iret rfl (nb01 (by omega)).1 d_X_takes_80 ⟨by decide, by decide⟩ ?_
                exact ⟨_, rfl, rfl, rfl, by omega, rfl⟩
              · refine J_aload_n 3 d_X_takes_64 rfl rfl ?_
                refine J_bipush d_X_takes_65 (i8_ok (by decide)) ?_
                refine J_bipush d_X_takes_67 (i8_ok (by decide)) ?_
                refine J_callVi cw_X_160 nh_U_isWholeWithin pn_U_isWholeWithin rfl rfl (by omega) (cF_U hpU2 hk2 hs2) (As := [.int (iI (-120)), .int (iI 120)]) (rest := []) rfl (Nat.le_of_ble_eq_true rfl) ⟨by decide, by decide⟩ rfl ⟨by decide, by decide⟩ d_X_takes_69 (u_isWholeWithin hfl (F0 := F0) (W := W) (K := K) (S := S) (k := p2) (a := -120) (b := 120) (by omega) hW hpU2 (by rw [hk2]; exact ⟨by omega, by omega⟩) (by rw [hs2]; omega) (by rw [hs2, hu2]; exact hz2) (by decide)) (fun z1 F1 hq => ?_)
                obtain ⟨hz1, eF1⟩ := hq
                refine J_eqF eF1 ?_
                rw [hs2, hu2, hk2, hv] at hz1
                refine J_ifeq (tgt := 79) d_X_takes_72 (by decide) ⟨by omega, by omega⟩ (fun c72 => ?_) (fun c72 => ?_)
                · refine J_iconst d_X_takes_79 ?_
                  refine J_iret rfl (nb01 (by omega)).1 d_X_takes_80 ⟨by decide, by decide⟩ ?_
                  exact ⟨_, rfl, rfl, rfl, by omega, rfl⟩
                · refine J_iconst d_X_takes_75 ?_
                  refine J_goto (tgt := 80) d_X_takes_76 (by decide) ?_
                  refine J_iret rfl (nb01 (by omega)).1 d_X_takes_80 ⟨by decide, by decide⟩ ?_
                  exact ⟨_, rfl, rfl, rfl, by omega, rfl⟩
          refine J_aload_n 1 d_X_takes_34 rfl rfl ?_
          refine gf_X_157 (by omega) (cF_U hpU1 hk1 rfl) rfl d_X_takes_35 ?_
          refine J_ifne (tgt := 52) d_X_takes_38 (by decide) ⟨by omega, by omega⟩ (fun c38 => ?_) (fun c38 => ?_)
          · refine J_iconst d_X_takes_52 ?_
            exact lab53 (0 : Int) (by omega)
          · refine J_aload_n 2 d_X_takes_41 rfl rfl ?_
            refine gf_X_157 (by omega) (cF_U hpU2 hk2 hs2) rfl d_X_takes_42 ?_
            refine J_ifne (tgt := 52) d_X_takes_45 (by decide) ⟨by omega, by omega⟩ (fun c45 => ?_) (fun c45 => ?_)
            · refine J_iconst d_X_takes_52 ?_
              exact lab53 (0 : Int) (by omega)
            · refine J_iconst d_X_takes_48 ?_
              refine J_goto (tgt := 53) d_X_takes_49 (by decide) ?_
              exact lab53 (1 : Int) (by omega)
        · refine J_aload_n 2 d_X_takes_26 rfl rfl ?_
          refine J_iconst d_X_takes_27 ?_
          refine J_bipush d_X_takes_28 (i8_ok (by decide)) ?_
          refine J_callVi cw_X_160 nh_U_isWholeWithin pn_U_isWholeWithin rfl rfl (by omega) (cF_U hpU2 hk2 hs2) (As := [.int (iI 0), .int (iI 40)]) (rest := []) rfl (Nat.le_of_ble_eq_true rfl) ⟨by decide, by decide⟩ rfl ⟨by decide, by decide⟩ d_X_takes_30 (u_isWholeWithin hfl (F0 := F0) (W := W) (K := K) (S := S) (k := p2) (a := 0) (b := 40) (by omega) hW hpU2 (by rw [hk2]; exact ⟨by omega, by omega⟩) (by rw [hs2]; omega) (by rw [hs2, hu2]; exact hz2) (by decide)) (fun z2 F2 hq => ?_)
          obtain ⟨hz2, eF2⟩ := hq
          refine J_eqF eF2 ?_
          rw [hs2, hu2, hk2, hv] at hz2
          refine J_iret rfl (nb01 (by omega)).1 d_X_takes_33 ⟨by decide, by decide⟩ ?_
          exact ⟨_, rfl, rfl, rfl, by omega, rfl⟩
      · refine J_iconst d_X_takes_18 ?_
        refine J_iret rfl (nb01 (by omega)).1 d_X_takes_19 ⟨by decide, by decide⟩ ?_
        exact ⟨_, rfl, rfl, rfl, by omega, rfl⟩
    · refine J_iconst d_X_takes_10 ?_
      refine J_iret rfl (nb01 (by omega)).1 d_X_takes_11 ⟨by decide, by decide⟩ ?_
      exact ⟨_, rfl, rfl, rfl, by omega, rfl⟩
set_option maxRecDepth 100000 in
set_option maxHeartbeats 4000000 in
theorem c_X_combine {l : Launch} (hfl : l.flags = flags0) {D : va_G} {g : Nat → ClassId} {ad : Nat → Nat} {N : Nat} {F : Nat → va_E} {R : Nat → Vn} {ln sh : List Nat} {op a b to : Int}
    (hN : 109 ≤ N) (hC : cst ad g R ln sh F) (hok : ∀ r, r < 8 → okv (R r)) (hop : inI op) (ha : inI a) (hb : inI b) (hto : inI to) :
    JC l y_X_combine b_X_combine 7 (Option.some Jvm.ClassFile.FieldType.int) rm_X_combine (0, 0) D jCl (jTys g) ad N F [.ref (ad 0), .int (iI op), .int (iI a), .int (iI b), .int (iI to)] (QX ad N g R ln sh to (combO R op a b to) F) := by
  obtain ⟨F0, W, K, S, hS, hV, hFc⟩ := hC
  have hS0 := hS
  obtain ⟨hX0, ⟨rf, hX1, hrf⟩, hDk, ⟨hl7, hT7, hln, hA7, tt7⟩, ⟨hl40, hch⟩, ⟨ra, rt, hRd⟩, ⟨x1, x2, x3, x4, x5, x6, x7, x8, x9, x10, hSp⟩, ⟨ex, hPn⟩, ⟨hl44, hT44, hsh, hA44, tt44⟩, ⟨wH, hl46, hT46, hH, hA46, tt46⟩, ⟨wB, hl48, hT48, hB, hA48, tt48⟩, ⟨wD, hl50, hT50, hD, hA50, tt50⟩⟩ := hS0
  have hW := hV.1
  obtain ⟨p1, k1, s1, u1, d1, hpA1, hpU1, hp12, hu1, hd1, hk1, hs1, hr1, hz1, hkV1, hreg1⟩ := cV_at hV hok a
  have hpL1 := (isU_1 hpU1).1
  replace hreg1 : hold _ := hreg1
  replace hz1 : hold _ := hz1
  obtain ⟨p2, k2, s2, u2, d2, hpA2, hpU2, hp22, hu2, hd2, hk2, hs2, hr2, hz2, hkV2, hreg2⟩ := cV_at hV hok b
  have hpL2 := (isU_1 hpU2).1
  replace hreg2 : hold _ := hreg2
  replace hz2 : hold _ := hz2
  obtain ⟨v, hv⟩ : ∃ v : Int, s2 * (u2 : Int) = v := ⟨_, rfl⟩
  have hTPj : takesP op (k1, s1, u1, d1) (k2, s2, u2, d2) ↔ ((0 ≤ op ∧ op ≤ 10) ∧ ((op = 6 ∧ k2 = 0 ∧ 0 ≤ v ∧ v ≤ 40) ∨ op < 6 ∨ (6 < op ∧ k1 = 0 ∧ k2 = 0 ∧ (op < 10 ∨ (-120 ≤ v ∧ v ≤ 120))))) := by
    rw [← hv]
  have hTPi := hTPj.mp
  have hTPk := hTPj.mpr
  clear hTPj
  replace hTPi : hold _ := hTPi
  replace hTPk : hold _ := hTPk
  refine JC.go hfl (own := "NumberTower") (lv := [(0, .ref (ad 0)), (1, .int (iI op)), (2, .int (iI a)), (3, .int (iI b)), (4, .int (iI to))]) rfl (by decide +kernel) (Nat.le_of_ble_eq_true rfl) rfl (fun A => ?_)
  refine J_eqF (F2 := cF ad g F0 W K S) hFc ?_
  refine J_aload_n 0 d_X_combine_0 rfl rfl ?_
  refine J_iload_n 2 d_X_combine_1 rfl rfl ?_
  refine J_callVr cw_X_121 nh_X_numberAt pn_X_numberAt rfl rfl (by omega) ((cF_0 (by decide)).trans hX0) (As := [.int (iI a)]) (rest := []) rfl (Nat.le_of_ble_eq_true rfl) ⟨by decide, by decide⟩ rfl ⟨by decide, by decide⟩ d_X_combine_2 (c_X_numberAt hfl (F0 := F0) (W := W) (K := K) (S := S) (r := a) (p := p1) hN hW (hX0) (hX1) hrf (by omega) hpA1) (fun zr F1 hq => ?_)
  obtain ⟨rfl, eF1⟩ := hq
  refine J_eqF eF1 ?_
  refine J_astore (lv' := [(5, .ref (ad p1)), (0, .ref (ad 0)), (1, .int (iI op)), (2, .int (iI a)), (3, .int (iI b)), (4, .int (iI to))]) d_X_combine_5 (by decide) rfl ?_
  refine J_aload_n 1 d_X_combine_7 rfl rfl ?_
  refine J_iload_n 4 d_X_combine_8 rfl rfl ?_
  refine J_callVr cw_X_121 nh_X_numberAt pn_X_numberAt rfl rfl (by omega) ((cF_0 (by decide)).trans hX0) (As := [.int (iI b)]) (rest := []) rfl (Nat.le_of_ble_eq_true rfl) ⟨by decide, by decide⟩ rfl ⟨by decide, by decide⟩ d_X_combine_9 (c_X_numberAt hfl (F0 := F0) (W := W) (K := K) (S := S) (r := b) (p := p2) hN hW (hX0) (hX1) hrf (by omega) hpA2) (fun zr F2 hq => ?_)
  obtain ⟨rfl, eF2⟩ := hq
  refine J_eqF eF2 ?_
  refine J_astore (lv' := [(6, .ref (ad p2)), (5, .ref (ad p1)), (0, .ref (ad 0)), (1, .int (iI op)), (2, .int (iI a)), (3, .int (iI b)), (4, .int (iI to))]) d_X_combine_12 (by decide) rfl ?_
  refine J_iload 6 d_X_combine_14 rfl ?_
  refine J_callSi cw_X_75 nh_X_isRegister pn_X_isRegister rfl (As := [.int (iI to)]) (rest := []) rfl (Nat.le_of_ble_eq_true rfl) ⟨by decide, by decide⟩ rfl ⟨by decide, by decide⟩ d_X_combine_16 (c_X_isRegister hfl (r := to) (by omega)) (fun z3 F3 hq => ?_)
  obtain ⟨hz3, eF3⟩ := hq
  refine J_eqF eF3 ?_
  refine J_ifeq (tgt := 49) d_X_combine_19 (by decide) ⟨by omega, by omega⟩ (fun c19 => ?_) (fun c19 => ?_)
  · refine J_throw (k := 0) (by decide) wd_525 wd_526 wd_15 wd_567 (List.mem_of_getElem? (i := 3) rfl) d_X_combine_49 d_X_combine_52 d_X_combine_53 d_X_combine_55 d_X_combine_58 ⟨by decide, by decide⟩ (by decide) (by decide) ?_
    exact Or.inr ⟨_, rfl, rfl, rfl, (by
      unfold combO
      rw [if_neg (fun q => by have q2 := q.2; clear q; omega)]
      rfl), ⟨_, _, _, _, hS, hV, rfl⟩, (offC_e hFc (fun j hj => by rfl))⟩
  · refine J_aload 1 d_X_combine_22 rfl ?_
    refine J_callVi cw_X_125 nh_U_isThere pn_U_isThere rfl rfl (by omega) (cF_U hpU1 hk1 hs1) (As := []) (rest := []) rfl (Nat.le_of_ble_eq_true rfl) ⟨by decide, by decide⟩ rfl ⟨by decide, by decide⟩ d_X_combine_24 (u_isThere hfl (F0 := F0) (W := W) (K := K) (S := S) (k := p1) (by omega) hW hpU1 (by rw [hk1]; exact ⟨by omega, by omega⟩)) (fun z4 F4 hq => ?_)
    obtain ⟨hz4, eF4⟩ := hq
    refine J_eqF eF4 ?_
    rw [hk1] at hz4
    refine J_ifeq (tgt := 49) d_X_combine_27 (by decide) ⟨by omega, by omega⟩ (fun c27 => ?_) (fun c27 => ?_)
    · refine J_throw (k := 0) (by decide) wd_525 wd_526 wd_15 wd_567 (List.mem_of_getElem? (i := 3) rfl) d_X_combine_49 d_X_combine_52 d_X_combine_53 d_X_combine_55 d_X_combine_58 ⟨by decide, by decide⟩ (by decide) (by decide) ?_
      exact Or.inr ⟨_, rfl, rfl, rfl, (by
        unfold combO
        rw [if_neg (fun q => by have q2 := q.2; clear q; omega)]
        rfl), ⟨_, _, _, _, hS, hV, rfl⟩, (offC_e hFc (fun j hj => by rfl))⟩
    · refine J_aload 0 d_X_combine_30 rfl ?_
      refine J_callVi cw_X_125 nh_U_isThere pn_U_isThere rfl rfl (by omega) (cF_U hpU2 hk2 hs2) (As := []) (rest := []) rfl (Nat.le_of_ble_eq_true rfl) ⟨by decide, by decide⟩ rfl ⟨by decide, by decide⟩ d_X_combine_32 (u_isThere hfl (F0 := F0) (W := W) (K := K) (S := S) (k := p2) (by omega) hW hpU2 (by rw [hk2]; exact ⟨by omega, by omega⟩)) (fun z5 F5 hq => ?_)
      obtain ⟨hz5, eF5⟩ := hq
      refine J_eqF eF5 ?_
      rw [hk2] at hz5
      refine J_ifeq (tgt := 49) d_X_combine_35 (by decide) ⟨by omega, by omega⟩ (fun c35 => ?_) (fun c35 => ?_)
      · refine J_throw (k := 0) (by decide) wd_525 wd_526 wd_15 wd_567 (List.mem_of_getElem? (i := 3) rfl) d_X_combine_49 d_X_combine_52 d_X_combine_53 d_X_combine_55 d_X_combine_58 ⟨by decide, by decide⟩ (by decide) (by decide) ?_
        exact Or.inr ⟨_, rfl, rfl, rfl, (by
          unfold combO
          rw [if_neg (fun q => by have q2 := q.2; clear q; omega)]
          rfl), ⟨_, _, _, _, hS, hV, rfl⟩, (offC_e hFc (fun j hj => by rfl))⟩
      · have hg1 := hreg1
        unfold hold at hg1
        obtain ⟨hRV1, hokv1, hp581⟩ := hg1.resolve_left (by omega)
        obtain ⟨hk11, hd01, hs11, hfin1, hcop1, hk01, hb1, hs01, hb21, hre1⟩ := okv_b hokv1 (by omega)
        clear hg1
        replace hk01 : hold _ := hk01
        replace hs01 : hold _ := hs01
        replace hb21 : hold _ := hb21
        replace hre1 : hold _ := hre1
        have hg2 := hreg2
        unfold hold at hg2
        obtain ⟨hRV2, hokv2, hp582⟩ := hg2.resolve_left (by omega)
        obtain ⟨hk12, hd02, hs12, hfin2, hcop2, hk02, hb2, hs02, hb22, hre2⟩ := okv_b hokv2 (by omega)
        clear hg2
        have hz2u := hs02
        replace hk02 : hold _ := hk02
        replace hs02 : hold _ := hs02
        replace hb22 : hold _ := hb22
        replace hre2 : hold _ := hre2
        replace hz2u : hold _ := hz2u
        refine J_iload_n 3 d_X_combine_38 rfl rfl ?_
        refine J_aload 1 d_X_combine_39 rfl ?_
        refine J_aload 0 d_X_combine_41 rfl ?_
        have hz2 := hz2u
        unfold hold at hz2
        refine J_callSi cw_X_128 nh_X_takes pn_X_takes rfl (As := [.int (iI op), .ref (ad p1), .ref (ad p2)]) (rest := []) rfl (Nat.le_of_ble_eq_true rfl) ⟨by decide, by decide⟩ rfl ⟨by decide, by decide⟩ d_X_combine_43 (c_X_takes hfl (F0 := F0) (W := W) (K := K) (S := S) (p1 := p1) (p2 := p2) (u1 := u1) (d1 := d1) (u2 := u2) (d2 := d2) (k1 := k1) (s1 := s1) (k2 := k2) (s2 := s2) (op := op) (v := v) hN hW (by omega) hpU1 hpU2 hk1 hk2 hs2 hu2 ⟨by omega, by omega⟩ ⟨by omega, by omega⟩ ⟨by omega, by omega⟩ hz2 hv) (fun z6 F6 hq => ?_)
        obtain ⟨hz6, eF6⟩ := hq
        refine J_eqF eF6 ?_
        replace hz6 : hold _ := hz6
        have hzT : z6 = 1 → ((0 ≤ op ∧ op ≤ 10) ∧ ((op = 6 ∧ k2 = 0 ∧ 0 ≤ v ∧ v ≤ 40) ∨ op < 6 ∨ (6 < op ∧ k1 = 0 ∧ k2 = 0 ∧ (op < 10 ∨ (-120 ≤ v ∧ v ≤ 120))))) := fun q => by
          unfold hold at hz6
          rcases hz6 with w | w
          · exact w.2
          · omega
        have hzF : ¬ z6 = 1 → ¬ ((0 ≤ op ∧ op ≤ 10) ∧ ((op = 6 ∧ k2 = 0 ∧ 0 ≤ v ∧ v ≤ 40) ∨ op < 6 ∨ (6 < op ∧ k1 = 0 ∧ k2 = 0 ∧ (op < 10 ∨ (-120 ≤ v ∧ v ≤ 120))))) := fun q => by
          unfold hold at hz6
          rcases hz6 with w | w
          · omega
          · exact w.2
        have hzr : z6 = 0 ∨ z6 = 1 := by
          unfold hold at hz6
          rcases hz6 with w | w
          · exact Or.inr w.1
          · exact Or.inl w.1
        replace hzT : hold _ := hzT
        replace hzF : hold _ := hzF
        refine J_ifne (tgt := 59) d_X_combine_46 (by decide) ⟨by omega, by omega⟩ (fun c46 => ?_) (fun c46 => ?_)
        · have hT : ((0 ≤ op ∧ op ≤ 10) ∧ ((op = 6 ∧ k2 = 0 ∧ 0 ≤ v ∧ v ≤ 40) ∨ op < 6 ∨ (6 < op ∧ k1 = 0 ∧ k2 = 0 ∧ (op < 10 ∨ (-120 ≤ v ∧ v ≤ 120))))) := by
            have h9 := hzT
            unfold hold at h9
            exact h9 (by omega)
          have hC0 : combO R op a b to = (if 3 ≤ op ∧ op ≤ 5 ∧ u2 = 0 then .inl 1 else optO (opV op (k1, s1, u1, d1) (k2, s2, u2, d2))) := by
            unfold combO
            rw [hRV1, hRV2]
            have h9 := hTPk
            unfold hold at h9
            exact if_pos ⟨h9 hT, by show k1 ≠ -1; omega, by show k2 ≠ -1; omega, by omega, by omega⟩
          replace hT : hold _ := hT
          replace hC0 : hold _ := hC0
          refine J_iload_n 3 d_X_combine_59 rfl rfl ?_
          refine J_iconst d_X_combine_60 ?_
          refine J_if_icmplt (tgt := 87) d_X_combine_61 (by decide) ⟨by omega, by omega⟩ ⟨by omega, by omega⟩ (fun c61 => ?_) (fun c61 => ?_)
          · refine J_iload_n 3 d_X_combine_87 rfl rfl ?_
            refine J_bipush d_X_combine_88 (i8_ok (by decide)) ?_
            refine J_if_icmpne (tgt := 110) d_X_combine_90 (by decide) ⟨by omega, by omega⟩ ⟨by omega, by omega⟩ (fun c90 => ?_) (fun c90 => ?_)
            · refine J_iload_n 3 d_X_combine_110 rfl rfl ?_
              refine J_bipush d_X_combine_111 (i8_ok (by decide)) ?_
              refine J_if_icmpne (tgt := 133) d_X_combine_113 (by decide) ⟨by omega, by omega⟩ ⟨by omega, by omega⟩ (fun c113 => ?_) (fun c113 => ?_)
              · refine J_iload_n 3 d_X_combine_133 rfl rfl ?_
                refine J_bipush d_X_combine_134 (i8_ok (by decide)) ?_
                refine J_if_icmplt (tgt := 154) d_X_combine_136 (by decide) ⟨by omega, by omega⟩ ⟨by omega, by omega⟩ (fun c136 => ?_) (fun c136 => ?_)
                · have hT0 := hT
                  unfold hold at hT0
                  unfold hold at hC0 hz2u hk01 hk02
                  have hO : combO R op a b to = optO (reckF op k1 s1 u1 d1 k2 s2 u2 d2) := by
                    rw [hC0, if_neg (by omega)]
                    show optO (opV op (k1, s1, u1, d1) (k2, s2, u2, d2)) = _
                    unfold opV
                    rw [if_neg (by omega), if_neg (by omega), if_neg (by omega)]
                  refine J_aload_n 2 d_X_combine_154 rfl rfl ?_
                  refine gf_X_30 (by omega) ((cF_0 (by decide)).trans hX0) rfl d_X_combine_155 ?_
                  refine J_iload_n 3 d_X_combine_158 rfl rfl ?_
                  refine J_aload 1 d_X_combine_159 rfl ?_
                  refine J_aload 0 d_X_combine_161 rfl ?_
                  refine J_callVvx cw_X_154 nh_D_reckon pn_D_reckon rfl rfl (by omega) ((cF_0 (by decide)).trans hDk) (As := [.int (iI op), .ref (ad p1), .ref (ad p2)]) (rest := []) rfl (Nat.le_of_ble_eq_true rfl) ⟨by decide, by decide⟩ rfl ⟨by decide, by decide⟩ d_X_combine_163 (c_D_reckon hfl (F0 := F0) (W := W) (K := K) (S := S) (x := p1) (ux := u1) (dx := d1) (kx := k1) (sx := s1) (y := p2) (uy := u2) (dy := d2) (ky := k2) (sy := s2) (op := op) hN hW (hDk) hpU1 (by omega) hu1 hd1 hk1 hs1 hr1 hb1 hpU2 (by omega) hu2 hd2 hk2 hs2 hr2 hb2 ⟨by omega, by omega⟩ (by omega) (by omega) hd01 hd02 hk01 hk02 (fun q => by omega)) (fun  F22 hq => ?_) (fun k9 F9 hq => by exact Or.inr ⟨_, rfl, rfl, rfl, QX_thr hO hFc hS hV (fun j hj => by rfl) hq⟩)
                  obtain ⟨kd7, sx8, u9, d10, W11, K12, S13, hr14, hb15, hf16, hk17, hs18, hu19, hd20, eF21⟩ := hq
                  refine J_eqF (F2 := cF ad g F0 W11 K12 S13) eF21 ?_
                  have hkn9 : kd7 ≠ -1 := reck_k hr14 (by omega)
                  refine J_aload_n 2 d_X_combine_166 rfl rfl ?_
                  refine J_iload 6 d_X_combine_167 rfl ?_
                  refine J_callVi cw_X_107 nh_X_keep pn_X_keep rfl rfl (by omega) ((cF_0 (by decide)).trans hX0) (As := [.int (iI to)]) (rest := []) rfl (Nat.le_of_ble_eq_true rfl) ⟨by decide, by decide⟩ rfl ⟨by decide, by decide⟩ d_X_combine_169 (c_X_keep hfl (F0 := F0) (W := W11) (K := K12) (S := S13) (to := to) (r := to.toNat) (u := u9) (d := d10) (q := 58 + 5 * to.toNat) (kd := kd7) (sx := sx8) hN hb15 (hX0) (hX1) hrf (hDk) ⟨by omega, by omega⟩ rfl rfl hk17 hs18 hu19 hd20) (fun z25 F26 hq => ?_)
                  obtain ⟨hz25, hb23, eF24⟩ := hq
                  refine J_eqF (F2 := cF ad g F0 (va_up (va_up W11 (58 + 5 * to.toNat + 1) u9) (58 + 5 * to.toNat + 3) d10) (va_up K12 (58 + 5 * to.toNat) kd7) (va_up S13 (58 + 5 * to.toNat) sx8)) eF24 ?_
                  refine J_topi (r := kd7) (congrArg iI hz25) ?_
                  refine J_iret rfl rfl d_X_combine_172 ⟨by decide, by decide⟩ ?_
                  exact Or.inl ⟨_, rfl, rfl, rfl, (kd7, sx8, u9, d10), (hO.trans (by rw [hr14]; rfl)), rfl, ⟨_, _, _, _, hS, (cV_put (cV_fr hV hb15 (fun j hj => hf16 j (by omega))) (by omega) hb23 hkn9), rfl⟩, (offC_e hFc (fun j hj => by rfl))⟩
                · have hT0 := hT
                  unfold hold at hT0
                  unfold hold at hC0 hb21 hb22
                  have hO : combO R op a b to = optO (mixF op s1 u1 s2 u2) := by
                    rw [hC0, if_neg (by omega)]
                    show optO (opV op (k1, s1, u1, d1) (k2, s2, u2, d2)) = _
                    unfold opV
                    rw [if_neg (by omega), if_neg (by omega), if_pos (by omega)]
                  refine J_aload_n 2 d_X_combine_139 rfl rfl ?_
                  refine gf_X_30 (by omega) ((cF_0 (by decide)).trans hX0) rfl d_X_combine_140 ?_
                  refine J_iload_n 3 d_X_combine_143 rfl rfl ?_
                  refine J_aload 1 d_X_combine_144 rfl ?_
                  refine J_aload 0 d_X_combine_146 rfl ?_
                  refine J_callVvx cw_X_150 nh_D_mix pn_D_mix rfl rfl (by omega) ((cF_0 (by decide)).trans hDk) (As := [.int (iI op), .ref (ad p1), .ref (ad p2)]) (rest := []) rfl (Nat.le_of_ble_eq_true rfl) ⟨by decide, by decide⟩ rfl ⟨by decide, by decide⟩ d_X_combine_148 (c_D_mix hfl (F0 := F0) (W := W) (K := K) (S := S) (x := p1) (ux := u1) (dx := d1) (kx := k1) (sx := s1) (y := p2) (uy := u2) (dy := d2) (ky := k2) (sy := s2) (op := op) hN hW (hDk) hpU1 (by omega) hu1 hd1 hk1 hs1 hr1 hb1 hpU2 (by omega) hu2 hd2 hk2 hs2 hr2 hb2 ⟨by omega, by omega⟩ (hb21 (by omega)).1 (hb22 (by omega)).1) (fun  F42 hq => ?_) (fun k9 F9 hq => by exact Or.inr ⟨_, rfl, rfl, rfl, QX_thr hO hFc hS hV (fun j hj => by rfl) hq⟩)
                  obtain ⟨kd27, sx28, u29, d30, W31, K32, S33, hr34, hb35, hf36, hk37, hs38, hu39, hd40, eF41⟩ := hq
                  refine J_eqF (F2 := cF ad g F0 W31 K32 S33) eF41 ?_
                  have hkn9 : kd27 ≠ -1 := mix_k hr34
                  refine J_goto (tgt := 166) d_X_combine_151 (by decide) ?_
                  refine J_aload_n 2 d_X_combine_166 rfl rfl ?_
                  refine J_iload 6 d_X_combine_167 rfl ?_
                  refine J_callVi cw_X_107 nh_X_keep pn_X_keep rfl rfl (by omega) ((cF_0 (by decide)).trans hX0) (As := [.int (iI to)]) (rest := []) rfl (Nat.le_of_ble_eq_true rfl) ⟨by decide, by decide⟩ rfl ⟨by decide, by decide⟩ d_X_combine_169 (c_X_keep hfl (F0 := F0) (W := W31) (K := K32) (S := S33) (to := to) (r := to.toNat) (u := u29) (d := d30) (q := 58 + 5 * to.toNat) (kd := kd27) (sx := sx28) hN hb35 (hX0) (hX1) hrf (hDk) ⟨by omega, by omega⟩ rfl rfl hk37 hs38 hu39 hd40) (fun z45 F46 hq => ?_)
                  obtain ⟨hz45, hb43, eF44⟩ := hq
                  refine J_eqF (F2 := cF ad g F0 (va_up (va_up W31 (58 + 5 * to.toNat + 1) u29) (58 + 5 * to.toNat + 3) d30) (va_up K32 (58 + 5 * to.toNat) kd27) (va_up S33 (58 + 5 * to.toNat) sx28)) eF44 ?_
                  refine J_topi (r := kd27) (congrArg iI hz45) ?_
                  refine J_iret rfl rfl d_X_combine_172 ⟨by decide, by decide⟩ ?_
                  exact Or.inl ⟨_, rfl, rfl, rfl, (kd27, sx28, u29, d30), (hO.trans (by rw [hr34]; rfl)), rfl, ⟨_, _, _, _, hS, (cV_put (cV_fr hV hb35 (fun j hj => hf36 j (by omega))) (by omega) hb43 hkn9), rfl⟩, (offC_e hFc (fun j hj => by rfl))⟩
              · have hT0 := hT
                unfold hold at hT0
                unfold hold at hC0 hz2u hk01 hb21
                have hO : combO R op a b to = optO (shF s1 u1 v) := by
                  rw [hC0, if_neg (by omega)]
                  show optO (opV op (k1, s1, u1, d1) (k2, s2, u2, d2)) = _
                  unfold opV
                  rw [if_neg (by omega), if_pos (by omega)]
                  show optO (shF s1 u1 (s2 * (u2 : Int))) = _
                  rw [hv]
                refine J_aload_n 2 d_X_combine_116 rfl rfl ?_
                refine gf_X_30 (by omega) ((cF_0 (by decide)).trans hX0) rfl d_X_combine_117 ?_
                refine J_aload 1 d_X_combine_120 rfl ?_
                refine J_aload 0 d_X_combine_122 rfl ?_
                refine J_callVi cw_X_139 nh_U_small pn_U_small rfl rfl (by omega) (cF_U hpU2 hk2 hs2) (As := []) (rest := [.ref (ad p1), .ref (ad 9)]) rfl (Nat.le_of_ble_eq_true rfl) ⟨by decide, by decide⟩ rfl ⟨by decide, by decide⟩ d_X_combine_124 (u_small hfl (F0 := F0) (W := W) (K := K) (S := S) (k := p2) (by omega) hW hpU2) (fun sm F7 hq => ?_)
                obtain ⟨hsm, eF7⟩ := hq
                refine J_eqF eF7 ?_
                rw [hs2, hu2] at hsm
                refine J_topi (r := v) (congrArg iI (hsm.trans (sm_v ⟨by omega, by omega⟩ hz2u hv ⟨by omega, by omega⟩))) ?_
                refine J_callVvx cw_X_147 nh_D_shift pn_D_shift rfl rfl (by omega) ((cF_0 (by decide)).trans hDk) (As := [.ref (ad p1), .int (iI v)]) (rest := []) rfl (Nat.le_of_ble_eq_true rfl) ⟨by decide, by decide⟩ rfl ⟨by decide, by decide⟩ d_X_combine_127 (c_D_shift hfl (F0 := F0) (W := W) (K := K) (S := S) (x := p1) (ux := u1) (dx := d1) (kx := k1) (sx := s1) (by0 := v) hN hW (hDk) hpU1 (by omega) hu1 hd1 hk1 hs1 hr1 hb1 ⟨by omega, by omega⟩ (hb21 (by omega)).1 (hk01 (by omega))) (fun  F62 hq => ?_) (fun k9 F9 hq => by exact Or.inr ⟨_, rfl, rfl, rfl, QX_thr hO hFc hS hV (fun j hj => by rfl) hq⟩)
                obtain ⟨kd47, sx48, u49, d50, W51, K52, S53, hr54, hb55, hf56, hk57, hs58, hu59, hd60, eF61⟩ := hq
                refine J_eqF (F2 := cF ad g F0 W51 K52 S53) eF61 ?_
                have hkn9 : kd47 ≠ -1 := sh_k hr54
                refine J_goto (tgt := 166) d_X_combine_130 (by decide) ?_
                refine J_aload_n 2 d_X_combine_166 rfl rfl ?_
                refine J_iload 6 d_X_combine_167 rfl ?_
                refine J_callVi cw_X_107 nh_X_keep pn_X_keep rfl rfl (by omega) ((cF_0 (by decide)).trans hX0) (As := [.int (iI to)]) (rest := []) rfl (Nat.le_of_ble_eq_true rfl) ⟨by decide, by decide⟩ rfl ⟨by decide, by decide⟩ d_X_combine_169 (c_X_keep hfl (F0 := F0) (W := W51) (K := K52) (S := S53) (to := to) (r := to.toNat) (u := u49) (d := d50) (q := 58 + 5 * to.toNat) (kd := kd47) (sx := sx48) hN hb55 (hX0) (hX1) hrf (hDk) ⟨by omega, by omega⟩ rfl rfl hk57 hs58 hu59 hd60) (fun z65 F66 hq => ?_)
                obtain ⟨hz65, hb63, eF64⟩ := hq
                refine J_eqF (F2 := cF ad g F0 (va_up (va_up W51 (58 + 5 * to.toNat + 1) u49) (58 + 5 * to.toNat + 3) d50) (va_up K52 (58 + 5 * to.toNat) kd47) (va_up S53 (58 + 5 * to.toNat) sx48)) eF64 ?_
                refine J_topi (r := kd47) (congrArg iI hz65) ?_
                refine J_iret rfl rfl d_X_combine_172 ⟨by decide, by decide⟩ ?_
                exact Or.inl ⟨_, rfl, rfl, rfl, (kd47, sx48, u49, d50), (hO.trans (by rw [hr54]; rfl)), rfl, ⟨_, _, _, _, hS, (cV_put (cV_fr hV hb55 (fun j hj => hf56 j (by omega))) (by omega) hb63 hkn9), rfl⟩, (offC_e hFc (fun j hj => by rfl))⟩
            · have hT0 := hT
              unfold hold at hT0
              unfold hold at hC0 hz2u hk01 hk02 hs01
              have hO : combO R op a b to = optO (powF k1 s1 u1 d1 v.toNat) := by
                rw [hC0, if_neg (by omega)]
                show optO (opV op (k1, s1, u1, d1) (k2, s2, u2, d2)) = _
                unfold opV
                rw [if_pos (by omega)]
                show optO (powF k1 s1 u1 d1 (s2 * (u2 : Int)).toNat) = _
                rw [hv]
              refine J_aload_n 2 d_X_combine_93 rfl rfl ?_
              refine gf_X_30 (by omega) ((cF_0 (by decide)).trans hX0) rfl d_X_combine_94 ?_
              refine J_aload 1 d_X_combine_97 rfl ?_
              refine J_aload 0 d_X_combine_99 rfl ?_
              refine J_callVi cw_X_139 nh_U_small pn_U_small rfl rfl (by omega) (cF_U hpU2 hk2 hs2) (As := []) (rest := [.ref (ad p1), .ref (ad 9)]) rfl (Nat.le_of_ble_eq_true rfl) ⟨by decide, by decide⟩ rfl ⟨by decide, by decide⟩ d_X_combine_101 (u_small hfl (F0 := F0) (W := W) (K := K) (S := S) (k := p2) (by omega) hW hpU2) (fun sm F8 hq => ?_)
              obtain ⟨hsm, eF8⟩ := hq
              refine J_eqF eF8 ?_
              rw [hs2, hu2] at hsm
              refine J_topi (r := v) (congrArg iI (hsm.trans (sm_v ⟨by omega, by omega⟩ hz2u hv ⟨by omega, by omega⟩))) ?_
              refine J_callVvx cw_X_143 nh_D_raise pn_D_raise rfl rfl (by omega) ((cF_0 (by decide)).trans hDk) (As := [.ref (ad p1), .int (iI v)]) (rest := []) rfl (Nat.le_of_ble_eq_true rfl) ⟨by decide, by decide⟩ rfl ⟨by decide, by decide⟩ d_X_combine_104 (c_D_raise hfl (F0 := F0) (W := W) (K := K) (S := S) (x := p1) (ux := u1) (dx := d1) (kx := k1) (sx := s1) (y := v) hN hW (hDk) hpU1 (by omega) hu1 hd1 hk1 hs1 hr1 hb1 ⟨by omega, by omega⟩ (by omega) hd01 (fun _ => hcop1) hs01) (fun  F82 hq => ?_) (fun k9 F9 hq => by exact Or.inr ⟨_, rfl, rfl, rfl, QX_thr hO hFc hS hV (fun j hj => by rfl) hq⟩)
              obtain ⟨kd67, sx68, u69, d70, W71, K72, S73, hr74, hb75, hf76, hk77, hs78, hu79, hd80, eF81⟩ := hq
              refine J_eqF (F2 := cF ad g F0 W71 K72 S73) eF81 ?_
              have hkn9 : kd67 ≠ -1 := pow_k _ hr74 (by omega)
              refine J_goto (tgt := 166) d_X_combine_107 (by decide) ?_
              refine J_aload_n 2 d_X_combine_166 rfl rfl ?_
              refine J_iload 6 d_X_combine_167 rfl ?_
              refine J_callVi cw_X_107 nh_X_keep pn_X_keep rfl rfl (by omega) ((cF_0 (by decide)).trans hX0) (As := [.int (iI to)]) (rest := []) rfl (Nat.le_of_ble_eq_true rfl) ⟨by decide, by decide⟩ rfl ⟨by decide, by decide⟩ d_X_combine_169 (c_X_keep hfl (F0 := F0) (W := W71) (K := K72) (S := S73) (to := to) (r := to.toNat) (u := u69) (d := d70) (q := 58 + 5 * to.toNat) (kd := kd67) (sx := sx68) hN hb75 (hX0) (hX1) hrf (hDk) ⟨by omega, by omega⟩ rfl rfl hk77 hs78 hu79 hd80) (fun z85 F86 hq => ?_)
              obtain ⟨hz85, hb83, eF84⟩ := hq
              refine J_eqF (F2 := cF ad g F0 (va_up (va_up W71 (58 + 5 * to.toNat + 1) u69) (58 + 5 * to.toNat + 3) d70) (va_up K72 (58 + 5 * to.toNat) kd67) (va_up S73 (58 + 5 * to.toNat) sx68)) eF84 ?_
              refine J_topi (r := kd67) (congrArg iI hz85) ?_
              refine J_iret rfl rfl d_X_combine_172 ⟨by decide, by decide⟩ ?_
              exact Or.inl ⟨_, rfl, rfl, rfl, (kd67, sx68, u69, d70), (hO.trans (by rw [hr74]; rfl)), rfl, ⟨_, _, _, _, hS, (cV_put (cV_fr hV hb75 (fun j hj => hf76 j (by omega))) (by omega) hb83 hkn9), rfl⟩, (offC_e hFc (fun j hj => by rfl))⟩
          · refine J_iload_n 3 d_X_combine_64 rfl rfl ?_
            refine J_iconst d_X_combine_65 ?_
            refine J_if_icmpgt (tgt := 87) d_X_combine_66 (by decide) ⟨by omega, by omega⟩ ⟨by omega, by omega⟩ (fun c66 => ?_) (fun c66 => ?_)
            · refine J_iload_n 3 d_X_combine_87 rfl rfl ?_
              refine J_bipush d_X_combine_88 (i8_ok (by decide)) ?_
              refine J_if_icmpne (tgt := 110) d_X_combine_90 (by decide) ⟨by omega, by omega⟩ ⟨by omega, by omega⟩ (fun c90 => ?_) (fun c90 => ?_)
              · refine J_iload_n 3 d_X_combine_110 rfl rfl ?_
                refine J_bipush d_X_combine_111 (i8_ok (by decide)) ?_
                refine J_if_icmpne (tgt := 133) d_X_combine_113 (by decide) ⟨by omega, by omega⟩ ⟨by omega, by omega⟩ (fun c113 => ?_) (fun c113 => ?_)
                · refine J_iload_n 3 d_X_combine_133 rfl rfl ?_
                  refine J_bipush d_X_combine_134 (i8_ok (by decide)) ?_
                  refine J_if_icmplt (tgt := 154) d_X_combine_136 (by decide) ⟨by omega, by omega⟩ ⟨by omega, by omega⟩ (fun c136 => ?_) (fun c136 => ?_)
                  · have hT0 := hT
                    unfold hold at hT0
                    unfold hold at hC0 hz2u hk01 hk02
                    have hO : combO R op a b to = optO (reckF op k1 s1 u1 d1 k2 s2 u2 d2) := by
                      rw [hC0, if_neg (by omega)]
                      show optO (opV op (k1, s1, u1, d1) (k2, s2, u2, d2)) = _
                      unfold opV
                      rw [if_neg (by omega), if_neg (by omega), if_neg (by omega)]
                    refine J_aload_n 2 d_X_combine_154 rfl rfl ?_
                    refine gf_X_30 (by omega) ((cF_0 (by decide)).trans hX0) rfl d_X_combine_155 ?_
                    refine J_iload_n 3 d_X_combine_158 rfl rfl ?_
                    refine J_aload 1 d_X_combine_159 rfl ?_
                    refine J_aload 0 d_X_combine_161 rfl ?_
                    refine J_callVvx cw_X_154 nh_D_reckon pn_D_reckon rfl rfl (by omega) ((cF_0 (by decide)).trans hDk) (As := [.int (iI op), .ref (ad p1), .ref (ad p2)]) (rest := []) rfl (Nat.le_of_ble_eq_true rfl) ⟨by decide, by decide⟩ rfl ⟨by decide, by decide⟩ d_X_combine_163 (c_D_reckon hfl (F0 := F0) (W := W) (K := K) (S := S) (x := p1) (ux := u1) (dx := d1) (kx := k1) (sx := s1) (y := p2) (uy := u2) (dy := d2) (ky := k2) (sy := s2) (op := op) hN hW (hDk) hpU1 (by omega) hu1 hd1 hk1 hs1 hr1 hb1 hpU2 (by omega) hu2 hd2 hk2 hs2 hr2 hb2 ⟨by omega, by omega⟩ (by omega) (by omega) hd01 hd02 hk01 hk02 (fun q => by omega)) (fun  F102 hq => ?_) (fun k9 F9 hq => by exact Or.inr ⟨_, rfl, rfl, rfl, QX_thr hO hFc hS hV (fun j hj => by rfl) hq⟩)
                    obtain ⟨kd87, sx88, u89, d90, W91, K92, S93, hr94, hb95, hf96, hk97, hs98, hu99, hd100, eF101⟩ := hq
                    refine J_eqF (F2 := cF ad g F0 W91 K92 S93) eF101 ?_
                    have hkn9 : kd87 ≠ -1 := reck_k hr94 (by omega)
                    refine J_aload_n 2 d_X_combine_166 rfl rfl ?_
                    refine J_iload 6 d_X_combine_167 rfl ?_
                    refine J_callVi cw_X_107 nh_X_keep pn_X_keep rfl rfl (by omega) ((cF_0 (by decide)).trans hX0) (As := [.int (iI to)]) (rest := []) rfl (Nat.le_of_ble_eq_true rfl) ⟨by decide, by decide⟩ rfl ⟨by decide, by decide⟩ d_X_combine_169 (c_X_keep hfl (F0 := F0) (W := W91) (K := K92) (S := S93) (to := to) (r := to.toNat) (u := u89) (d := d90) (q := 58 + 5 * to.toNat) (kd := kd87) (sx := sx88) hN hb95 (hX0) (hX1) hrf (hDk) ⟨by omega, by omega⟩ rfl rfl hk97 hs98 hu99 hd100) (fun z105 F106 hq => ?_)
                    obtain ⟨hz105, hb103, eF104⟩ := hq
                    refine J_eqF (F2 := cF ad g F0 (va_up (va_up W91 (58 + 5 * to.toNat + 1) u89) (58 + 5 * to.toNat + 3) d90) (va_up K92 (58 + 5 * to.toNat) kd87) (va_up S93 (58 + 5 * to.toNat) sx88)) eF104 ?_
                    refine J_topi (r := kd87) (congrArg iI hz105) ?_
                    refine J_iret rfl rfl d_X_combine_172 ⟨by decide, by decide⟩ ?_
                    exact Or.inl ⟨_, rfl, rfl, rfl, (kd87, sx88, u89, d90), (hO.trans (by rw [hr94]; rfl)), rfl, ⟨_, _, _, _, hS, (cV_put (cV_fr hV hb95 (fun j hj => hf96 j (by omega))) (by omega) hb103 hkn9), rfl⟩, (offC_e hFc (fun j hj => by rfl))⟩
                  · have hT0 := hT
                    unfold hold at hT0
                    unfold hold at hC0 hb21 hb22
                    have hO : combO R op a b to = optO (mixF op s1 u1 s2 u2) := by
                      rw [hC0, if_neg (by omega)]
                      show optO (opV op (k1, s1, u1, d1) (k2, s2, u2, d2)) = _
                      unfold opV
                      rw [if_neg (by omega), if_neg (by omega), if_pos (by omega)]
                    refine J_aload_n 2 d_X_combine_139 rfl rfl ?_
                    refine gf_X_30 (by omega) ((cF_0 (by decide)).trans hX0) rfl d_X_combine_140 ?_
                    refine J_iload_n 3 d_X_combine_143 rfl rfl ?_
                    refine J_aload 1 d_X_combine_144 rfl ?_
                    refine J_aload 0 d_X_combine_146 rfl ?_
                    refine J_callVvx cw_X_150 nh_D_mix pn_D_mix rfl rfl (by omega) ((cF_0 (by decide)).trans hDk) (As := [.int (iI op), .ref (ad p1), .ref (ad p2)]) (rest := []) rfl (Nat.le_of_ble_eq_true rfl) ⟨by decide, by decide⟩ rfl ⟨by decide, by decide⟩ d_X_combine_148 (c_D_mix hfl (F0 := F0) (W := W) (K := K) (S := S) (x := p1) (ux := u1) (dx := d1) (kx := k1) (sx := s1) (y := p2) (uy := u2) (dy := d2) (ky := k2) (sy := s2) (op := op) hN hW (hDk) hpU1 (by omega) hu1 hd1 hk1 hs1 hr1 hb1 hpU2 (by omega) hu2 hd2 hk2 hs2 hr2 hb2 ⟨by omega, by omega⟩ (hb21 (by omega)).1 (hb22 (by omega)).1) (fun  F122 hq => ?_) (fun k9 F9 hq => by exact Or.inr ⟨_, rfl, rfl, rfl, QX_thr hO hFc hS hV (fun j hj => by rfl) hq⟩)
                    obtain ⟨kd107, sx108, u109, d110, W111, K112, S113, hr114, hb115, hf116, hk117, hs118, hu119, hd120, eF121⟩ := hq
                    refine J_eqF (F2 := cF ad g F0 W111 K112 S113) eF121 ?_
                    have hkn9 : kd107 ≠ -1 := mix_k hr114
                    refine J_goto (tgt := 166) d_X_combine_151 (by decide) ?_
                    refine J_aload_n 2 d_X_combine_166 rfl rfl ?_
                    refine J_iload 6 d_X_combine_167 rfl ?_
                    refine J_callVi cw_X_107 nh_X_keep pn_X_keep rfl rfl (by omega) ((cF_0 (by decide)).trans hX0) (As := [.int (iI to)]) (rest := []) rfl (Nat.le_of_ble_eq_true rfl) ⟨by decide, by decide⟩ rfl ⟨by decide, by decide⟩ d_X_combine_169 (c_X_keep hfl (F0 := F0) (W := W111) (K := K112) (S := S113) (to := to) (r := to.toNat) (u := u109) (d := d110) (q := 58 + 5 * to.toNat) (kd := kd107) (sx := sx108) hN hb115 (hX0) (hX1) hrf (hDk) ⟨by omega, by omega⟩ rfl rfl hk117 hs118 hu119 hd120) (fun z125 F126 hq => ?_)
                    obtain ⟨hz125, hb123, eF124⟩ := hq
                    refine J_eqF (F2 := cF ad g F0 (va_up (va_up W111 (58 + 5 * to.toNat + 1) u109) (58 + 5 * to.toNat + 3) d110) (va_up K112 (58 + 5 * to.toNat) kd107) (va_up S113 (58 + 5 * to.toNat) sx108)) eF124 ?_
                    refine J_topi (r := kd107) (congrArg iI hz125) ?_
                    refine J_iret rfl rfl d_X_combine_172 ⟨by decide, by decide⟩ ?_
                    exact Or.inl ⟨_, rfl, rfl, rfl, (kd107, sx108, u109, d110), (hO.trans (by rw [hr114]; rfl)), rfl, ⟨_, _, _, _, hS, (cV_put (cV_fr hV hb115 (fun j hj => hf116 j (by omega))) (by omega) hb123 hkn9), rfl⟩, (offC_e hFc (fun j hj => by rfl))⟩
                · have hT0 := hT
                  unfold hold at hT0
                  unfold hold at hC0 hz2u hk01 hb21
                  have hO : combO R op a b to = optO (shF s1 u1 v) := by
                    rw [hC0, if_neg (by omega)]
                    show optO (opV op (k1, s1, u1, d1) (k2, s2, u2, d2)) = _
                    unfold opV
                    rw [if_neg (by omega), if_pos (by omega)]
                    show optO (shF s1 u1 (s2 * (u2 : Int))) = _
                    rw [hv]
                  refine J_aload_n 2 d_X_combine_116 rfl rfl ?_
                  refine gf_X_30 (by omega) ((cF_0 (by decide)).trans hX0) rfl d_X_combine_117 ?_
                  refine J_aload 1 d_X_combine_120 rfl ?_
                  refine J_aload 0 d_X_combine_122 rfl ?_
                  refine J_callVi cw_X_139 nh_U_small pn_U_small rfl rfl (by omega) (cF_U hpU2 hk2 hs2) (As := []) (rest := [.ref (ad p1), .ref (ad 9)]) rfl (Nat.le_of_ble_eq_true rfl) ⟨by decide, by decide⟩ rfl ⟨by decide, by decide⟩ d_X_combine_124 (u_small hfl (F0 := F0) (W := W) (K := K) (S := S) (k := p2) (by omega) hW hpU2) (fun sm F9 hq => ?_)
                  obtain ⟨hsm, eF9⟩ := hq
                  refine J_eqF eF9 ?_
                  rw [hs2, hu2] at hsm
                  refine J_topi (r := v) (congrArg iI (hsm.trans (sm_v ⟨by omega, by omega⟩ hz2u hv ⟨by omega, by omega⟩))) ?_
                  refine J_callVvx cw_X_147 nh_D_shift pn_D_shift rfl rfl (by omega) ((cF_0 (by decide)).trans hDk) (As := [.ref (ad p1), .int (iI v)]) (rest := []) rfl (Nat.le_of_ble_eq_true rfl) ⟨by decide, by decide⟩ rfl ⟨by decide, by decide⟩ d_X_combine_127 (c_D_shift hfl (F0 := F0) (W := W) (K := K) (S := S) (x := p1) (ux := u1) (dx := d1) (kx := k1) (sx := s1) (by0 := v) hN hW (hDk) hpU1 (by omega) hu1 hd1 hk1 hs1 hr1 hb1 ⟨by omega, by omega⟩ (hb21 (by omega)).1 (hk01 (by omega))) (fun  F142 hq => ?_) (fun k9 F9 hq => by exact Or.inr ⟨_, rfl, rfl, rfl, QX_thr hO hFc hS hV (fun j hj => by rfl) hq⟩)
                  obtain ⟨kd127, sx128, u129, d130, W131, K132, S133, hr134, hb135, hf136, hk137, hs138, hu139, hd140, eF141⟩ := hq
                  refine J_eqF (F2 := cF ad g F0 W131 K132 S133) eF141 ?_
                  have hkn9 : kd127 ≠ -1 := sh_k hr134
                  refine J_goto (tgt := 166) d_X_combine_130 (by decide) ?_
                  refine J_aload_n 2 d_X_combine_166 rfl rfl ?_
                  refine J_iload 6 d_X_combine_167 rfl ?_
                  refine J_callVi cw_X_107 nh_X_keep pn_X_keep rfl rfl (by omega) ((cF_0 (by decide)).trans hX0) (As := [.int (iI to)]) (rest := []) rfl (Nat.le_of_ble_eq_true rfl) ⟨by decide, by decide⟩ rfl ⟨by decide, by decide⟩ d_X_combine_169 (c_X_keep hfl (F0 := F0) (W := W131) (K := K132) (S := S133) (to := to) (r := to.toNat) (u := u129) (d := d130) (q := 58 + 5 * to.toNat) (kd := kd127) (sx := sx128) hN hb135 (hX0) (hX1) hrf (hDk) ⟨by omega, by omega⟩ rfl rfl hk137 hs138 hu139 hd140) (fun z145 F146 hq => ?_)
                  obtain ⟨hz145, hb143, eF144⟩ := hq
                  refine J_eqF (F2 := cF ad g F0 (va_up (va_up W131 (58 + 5 * to.toNat + 1) u129) (58 + 5 * to.toNat + 3) d130) (va_up K132 (58 + 5 * to.toNat) kd127) (va_up S133 (58 + 5 * to.toNat) sx128)) eF144 ?_
                  refine J_topi (r := kd127) (congrArg iI hz145) ?_
                  refine J_iret rfl rfl d_X_combine_172 ⟨by decide, by decide⟩ ?_
                  exact Or.inl ⟨_, rfl, rfl, rfl, (kd127, sx128, u129, d130), (hO.trans (by rw [hr134]; rfl)), rfl, ⟨_, _, _, _, hS, (cV_put (cV_fr hV hb135 (fun j hj => hf136 j (by omega))) (by omega) hb143 hkn9), rfl⟩, (offC_e hFc (fun j hj => by rfl))⟩
              · have hT0 := hT
                unfold hold at hT0
                unfold hold at hC0 hz2u hk01 hk02 hs01
                have hO : combO R op a b to = optO (powF k1 s1 u1 d1 v.toNat) := by
                  rw [hC0, if_neg (by omega)]
                  show optO (opV op (k1, s1, u1, d1) (k2, s2, u2, d2)) = _
                  unfold opV
                  rw [if_pos (by omega)]
                  show optO (powF k1 s1 u1 d1 (s2 * (u2 : Int)).toNat) = _
                  rw [hv]
                refine J_aload_n 2 d_X_combine_93 rfl rfl ?_
                refine gf_X_30 (by omega) ((cF_0 (by decide)).trans hX0) rfl d_X_combine_94 ?_
                refine J_aload 1 d_X_combine_97 rfl ?_
                refine J_aload 0 d_X_combine_99 rfl ?_
                refine J_callVi cw_X_139 nh_U_small pn_U_small rfl rfl (by omega) (cF_U hpU2 hk2 hs2) (As := []) (rest := [.ref (ad p1), .ref (ad 9)]) rfl (Nat.le_of_ble_eq_true rfl) ⟨by decide, by decide⟩ rfl ⟨by decide, by decide⟩ d_X_combine_101 (u_small hfl (F0 := F0) (W := W) (K := K) (S := S) (k := p2) (by omega) hW hpU2) (fun sm F10 hq => ?_)
                obtain ⟨hsm, eF10⟩ := hq
                refine J_eqF eF10 ?_
                rw [hs2, hu2] at hsm
                refine J_topi (r := v) (congrArg iI (hsm.trans (sm_v ⟨by omega, by omega⟩ hz2u hv ⟨by omega, by omega⟩))) ?_
                refine J_callVvx cw_X_143 nh_D_raise pn_D_raise rfl rfl (by omega) ((cF_0 (by decide)).trans hDk) (As := [.ref (ad p1), .int (iI v)]) (rest := []) rfl (Nat.le_of_ble_eq_true rfl) ⟨by decide, by decide⟩ rfl ⟨by decide, by decide⟩ d_X_combine_104 (c_D_raise hfl (F0 := F0) (W := W) (K := K) (S := S) (x := p1) (ux := u1) (dx := d1) (kx := k1) (sx := s1) (y := v) hN hW (hDk) hpU1 (by omega) hu1 hd1 hk1 hs1 hr1 hb1 ⟨by omega, by omega⟩ (by omega) hd01 (fun _ => hcop1) hs01) (fun  F162 hq => ?_) (fun k9 F9 hq => by exact Or.inr ⟨_, rfl, rfl, rfl, QX_thr hO hFc hS hV (fun j hj => by rfl) hq⟩)
                obtain ⟨kd147, sx148, u149, d150, W151, K152, S153, hr154, hb155, hf156, hk157, hs158, hu159, hd160, eF161⟩ := hq
                refine J_eqF (F2 := cF ad g F0 W151 K152 S153) eF161 ?_
                have hkn9 : kd147 ≠ -1 := pow_k _ hr154 (by omega)
                refine J_goto (tgt := 166) d_X_combine_107 (by decide) ?_
                refine J_aload_n 2 d_X_combine_166 rfl rfl ?_
                refine J_iload 6 d_X_combine_167 rfl ?_
                refine J_callVi cw_X_107 nh_X_keep pn_X_keep rfl rfl (by omega) ((cF_0 (by decide)).trans hX0) (As := [.int (iI to)]) (rest := []) rfl (Nat.le_of_ble_eq_true rfl) ⟨by decide, by decide⟩ rfl ⟨by decide, by decide⟩ d_X_combine_169 (c_X_keep hfl (F0 := F0) (W := W151) (K := K152) (S := S153) (to := to) (r := to.toNat) (u := u149) (d := d150) (q := 58 + 5 * to.toNat) (kd := kd147) (sx := sx148) hN hb155 (hX0) (hX1) hrf (hDk) ⟨by omega, by omega⟩ rfl rfl hk157 hs158 hu159 hd160) (fun z165 F166 hq => ?_)
                obtain ⟨hz165, hb163, eF164⟩ := hq
                refine J_eqF (F2 := cF ad g F0 (va_up (va_up W151 (58 + 5 * to.toNat + 1) u149) (58 + 5 * to.toNat + 3) d150) (va_up K152 (58 + 5 * to.toNat) kd147) (va_up S153 (58 + 5 * to.toNat) sx148)) eF164 ?_
                refine J_topi (r := kd147) (congrArg iI hz165) ?_
                refine J_iret rfl rfl d_X_combine_172 ⟨by decide, by decide⟩ ?_
                exact Or.inl ⟨_, rfl, rfl, rfl, (kd147, sx148, u149, d150), (hO.trans (by rw [hr154]; rfl)), rfl, ⟨_, _, _, _, hS, (cV_put (cV_fr hV hb155 (fun j hj => hf156 j (by omega))) (by omega) hb163 hkn9), rfl⟩, (offC_e hFc (fun j hj => by rfl))⟩
            · refine J_aload 0 d_X_combine_69 rfl ?_
              refine gf_X_134 (by omega) (cF_U hpU2 hk2 hs2) rfl d_X_combine_71 ?_
              refine J_ifne (tgt := 87) d_X_combine_74 (by decide) ⟨by omega, by omega⟩ (fun c74 => ?_) (fun c74 => ?_)
              · refine J_iload_n 3 d_X_combine_87 rfl rfl ?_
                refine J_bipush d_X_combine_88 (i8_ok (by decide)) ?_
                refine J_if_icmpne (tgt := 110) d_X_combine_90 (by decide) ⟨by omega, by omega⟩ ⟨by omega, by omega⟩ (fun c90 => ?_) (fun c90 => ?_)
                · refine J_iload_n 3 d_X_combine_110 rfl rfl ?_
                  refine J_bipush d_X_combine_111 (i8_ok (by decide)) ?_
                  refine J_if_icmpne (tgt := 133) d_X_combine_113 (by decide) ⟨by omega, by omega⟩ ⟨by omega, by omega⟩ (fun c113 => ?_) (fun c113 => ?_)
                  · refine J_iload_n 3 d_X_combine_133 rfl rfl ?_
                    refine J_bipush d_X_combine_134 (i8_ok (by decide)) ?_
                    refine J_if_icmplt (tgt := 154) d_X_combine_136 (by decide) ⟨by omega, by omega⟩ ⟨by omega, by omega⟩ (fun c136 => ?_) (fun c136 => ?_)
                    · have hT0 := hT
                      unfold hold at hT0
                      unfold hold at hC0 hz2u hk01 hk02
                      have hO : combO R op a b to = optO (reckF op k1 s1 u1 d1 k2 s2 u2 d2) := by
                        rw [hC0, if_neg (by omega)]
                        show optO (opV op (k1, s1, u1, d1) (k2, s2, u2, d2)) = _
                        unfold opV
                        rw [if_neg (by omega), if_neg (by omega), if_neg (by omega)]
                      refine J_aload_n 2 d_X_combine_154 rfl rfl ?_
                      refine gf_X_30 (by omega) ((cF_0 (by decide)).trans hX0) rfl d_X_combine_155 ?_
                      refine J_iload_n 3 d_X_combine_158 rfl rfl ?_
                      refine J_aload 1 d_X_combine_159 rfl ?_
                      refine J_aload 0 d_X_combine_161 rfl ?_
                      refine J_callVvx cw_X_154 nh_D_reckon pn_D_reckon rfl rfl (by omega) ((cF_0 (by decide)).trans hDk) (As := [.int (iI op), .ref (ad p1), .ref (ad p2)]) (rest := []) rfl (Nat.le_of_ble_eq_true rfl) ⟨by decide, by decide⟩ rfl ⟨by decide, by decide⟩ d_X_combine_163 (c_D_reckon hfl (F0 := F0) (W := W) (K := K) (S := S) (x := p1) (ux := u1) (dx := d1) (kx := k1) (sx := s1) (y := p2) (uy := u2) (dy := d2) (ky := k2) (sy := s2) (op := op) hN hW (hDk) hpU1 (by omega) hu1 hd1 hk1 hs1 hr1 hb1 hpU2 (by omega) hu2 hd2 hk2 hs2 hr2 hb2 ⟨by omega, by omega⟩ (by omega) (by omega) hd01 hd02 hk01 hk02 (fun q => by omega)) (fun  F182 hq => ?_) (fun k9 F9 hq => by exact Or.inr ⟨_, rfl, rfl, rfl, QX_thr hO hFc hS hV (fun j hj => by rfl) hq⟩)
                      obtain ⟨kd167, sx168, u169, d170, W171, K172, S173, hr174, hb175, hf176, hk177, hs178, hu179, hd180, eF181⟩ := hq
                      refine J_eqF (F2 := cF ad g F0 W171 K172 S173) eF181 ?_
                      have hkn9 : kd167 ≠ -1 := reck_k hr174 (by omega)
                      refine J_aload_n 2 d_X_combine_166 rfl rfl ?_
                      refine J_iload 6 d_X_combine_167 rfl ?_
                      refine J_callVi cw_X_107 nh_X_keep pn_X_keep rfl rfl (by omega) ((cF_0 (by decide)).trans hX0) (As := [.int (iI to)]) (rest := []) rfl (Nat.le_of_ble_eq_true rfl) ⟨by decide, by decide⟩ rfl ⟨by decide, by decide⟩ d_X_combine_169 (c_X_keep hfl (F0 := F0) (W := W171) (K := K172) (S := S173) (to := to) (r := to.toNat) (u := u169) (d := d170) (q := 58 + 5 * to.toNat) (kd := kd167) (sx := sx168) hN hb175 (hX0) (hX1) hrf (hDk) ⟨by omega, by omega⟩ rfl rfl hk177 hs178 hu179 hd180) (fun z185 F186 hq => ?_)
                      obtain ⟨hz185, hb183, eF184⟩ := hq
                      refine J_eqF (F2 := cF ad g F0 (va_up (va_up W171 (58 + 5 * to.toNat + 1) u169) (58 + 5 * to.toNat + 3) d170) (va_up K172 (58 + 5 * to.toNat) kd167) (va_up S173 (58 + 5 * to.toNat) sx168)) eF184 ?_
                      refine J_topi (r := kd167) (congrArg iI hz185) ?_
                      refine J_iret rfl rfl d_X_combine_172 ⟨by decide, by decide⟩ ?_
                      exact Or.inl ⟨_, rfl, rfl, rfl, (kd167, sx168, u169, d170), (hO.trans (by rw [hr174]; rfl)), rfl, ⟨_, _, _, _, hS, (cV_put (cV_fr hV hb175 (fun j hj => hf176 j (by omega))) (by omega) hb183 hkn9), rfl⟩, (offC_e hFc (fun j hj => by rfl))⟩
                    · have hT0 := hT
                      unfold hold at hT0
                      unfold hold at hC0 hb21 hb22
                      have hO : combO R op a b to = optO (mixF op s1 u1 s2 u2) := by
                        rw [hC0, if_neg (by omega)]
                        show optO (opV op (k1, s1, u1, d1) (k2, s2, u2, d2)) = _
                        unfold opV
                        rw [if_neg (by omega), if_neg (by omega), if_pos (by omega)]
                      refine J_aload_n 2 d_X_combine_139 rfl rfl ?_
                      refine gf_X_30 (by omega) ((cF_0 (by decide)).trans hX0) rfl d_X_combine_140 ?_
                      refine J_iload_n 3 d_X_combine_143 rfl rfl ?_
                      refine J_aload 1 d_X_combine_144 rfl ?_
                      refine J_aload 0 d_X_combine_146 rfl ?_
                      refine J_callVvx cw_X_150 nh_D_mix pn_D_mix rfl rfl (by omega) ((cF_0 (by decide)).trans hDk) (As := [.int (iI op), .ref (ad p1), .ref (ad p2)]) (rest := []) rfl (Nat.le_of_ble_eq_true rfl) ⟨by decide, by decide⟩ rfl ⟨by decide, by decide⟩ d_X_combine_148 (c_D_mix hfl (F0 := F0) (W := W) (K := K) (S := S) (x := p1) (ux := u1) (dx := d1) (kx := k1) (sx := s1) (y := p2) (uy := u2) (dy := d2) (ky := k2) (sy := s2) (op := op) hN hW (hDk) hpU1 (by omega) hu1 hd1 hk1 hs1 hr1 hb1 hpU2 (by omega) hu2 hd2 hk2 hs2 hr2 hb2 ⟨by omega, by omega⟩ (hb21 (by omega)).1 (hb22 (by omega)).1) (fun  F202 hq => ?_) (fun k9 F9 hq => by exact Or.inr ⟨_, rfl, rfl, rfl, QX_thr hO hFc hS hV (fun j hj => by rfl) hq⟩)
                      obtain ⟨kd187, sx188, u189, d190, W191, K192, S193, hr194, hb195, hf196, hk197, hs198, hu199, hd200, eF201⟩ := hq
                      refine J_eqF (F2 := cF ad g F0 W191 K192 S193) eF201 ?_
                      have hkn9 : kd187 ≠ -1 := mix_k hr194
                      refine J_goto (tgt := 166) d_X_combine_151 (by decide) ?_
                      refine J_aload_n 2 d_X_combine_166 rfl rfl ?_
                      refine J_iload 6 d_X_combine_167 rfl ?_
                      refine J_callVi cw_X_107 nh_X_keep pn_X_keep rfl rfl (by omega) ((cF_0 (by decide)).trans hX0) (As := [.int (iI to)]) (rest := []) rfl (Nat.le_of_ble_eq_true rfl) ⟨by decide, by decide⟩ rfl ⟨by decide, by decide⟩ d_X_combine_169 (c_X_keep hfl (F0 := F0) (W := W191) (K := K192) (S := S193) (to := to) (r := to.toNat) (u := u189) (d := d190) (q := 58 + 5 * to.toNat) (kd := kd187) (sx := sx188) hN hb195 (hX0) (hX1) hrf (hDk) ⟨by omega, by omega⟩ rfl rfl hk197 hs198 hu199 hd200) (fun z205 F206 hq => ?_)
                      obtain ⟨hz205, hb203, eF204⟩ := hq
                      refine J_eqF (F2 := cF ad g F0 (va_up (va_up W191 (58 + 5 * to.toNat + 1) u189) (58 + 5 * to.toNat + 3) d190) (va_up K192 (58 + 5 * to.toNat) kd187) (va_up S193 (58 + 5 * to.toNat) sx188)) eF204 ?_
                      refine J_topi (r := kd187) (congrArg iI hz205) ?_
                      refine J_iret rfl rfl d_X_combine_172 ⟨by decide, by decide⟩ ?_
                      exact Or.inl ⟨_, rfl, rfl, rfl, (kd187, sx188, u189, d190), (hO.trans (by rw [hr194]; rfl)), rfl, ⟨_, _, _, _, hS, (cV_put (cV_fr hV hb195 (fun j hj => hf196 j (by omega))) (by omega) hb203 hkn9), rfl⟩, (offC_e hFc (fun j hj => by rfl))⟩
                  · have hT0 := hT
                    unfold hold at hT0
                    unfold hold at hC0 hz2u hk01 hb21
                    have hO : combO R op a b to = optO (shF s1 u1 v) := by
                      rw [hC0, if_neg (by omega)]
                      show optO (opV op (k1, s1, u1, d1) (k2, s2, u2, d2)) = _
                      unfold opV
                      rw [if_neg (by omega), if_pos (by omega)]
                      show optO (shF s1 u1 (s2 * (u2 : Int))) = _
                      rw [hv]
                    refine J_aload_n 2 d_X_combine_116 rfl rfl ?_
                    refine gf_X_30 (by omega) ((cF_0 (by decide)).trans hX0) rfl d_X_combine_117 ?_
                    refine J_aload 1 d_X_combine_120 rfl ?_
                    refine J_aload 0 d_X_combine_122 rfl ?_
                    refine J_callVi cw_X_139 nh_U_small pn_U_small rfl rfl (by omega) (cF_U hpU2 hk2 hs2) (As := []) (rest := [.ref (ad p1), .ref (ad 9)]) rfl (Nat.le_of_ble_eq_true rfl) ⟨by decide, by decide⟩ rfl ⟨by decide, by decide⟩ d_X_combine_124 (u_small hfl (F0 := F0) (W := W) (K := K) (S := S) (k := p2) (by omega) hW hpU2) (fun sm F11 hq => ?_)
                    obtain ⟨hsm, eF11⟩ := hq
                    refine J_eqF eF11 ?_
                    rw [hs2, hu2] at hsm
                    refine J_topi (r := v) (congrArg iI (hsm.trans (sm_v ⟨by omega, by omega⟩ hz2u hv ⟨by omega, by omega⟩))) ?_
                    refine J_callVvx cw_X_147 nh_D_shift pn_D_shift rfl rfl (by omega) ((cF_0 (by decide)).trans hDk) (As := [.ref (ad p1), .int (iI v)]) (rest := []) rfl (Nat.le_of_ble_eq_true rfl) ⟨by decide, by decide⟩ rfl ⟨by decide, by decide⟩ d_X_combine_127 (c_D_shift hfl (F0 := F0) (W := W) (K := K) (S := S) (x := p1) (ux := u1) (dx := d1) (kx := k1) (sx := s1) (by0 := v) hN hW (hDk) hpU1 (by omega) hu1 hd1 hk1 hs1 hr1 hb1 ⟨by omega, by omega⟩ (hb21 (by omega)).1 (hk01 (by omega))) (fun  F222 hq => ?_) (fun k9 F9 hq => by exact Or.inr ⟨_, rfl, rfl, rfl, QX_thr hO hFc hS hV (fun j hj => by rfl) hq⟩)
                    obtain ⟨kd207, sx208, u209, d210, W211, K212, S213, hr214, hb215, hf216, hk217, hs218, hu219, hd220, eF221⟩ := hq
                    refine J_eqF (F2 := cF ad g F0 W211 K212 S213) eF221 ?_
                    have hkn9 : kd207 ≠ -1 := sh_k hr214
                    refine J_goto (tgt := 166) d_X_combine_130 (by decide) ?_
                    refine J_aload_n 2 d_X_combine_166 rfl rfl ?_
                    refine J_iload 6 d_X_combine_167 rfl ?_
                    refine J_callVi cw_X_107 nh_X_keep pn_X_keep rfl rfl (by omega) ((cF_0 (by decide)).trans hX0) (As := [.int (iI to)]) (rest := []) rfl (Nat.le_of_ble_eq_true rfl) ⟨by decide, by decide⟩ rfl ⟨by decide, by decide⟩ d_X_combine_169 (c_X_keep hfl (F0 := F0) (W := W211) (K := K212) (S := S213) (to := to) (r := to.toNat) (u := u209) (d := d210) (q := 58 + 5 * to.toNat) (kd := kd207) (sx := sx208) hN hb215 (hX0) (hX1) hrf (hDk) ⟨by omega, by omega⟩ rfl rfl hk217 hs218 hu219 hd220) (fun z225 F226 hq => ?_)
                    obtain ⟨hz225, hb223, eF224⟩ := hq
                    refine J_eqF (F2 := cF ad g F0 (va_up (va_up W211 (58 + 5 * to.toNat + 1) u209) (58 + 5 * to.toNat + 3) d210) (va_up K212 (58 + 5 * to.toNat) kd207) (va_up S213 (58 + 5 * to.toNat) sx208)) eF224 ?_
                    refine J_topi (r := kd207) (congrArg iI hz225) ?_
                    refine J_iret rfl rfl d_X_combine_172 ⟨by decide, by decide⟩ ?_
                    exact Or.inl ⟨_, rfl, rfl, rfl, (kd207, sx208, u209, d210), (hO.trans (by rw [hr214]; rfl)), rfl, ⟨_, _, _, _, hS, (cV_put (cV_fr hV hb215 (fun j hj => hf216 j (by omega))) (by omega) hb223 hkn9), rfl⟩, (offC_e hFc (fun j hj => by rfl))⟩
                · have hT0 := hT
                  unfold hold at hT0
                  unfold hold at hC0 hz2u hk01 hk02 hs01
                  have hO : combO R op a b to = optO (powF k1 s1 u1 d1 v.toNat) := by
                    rw [hC0, if_neg (by omega)]
                    show optO (opV op (k1, s1, u1, d1) (k2, s2, u2, d2)) = _
                    unfold opV
                    rw [if_pos (by omega)]
                    show optO (powF k1 s1 u1 d1 (s2 * (u2 : Int)).toNat) = _
                    rw [hv]
                  refine J_aload_n 2 d_X_combine_93 rfl rfl ?_
                  refine gf_X_30 (by omega) ((cF_0 (by decide)).trans hX0) rfl d_X_combine_94 ?_
                  refine J_aload 1 d_X_combine_97 rfl ?_
                  refine J_aload 0 d_X_combine_99 rfl ?_
                  refine J_callVi cw_X_139 nh_U_small pn_U_small rfl rfl (by omega) (cF_U hpU2 hk2 hs2) (As := []) (rest := [.ref (ad p1), .ref (ad 9)]) rfl (Nat.le_of_ble_eq_true rfl) ⟨by decide, by decide⟩ rfl ⟨by decide, by decide⟩ d_X_combine_101 (u_small hfl (F0 := F0) (W := W) (K := K) (S := S) (k := p2) (by omega) hW hpU2) (fun sm F12 hq => ?_)
                  obtain ⟨hsm, eF12⟩ := hq
                  refine J_eqF eF12 ?_
                  rw [hs2, hu2] at hsm
                  refine J_topi (r := v) (congrArg iI (hsm.trans (sm_v ⟨by omega, by omega⟩ hz2u hv ⟨by omega, by omega⟩))) ?_
                  refine J_callVvx cw_X_143 nh_D_raise pn_D_raise rfl rfl (by omega) ((cF_0 (by decide)).trans hDk) (As := [.ref (ad p1), .int (iI v)]) (rest := []) rfl (Nat.le_of_ble_eq_true rfl) ⟨by decide, by decide⟩ rfl ⟨by decide, by decide⟩ d_X_combine_104 (c_D_raise hfl (F0 := F0) (W := W) (K := K) (S := S) (x := p1) (ux := u1) (dx := d1) (kx := k1) (sx := s1) (y := v) hN hW (hDk) hpU1 (by omega) hu1 hd1 hk1 hs1 hr1 hb1 ⟨by omega, by omega⟩ (by omega) hd01 (fun _ => hcop1) hs01) (fun  F242 hq => ?_) (fun k9 F9 hq => by exact Or.inr ⟨_, rfl, rfl, rfl, QX_thr hO hFc hS hV (fun j hj => by rfl) hq⟩)
                  obtain ⟨kd227, sx228, u229, d230, W231, K232, S233, hr234, hb235, hf236, hk237, hs238, hu239, hd240, eF241⟩ := hq
                  refine J_eqF (F2 := cF ad g F0 W231 K232 S233) eF241 ?_
                  have hkn9 : kd227 ≠ -1 := pow_k _ hr234 (by omega)
                  refine J_goto (tgt := 166) d_X_combine_107 (by decide) ?_
                  refine J_aload_n 2 d_X_combine_166 rfl rfl ?_
                  refine J_iload 6 d_X_combine_167 rfl ?_
                  refine J_callVi cw_X_107 nh_X_keep pn_X_keep rfl rfl (by omega) ((cF_0 (by decide)).trans hX0) (As := [.int (iI to)]) (rest := []) rfl (Nat.le_of_ble_eq_true rfl) ⟨by decide, by decide⟩ rfl ⟨by decide, by decide⟩ d_X_combine_169 (c_X_keep hfl (F0 := F0) (W := W231) (K := K232) (S := S233) (to := to) (r := to.toNat) (u := u229) (d := d230) (q := 58 + 5 * to.toNat) (kd := kd227) (sx := sx228) hN hb235 (hX0) (hX1) hrf (hDk) ⟨by omega, by omega⟩ rfl rfl hk237 hs238 hu239 hd240) (fun z245 F246 hq => ?_)
                  obtain ⟨hz245, hb243, eF244⟩ := hq
                  refine J_eqF (F2 := cF ad g F0 (va_up (va_up W231 (58 + 5 * to.toNat + 1) u229) (58 + 5 * to.toNat + 3) d230) (va_up K232 (58 + 5 * to.toNat) kd227) (va_up S233 (58 + 5 * to.toNat) sx228)) eF244 ?_
                  refine J_topi (r := kd227) (congrArg iI hz245) ?_
                  refine J_iret rfl rfl d_X_combine_172 ⟨by decide, by decide⟩ ?_
                  exact Or.inl ⟨_, rfl, rfl, rfl, (kd227, sx228, u229, d230), (hO.trans (by rw [hr234]; rfl)), rfl, ⟨_, _, _, _, hS, (cV_put (cV_fr hV hb235 (fun j hj => hf236 j (by omega))) (by omega) hb243 hkn9), rfl⟩, (offC_e hFc (fun j hj => by rfl))⟩
              · unfold hold at hC0 hz2u
                refine J_throw (k := 1) (by decide) wd_594 wd_595 wd_16 wd_604 (List.mem_of_getElem? (i := 4) rfl) d_X_combine_77 d_X_combine_80 d_X_combine_81 d_X_combine_83 d_X_combine_86 ⟨by decide, by decide⟩ (by decide) (by decide) ?_
                exact Or.inr ⟨_, rfl, rfl, rfl, (by rw [hC0, if_pos ⟨by omega, by omega, by omega⟩]; rfl), ⟨_, _, _, _, hS, hV, rfl⟩, (offC_e hFc (fun j hj => by rfl))⟩
        · refine J_throw (k := 0) (by decide) wd_525 wd_526 wd_15 wd_567 (List.mem_of_getElem? (i := 3) rfl) d_X_combine_49 d_X_combine_52 d_X_combine_53 d_X_combine_55 d_X_combine_58 ⟨by decide, by decide⟩ (by decide) (by decide) ?_
          exact Or.inr ⟨_, rfl, rfl, rfl, (by
            have hTF : ¬ ((0 ≤ op ∧ op ≤ 10) ∧ ((op = 6 ∧ k2 = 0 ∧ 0 ≤ v ∧ v ≤ 40) ∨ op < 6 ∨ (6 < op ∧ k1 = 0 ∧ k2 = 0 ∧ (op < 10 ∨ (-120 ≤ v ∧ v ≤ 120))))) := by
              have h9 := hzF
              unfold hold at h9
              exact h9 (by omega)
            unfold combO
            rw [hRV1, hRV2, if_neg (fun q => hTF (hTPi q.1))]
            rfl), ⟨_, _, _, _, hS, hV, rfl⟩, (offC_e hFc (fun j hj => by rfl))⟩
