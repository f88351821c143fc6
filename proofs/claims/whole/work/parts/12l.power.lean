/-! the Model: power -/
/-- what power may be taken of -/
def powC (X Y Mv : Vn) (to : Int) : Prop := (0 ≤ to ∧ to ≤ 7) ∧ X.1 = 0 ∧ Mv.1 = 0 ∧ 0 < Mv.2.1 ∧ Y.1 = 0 ∧ (-999 ≤ Y.2.1 * (Y.2.2.1 : Int) ∧ Y.2.1 * (Y.2.2.1 : Int) ≤ 999)
def powR (X Y Mv : Vn) (to : Int) (o : Sum Int Vn) : Prop :=
  (¬ powC X Y Mv to ∧ o = .inl 0) ∨ (powC X Y Mv to ∧ Y.2.1 * (Y.2.2.1 : Int) < 0 ∧ Nat.gcd (modB X.2.1 X.2.2.1 Mv.2.2.1) Mv.2.2.1 ≠ 1 ∧ o = .inl 1) ∨
  (powC X Y Mv to ∧ ∃ b, b < Mv.2.2.1 ∧ (0 ≤ Y.2.1 * (Y.2.2.1 : Int) → b = modB X.2.1 X.2.2.1 Mv.2.2.1) ∧ (Y.2.1 * (Y.2.2.1 : Int) < 0 → Nat.gcd (modB X.2.1 X.2.2.1 Mv.2.2.1) Mv.2.2.1 = 1 ∧ modB X.2.1 X.2.2.1 Mv.2.2.1 * b % Mv.2.2.1 = 1 % Mv.2.2.1) ∧
    o = .inr (0, if b ^ (Y.2.1 * (Y.2.2.1 : Int)).natAbs % Mv.2.2.1 = 0 then 0 else 1, b ^ (Y.2.1 * (Y.2.2.1 : Int)).natAbs % Mv.2.2.1, 1))
theorem powR_one {X Y Mv : Vn} {to : Int} {o1 o2 : Sum Int Vn} (h1 : powR X Y Mv to o1) (h2 : powR X Y Mv to o2) : o1 = o2 := by
  rcases h1 with ⟨a1, rfl⟩ | ⟨a1, b1, c1, rfl⟩ | ⟨a1, b, c1, d1, e1, rfl⟩
  · rcases h2 with ⟨a2, rfl⟩ | ⟨a2, _⟩ | ⟨a2, _⟩
    · rfl
    · exact absurd a2 a1
    · exact absurd a2 a1
  · rcases h2 with ⟨a2, rfl⟩ | ⟨a2, b2, c2, rfl⟩ | ⟨a2, b', c2, d2, e2, rfl⟩
    · exact absurd a1 a2
    · rfl
    · exact absurd (e2 b1).1 c1
  · rcases h2 with ⟨a2, rfl⟩ | ⟨a2, b2, c2, rfl⟩ | ⟨a2, b', c2, d2, e2, rfl⟩
    · exact absurd a1 a2
    · exact absurd (e1 b2).1 c2
    · have : b = b' := by
        by_cases n : Y.2.1 * (Y.2.2.1 : Int) < 0
        · exact inv_one c1 c2 (e1 n).2 (e2 n).2
        · rw [d1 (by omega), d2 (by omega)]
      rw [this]
theorem rd_modB {b s : Int} {a m : Nat} (h : (b = 1 ∧ s < 0) ∨ (b = 0 ∧ 0 ≤ s)) : rdN b a m = modB s a m := by
  unfold rdN modB
  by_cases q : s < 0 ∧ a % m ≠ 0
  · rw [if_pos q, if_pos ⟨by omega, q.2⟩]
  · rw [if_neg q, if_neg (fun w => q ⟨by omega, w.2⟩)]
theorem fin_one {r : Nat} (h : r < 2 ^ 120) : fin 0 1 r 1 = some (0, if r = 0 then 0 else 1, r, 1) := by
  unfold fin
  rw [if_neg (by decide), low_one.1, low_one.2, if_pos ⟨blen_le.mpr h, by decide⟩]
theorem regV_k {kk bb : Nat → Int} {rr : Nat → UInt64} {V : Nat → Nat} {R : Nat → Vn} (h : mR kk bb rr V R) {a : Int} (ha : 0 ≤ a ∧ a ≤ 7) : (regV R a).1 = kk a.toNat := by
  rw [regV_in ha, ← (h a.toNat (by omega)).2.1]
set_option maxRecDepth 100000 in
set_option maxHeartbeats 4000000 in
theorem c_M_power {l : Launch} (hfl : l.flags = flags0) {D : va_G} {g : Nat → ClassId} {ad : Nat → Nat} {N : Nat} {F : Nat → va_E} {R : Nat → Vn} {ln sh : List Nat} {th0 : Int} {x y m to : Int}
    (hN : 109 ≤ N) (hM : mst ad g R ln sh th0 F) (hx : inI x) (hy : inI y) (hm : inI m) (hto : inI to) :
    JC l y_M_power b_M_power 8 (Option.some Jvm.ClassFile.FieldType.int) rm_M_power (0, 0) D jCl (jTys g) ad N F [.ref (ad 98), .int (iI x), .int (iI y), .int (iI m), .int (iI to)] (ji ad N (fun z F' => ∃ o, powR (regV R x) (regV R y) (regV R m) to o ∧ msto ad g R ln sh (fun k => k + 1) to o z F' ∧ offM F F')) := by
  obtain ⟨hh, ll, f, v, V, br, kk, bb, rr, lh, xh, dh, tt, hD0, hth⟩ := hM
  have hD := hD0
  obtain ⟨hO, hB, hL, hR, hzz, hKk, hBb, hRr, hmr, h104, h105, h106, h107, hln, hsh⟩ := hD
  have hkI := mR_kI hmr
  refine JC.go hfl (own := "NumberTowerModel") (lv := [(0, .ref (ad 98)), (1, .int (iI x)), (2, .int (iI y)), (3, .int (iI m)), (4, .int (iI to))]) rfl (by decide +kernel) (Nat.le_of_ble_eq_true rfl) rfl (fun A => ?_)
  refine J_aload_n 0 d_M_power_0 rfl rfl ?_
  refine J_iconst d_M_power_1 ?_
  refine pm_M_39 (by omega) hO d_M_power_2 ?_
  refine J_aload_n 0 d_M_power_5 rfl rfl ?_
  refine J_iload_n 1 d_M_power_6 rfl rfl ?_
  refine J_callVi cw_M_176 nh_M_isNumber pn_M_isNumber rfl rfl (by omega) (by rw [va_up_self]) (As := [.int (iI x)]) (rest := []) rfl (Nat.le_of_ble_eq_true rfl) ⟨by decide, by decide⟩ rfl ⟨by decide, by decide⟩ d_M_power_7 (c_M_isNumber hfl (r := x) (f := va_up f 10 0) (v := v) (kk := kk) hN (by rw [va_up_self]) (by rw [va_up_ne _ _ (by decide)]; exact hKk) (hx) (fun j hj => ⟨by have := hkI j hj; omega, by have := hkI j hj; omega⟩)) (fun za F1 hq => ?_)
  obtain ⟨hza, eF1⟩ := hq
  refine J_eqF eF1 ?_
  refine J_ifeq (tgt := 71) d_M_power_10 (by decide) ⟨by omega, by omega⟩ (fun c10 => ?_) (fun c10 => ?_)
  · refine J_iconst d_M_power_71 ?_
    refine J_istore (lv' := [(5, .int (iI 0)), (0, .ref (ad 98)), (1, .int (iI x)), (2, .int (iI y)), (3, .int (iI m)), (4, .int (iI to))]) d_M_power_72 (by decide) rfl ?_
    refine J_iload 0 d_M_power_74 rfl ?_
    refine J_ifeq (tgt := 109) d_M_power_76 (by decide) ⟨by omega, by omega⟩ (fun c76 => ?_) (fun c76 => ?_)
    · refine J_aload_n 1 d_M_power_109 rfl rfl ?_
      refine J_iconst d_M_power_110 ?_
      refine J_callVi cw_M_135 nh_M_fail pn_M_fail rfl rfl (by omega) (by rw [va_up_self]) (As := [.int (iI 1)]) (rest := []) rfl (Nat.le_of_ble_eq_true rfl) ⟨by decide, by decide⟩ rfl ⟨by decide, by decide⟩ d_M_power_111 (c_M_fail hfl (code := 1) (f := va_up f 10 0) (v := v) hN (by rw [va_up_self])) (fun z1 F2 hq => ?_)
      obtain ⟨hz1, eF2⟩ := hq
      refine J_eqF (F2 := va_up F 98 (oM ad (va_up f 10 1) v)) ((eF2.trans (congrArg (fun qq : Nat → Int => va_up (va_up F 98 (oM ad (va_up f 10 0) v)) 98 (oM ad qq v)) (up_in0))).trans (up_in0)) ?_
      refine J_topi (r := 0) (congrArg iI hz1) ?_
      refine J_eqF (F2 := va_up (va_up F 98 (oM ad (va_up f 10 1) v)) 99 (.inl (g 0, 858, .inl (aI hh)))) (up_same1 (by rw [va_up_ne _ _ (by decide)]; exact hB)) ?_
      refine J_eqF (F2 := va_up (va_up (va_up F 98 (oM ad (va_up f 10 1) v)) 99 (.inl (g 0, 858, .inl (aI hh)))) 100 (.inl (g 0, 33, .inl (aI ll)))) (up_same1 (by rw [va_up_ne _ _ (by decide), va_up_ne _ _ (by decide)]; exact hL)) ?_
      refine J_iret rfl rfl d_M_power_114 ⟨by decide, by decide⟩ ?_
      exact ⟨_, rfl, rfl, rfl, .inl 0, Or.inl ⟨(fun h : powC _ _ _ _ => by have h1 := h.2.1; rw [regV_no hmr ((hza.resolve_left (fun w => by rw [c10] at w; exact absurd w.1 (by decide))).2)] at h1; exact absurd h1 (by decide)), rfl⟩, Or.inl ⟨0, rfl, rfl, mst_3 hD0 hR hzz (fun k hk => (show (V) k = V k from by rfl)) (va_up_ne _ _ (by decide)) (va_up_ne _ _ (by decide)) (va_up_self ..)⟩, offM_3⟩
    · exact absurd c76 (by decide)
  · refine J_aload_n 0 d_M_power_13 rfl rfl ?_
    refine J_iload_n 2 d_M_power_14 rfl rfl ?_
    refine J_callVi cw_M_176 nh_M_isNumber pn_M_isNumber rfl rfl (by omega) (by rw [va_up_self]) (As := [.int (iI y)]) (rest := []) rfl (Nat.le_of_ble_eq_true rfl) ⟨by decide, by decide⟩ rfl ⟨by decide, by decide⟩ d_M_power_15 (c_M_isNumber hfl (r := y) (f := va_up f 10 0) (v := v) (kk := kk) hN (by rw [va_up_self]) (by rw [va_up_ne _ _ (by decide)]; exact hKk) (hy) (fun j hj => ⟨by have := hkI j hj; omega, by have := hkI j hj; omega⟩)) (fun zb F3 hq => ?_)
    obtain ⟨hzb, eF3⟩ := hq
    refine J_eqF eF3 ?_
    refine J_ifeq (tgt := 71) d_M_power_18 (by decide) ⟨by omega, by omega⟩ (fun c18 => ?_) (fun c18 => ?_)
    · refine J_iconst d_M_power_71 ?_
      refine J_istore (lv' := [(5, .int (iI 0)), (0, .ref (ad 98)), (1, .int (iI x)), (2, .int (iI y)), (3, .int (iI m)), (4, .int (iI to))]) d_M_power_72 (by decide) rfl ?_
      refine J_iload 0 d_M_power_74 rfl ?_
      refine J_ifeq (tgt := 109) d_M_power_76 (by decide) ⟨by omega, by omega⟩ (fun c76 => ?_) (fun c76 => ?_)
      · refine J_aload_n 1 d_M_power_109 rfl rfl ?_
        refine J_iconst d_M_power_110 ?_
        refine J_callVi cw_M_135 nh_M_fail pn_M_fail rfl rfl (by omega) (by rw [va_up_self]) (As := [.int (iI 1)]) (rest := []) rfl (Nat.le_of_ble_eq_true rfl) ⟨by decide, by decide⟩ rfl ⟨by decide, by decide⟩ d_M_power_111 (c_M_fail hfl (code := 1) (f := va_up f 10 0) (v := v) hN (by rw [va_up_self])) (fun z2 F4 hq => ?_)
        obtain ⟨hz2, eF4⟩ := hq
        refine J_eqF (F2 := va_up F 98 (oM ad (va_up f 10 1) v)) ((eF4.trans (congrArg (fun qq : Nat → Int => va_up (va_up F 98 (oM ad (va_up f 10 0) v)) 98 (oM ad qq v)) (up_in0))).trans (up_in0)) ?_
        refine J_topi (r := 0) (congrArg iI hz2) ?_
        refine J_eqF (F2 := va_up (va_up F 98 (oM ad (va_up f 10 1) v)) 99 (.inl (g 0, 858, .inl (aI hh)))) (up_same1 (by rw [va_up_ne _ _ (by decide)]; exact hB)) ?_
        refine J_eqF (F2 := va_up (va_up (va_up F 98 (oM ad (va_up f 10 1) v)) 99 (.inl (g 0, 858, .inl (aI hh)))) 100 (.inl (g 0, 33, .inl (aI ll)))) (up_same1 (by rw [va_up_ne _ _ (by decide), va_up_ne _ _ (by decide)]; exact hL)) ?_
        refine J_iret rfl rfl d_M_power_114 ⟨by decide, by decide⟩ ?_
        exact ⟨_, rfl, rfl, rfl, .inl 0, Or.inl ⟨(fun h : powC _ _ _ _ => by have h1 := h.2.2.2.2.1; rw [regV_no hmr ((hzb.resolve_left (fun w => by rw [c18] at w; exact absurd w.1 (by decide))).2)] at h1; exact absurd h1 (by decide)), rfl⟩, Or.inl ⟨0, rfl, rfl, mst_3 hD0 hR hzz (fun k hk => (show (V) k = V k from by rfl)) (va_up_ne _ _ (by decide)) (va_up_ne _ _ (by decide)) (va_up_self ..)⟩, offM_3⟩
      · exact absurd c76 (by decide)
    · refine J_aload_n 0 d_M_power_21 rfl rfl ?_
      refine J_iload_n 3 d_M_power_22 rfl rfl ?_
      refine J_callVi cw_M_176 nh_M_isNumber pn_M_isNumber rfl rfl (by omega) (by rw [va_up_self]) (As := [.int (iI m)]) (rest := []) rfl (Nat.le_of_ble_eq_true rfl) ⟨by decide, by decide⟩ rfl ⟨by decide, by decide⟩ d_M_power_23 (c_M_isNumber hfl (r := m) (f := va_up f 10 0) (v := v) (kk := kk) hN (by rw [va_up_self]) (by rw [va_up_ne _ _ (by decide)]; exact hKk) (hm) (fun j hj => ⟨by have := hkI j hj; omega, by have := hkI j hj; omega⟩)) (fun zc F5 hq => ?_)
      obtain ⟨hzc, eF5⟩ := hq
      refine J_eqF eF5 ?_
      refine J_ifeq (tgt := 71) d_M_power_26 (by decide) ⟨by omega, by omega⟩ (fun c26 => ?_) (fun c26 => ?_)
      · refine J_iconst d_M_power_71 ?_
        refine J_istore (lv' := [(5, .int (iI 0)), (0, .ref (ad 98)), (1, .int (iI x)), (2, .int (iI y)), (3, .int (iI m)), (4, .int (iI to))]) d_M_power_72 (by decide) rfl ?_
        refine J_iload 0 d_M_power_74 rfl ?_
        refine J_ifeq (tgt := 109) d_M_power_76 (by decide) ⟨by omega, by omega⟩ (fun c76 => ?_) (fun c76 => ?_)
        · refine J_aload_n 1 d_M_power_109 rfl rfl ?_
          refine J_iconst d_M_power_110 ?_
          refine J_callVi cw_M_135 nh_M_fail pn_M_fail rfl rfl (by omega) (by rw [va_up_self]) (As := [.int (iI 1)]) (rest := []) rfl (Nat.le_of_ble_eq_true rfl) ⟨by decide, by decide⟩ rfl ⟨by decide, by decide⟩ d_M_power_111 (c_M_fail hfl (code := 1) (f := va_up f 10 0) (v := v) hN (by rw [va_up_self])) (fun z3 F6 hq => ?_)
          obtain ⟨hz3, eF6⟩ := hq
          refine J_eqF (F2 := va_up F 98 (oM ad (va_up f 10 1) v)) ((eF6.trans (congrArg (fun qq : Nat → Int => va_up (va_up F 98 (oM ad (va_up f 10 0) v)) 98 (oM ad qq v)) (up_in0))).trans (up_in0)) ?_
          refine J_topi (r := 0) (congrArg iI hz3) ?_
          refine J_eqF (F2 := va_up (va_up F 98 (oM ad (va_up f 10 1) v)) 99 (.inl (g 0, 858, .inl (aI hh)))) (up_same1 (by rw [va_up_ne _ _ (by decide)]; exact hB)) ?_
          refine J_eqF (F2 := va_up (va_up (va_up F 98 (oM ad (va_up f 10 1) v)) 99 (.inl (g 0, 858, .inl (aI hh)))) 100 (.inl (g 0, 33, .inl (aI ll)))) (up_same1 (by rw [va_up_ne _ _ (by decide), va_up_ne _ _ (by decide)]; exact hL)) ?_
          refine J_iret rfl rfl d_M_power_114 ⟨by decide, by decide⟩ ?_
          exact ⟨_, rfl, rfl, rfl, .inl 0, Or.inl ⟨(fun h : powC _ _ _ _ => by have h1 := h.2.2.1; rw [regV_no hmr ((hzc.resolve_left (fun w => by rw [c26] at w; exact absurd w.1 (by decide))).2)] at h1; exact absurd h1 (by decide)), rfl⟩, Or.inl ⟨0, rfl, rfl, mst_3 hD0 hR hzz (fun k hk => (show (V) k = V k from by rfl)) (va_up_ne _ _ (by decide)) (va_up_ne _ _ (by decide)) (va_up_self ..)⟩, offM_3⟩
        · exact absurd c76 (by decide)
      · refine J_iload 4 d_M_power_29 rfl ?_
        refine J_iconst d_M_power_31 ?_
        refine J_bipush d_M_power_32 (i8_ok (by decide)) ?_
        refine J_callSi cw_M_138 nh_M_in pn_M_in rfl (As := [.int (iI to), .int (iI 0), .int (iI 7)]) (rest := []) rfl (Nat.le_of_ble_eq_true rfl) ⟨by decide, by decide⟩ rfl ⟨by decide, by decide⟩ d_M_power_34 (c_M_in hfl (a := to) (b := 0) (c := 7) (hto) (by decide) (by decide)) (fun zd F7 hq => ?_)
        obtain ⟨hzd, eF7⟩ := hq
        refine J_eqF eF7 ?_
        refine J_ifeq (tgt := 71) d_M_power_37 (by decide) ⟨by omega, by omega⟩ (fun c37 => ?_) (fun c37 => ?_)
        · refine J_iconst d_M_power_71 ?_
          refine J_istore (lv' := [(5, .int (iI 0)), (0, .ref (ad 98)), (1, .int (iI x)), (2, .int (iI y)), (3, .int (iI m)), (4, .int (iI to))]) d_M_power_72 (by decide) rfl ?_
          refine J_iload 0 d_M_power_74 rfl ?_
          refine J_ifeq (tgt := 109) d_M_power_76 (by decide) ⟨by omega, by omega⟩ (fun c76 => ?_) (fun c76 => ?_)
          · refine J_aload_n 1 d_M_power_109 rfl rfl ?_
            refine J_iconst d_M_power_110 ?_
            refine J_callVi cw_M_135 nh_M_fail pn_M_fail rfl rfl (by omega) (by rw [va_up_self]) (As := [.int (iI 1)]) (rest := []) rfl (Nat.le_of_ble_eq_true rfl) ⟨by decide, by decide⟩ rfl ⟨by decide, by decide⟩ d_M_power_111 (c_M_fail hfl (code := 1) (f := va_up f 10 0) (v := v) hN (by rw [va_up_self])) (fun z4 F8 hq => ?_)
            obtain ⟨hz4, eF8⟩ := hq
            refine J_eqF (F2 := va_up F 98 (oM ad (va_up f 10 1) v)) ((eF8.trans (congrArg (fun qq : Nat → Int => va_up (va_up F 98 (oM ad (va_up f 10 0) v)) 98 (oM ad qq v)) (up_in0))).trans (up_in0)) ?_
            refine J_topi (r := 0) (congrArg iI hz4) ?_
            refine J_eqF (F2 := va_up (va_up F 98 (oM ad (va_up f 10 1) v)) 99 (.inl (g 0, 858, .inl (aI hh)))) (up_same1 (by rw [va_up_ne _ _ (by decide)]; exact hB)) ?_
            refine J_eqF (F2 := va_up (va_up (va_up F 98 (oM ad (va_up f 10 1) v)) 99 (.inl (g 0, 858, .inl (aI hh)))) 100 (.inl (g 0, 33, .inl (aI ll)))) (up_same1 (by rw [va_up_ne _ _ (by decide), va_up_ne _ _ (by decide)]; exact hL)) ?_
            refine J_iret rfl rfl d_M_power_114 ⟨by decide, by decide⟩ ?_
            exact ⟨_, rfl, rfl, rfl, .inl 0, Or.inl ⟨(fun h : powC _ _ _ _ => by exact ((hzd.resolve_left (fun w => by rw [c37] at w; exact absurd w.1 (by decide))).2) h.1), rfl⟩, Or.inl ⟨0, rfl, rfl, mst_3 hD0 hR hzz (fun k hk => (show (V) k = V k from by rfl)) (va_up_ne _ _ (by decide)) (va_up_ne _ _ (by decide)) (va_up_self ..)⟩, offM_3⟩
          · exact absurd c76 (by decide)
        · have hrx := (hza.resolve_right (fun w => c10 w.1)).2
          have hry := (hzb.resolve_right (fun w => c18 w.1)).2
          have hrm := (hzc.resolve_right (fun w => c26 w.1)).2
          have hrto := (hzd.resolve_right (fun w => c37 w.1)).2
          clear hza hzb hzc hzd
          have hx8 : x.toNat < 8 := by omega
          have hy8 : y.toNat < 8 := by omega
          have hm8 : m.toNat < 8 := by omega
          obtain ⟨kd1, sg1, x1, y1, hRa1, hok1, hka1, hkn1, hmg1⟩ := mR_at hmr (r := x.toNat) hx8 hrx.2
          obtain ⟨hk11, hd01, hs11, hfin1, hcop1, hk01, hb1, hs01, hb21, hre1⟩ := okv_b hok1 hkn1
          have hrV1 : regV R x = (kd1, sg1, x1, y1) := (regV_in hrx.1).trans hRa1
          replace hk01 : hold _ := hk01
          replace hs01 : hold _ := hs01
          replace hb21 : hold _ := hb21
          replace hre1 : hold _ := hre1
          obtain ⟨kd2, sg2, x2, y2, hRa2, hok2, hka2, hkn2, hmg2⟩ := mR_at hmr (r := y.toNat) hy8 hry.2
          obtain ⟨hk12, hd02, hs12, hfin2, hcop2, hk02, hb2, hs02, hb22, hre2⟩ := okv_b hok2 hkn2
          have hrV2 : regV R y = (kd2, sg2, x2, y2) := (regV_in hry.1).trans hRa2
          replace hk02 : hold _ := hk02
          replace hs02 : hold _ := hs02
          replace hb22 : hold _ := hb22
          replace hre2 : hold _ := hre2
          obtain ⟨kd3, sg3, x3, y3, hRa3, hok3, hka3, hkn3, hmg3⟩ := mR_at hmr (r := m.toNat) hm8 hrm.2
          obtain ⟨hk13, hd03, hs13, hfin3, hcop3, hk03, hb3, hs03, hb23, hre3⟩ := okv_b hok3 hkn3
          have hrV3 : regV R m = (kd3, sg3, x3, y3) := (regV_in hrm.1).trans hRa3
          replace hk03 : hold _ := hk03
          replace hs03 : hold _ := hs03
          replace hb23 : hold _ := hb23
          replace hre3 : hold _ := hre3
          have hbx : (bb x.toNat = 1 ∧ sg1 < 0) ∨ (bb x.toNat = 0 ∧ 0 ≤ sg1) := by have h := hmg1.2.1; rw [h]; split <;> omega
          have hby : (bb y.toNat = 1 ∧ sg2 < 0) ∨ (bb y.toNat = 0 ∧ 0 ≤ sg2) := by have h := hmg2.2.1; rw [h]; split <;> omega
          have hbm : (bb m.toNat = 1 ∧ sg3 < 0) ∨ (bb m.toNat = 0 ∧ 0 ≤ sg3) := by have h := hmg3.2.1; rw [h]; split <;> omega
          replace hbx : hold _ := hbx
          replace hby : hold _ := hby
          refine J_aload_n 0 d_M_power_40 rfl rfl ?_
          refine gf_M_16 (by omega) (by rw [va_up_self]) rfl d_M_power_41 ?_
          refine J_iload_n 1 d_M_power_44 rfl rfl ?_
          refine J_iaload 0 rfl (by omega) (by rw [va_up_ne _ _ (by decide)]; exact hKk) (by omega) d_M_power_45 ?_
          refine J_ifne (tgt := 71) d_M_power_46 (by decide) ⟨by omega, by omega⟩ (fun c46 => ?_) (fun c46 => ?_)
          · refine J_iconst d_M_power_71 ?_
            refine J_istore (lv' := [(5, .int (iI 0)), (0, .ref (ad 98)), (1, .int (iI x)), (2, .int (iI y)), (3, .int (iI m)), (4, .int (iI to))]) d_M_power_72 (by decide) rfl ?_
            refine J_iload 0 d_M_power_74 rfl ?_
            refine J_ifeq (tgt := 109) d_M_power_76 (by decide) ⟨by omega, by omega⟩ (fun c76 => ?_) (fun c76 => ?_)
            · refine J_aload_n 1 d_M_power_109 rfl rfl ?_
              refine J_iconst d_M_power_110 ?_
              refine J_callVi cw_M_135 nh_M_fail pn_M_fail rfl rfl (by omega) (by rw [va_up_self]) (As := [.int (iI 1)]) (rest := []) rfl (Nat.le_of_ble_eq_true rfl) ⟨by decide, by decide⟩ rfl ⟨by decide, by decide⟩ d_M_power_111 (c_M_fail hfl (code := 1) (f := va_up f 10 0) (v := v) hN (by rw [va_up_self])) (fun z5 F9 hq => ?_)
              obtain ⟨hz5, eF9⟩ := hq
              refine J_eqF (F2 := va_up F 98 (oM ad (va_up f 10 1) v)) ((eF9.trans (congrArg (fun qq : Nat → Int => va_up (va_up F 98 (oM ad (va_up f 10 0) v)) 98 (oM ad qq v)) (up_in0))).trans (up_in0)) ?_
              refine J_topi (r := 0) (congrArg iI hz5) ?_
              refine J_eqF (F2 := va_up (va_up F 98 (oM ad (va_up f 10 1) v)) 99 (.inl (g 0, 858, .inl (aI hh)))) (up_same1 (by rw [va_up_ne _ _ (by decide)]; exact hB)) ?_
              refine J_eqF (F2 := va_up (va_up (va_up F 98 (oM ad (va_up f 10 1) v)) 99 (.inl (g 0, 858, .inl (aI hh)))) 100 (.inl (g 0, 33, .inl (aI ll)))) (up_same1 (by rw [va_up_ne _ _ (by decide), va_up_ne _ _ (by decide)]; exact hL)) ?_
              refine J_iret rfl rfl d_M_power_114 ⟨by decide, by decide⟩ ?_
              exact ⟨_, rfl, rfl, rfl, .inl 0, Or.inl ⟨(fun h : powC _ _ _ _ => by have h1 := h.2.1; rw [regV_k hmr hrx.1] at h1; exact c46 h1), rfl⟩, Or.inl ⟨0, rfl, rfl, mst_3 hD0 hR hzz (fun k hk => (show (V) k = V k from by rfl)) (va_up_ne _ _ (by decide)) (va_up_ne _ _ (by decide)) (va_up_self ..)⟩, offM_3⟩
            · exact absurd c76 (by decide)
          · refine J_aload_n 0 d_M_power_49 rfl rfl ?_
            refine gf_M_16 (by omega) (by rw [va_up_self]) rfl d_M_power_50 ?_
            refine J_iload_n 2 d_M_power_53 rfl rfl ?_
            refine J_iaload 0 rfl (by omega) (by rw [va_up_ne _ _ (by decide)]; exact hKk) (by omega) d_M_power_54 ?_
            refine J_ifne (tgt := 71) d_M_power_55 (by decide) ⟨by omega, by omega⟩ (fun c55 => ?_) (fun c55 => ?_)
            · refine J_iconst d_M_power_71 ?_
              refine J_istore (lv' := [(5, .int (iI 0)), (0, .ref (ad 98)), (1, .int (iI x)), (2, .int (iI y)), (3, .int (iI m)), (4, .int (iI to))]) d_M_power_72 (by decide) rfl ?_
              refine J_iload 0 d_M_power_74 rfl ?_
              refine J_ifeq (tgt := 109) d_M_power_76 (by decide) ⟨by omega, by omega⟩ (fun c76 => ?_) (fun c76 => ?_)
              · refine J_aload_n 1 d_M_power_109 rfl rfl ?_
                refine J_iconst d_M_power_110 ?_
                refine J_callVi cw_M_135 nh_M_fail pn_M_fail rfl rfl (by omega) (by rw [va_up_self]) (As := [.int (iI 1)]) (rest := []) rfl (Nat.le_of_ble_eq_true rfl) ⟨by decide, by decide⟩ rfl ⟨by decide, by decide⟩ d_M_power_111 (c_M_fail hfl (code := 1) (f := va_up f 10 0) (v := v) hN (by rw [va_up_self])) (fun z6 F10 hq => ?_)
                obtain ⟨hz6, eF10⟩ := hq
                refine J_eqF (F2 := va_up F 98 (oM ad (va_up f 10 1) v)) ((eF10.trans (congrArg (fun qq : Nat → Int => va_up (va_up F 98 (oM ad (va_up f 10 0) v)) 98 (oM ad qq v)) (up_in0))).trans (up_in0)) ?_
                refine J_topi (r := 0) (congrArg iI hz6) ?_
                refine J_eqF (F2 := va_up (va_up F 98 (oM ad (va_up f 10 1) v)) 99 (.inl (g 0, 858, .inl (aI hh)))) (up_same1 (by rw [va_up_ne _ _ (by decide)]; exact hB)) ?_
                refine J_eqF (F2 := va_up (va_up (va_up F 98 (oM ad (va_up f 10 1) v)) 99 (.inl (g 0, 858, .inl (aI hh)))) 100 (.inl (g 0, 33, .inl (aI ll)))) (up_same1 (by rw [va_up_ne _ _ (by decide), va_up_ne _ _ (by decide)]; exact hL)) ?_
                refine J_iret rfl rfl d_M_power_114 ⟨by decide, by decide⟩ ?_
                exact ⟨_, rfl, rfl, rfl, .inl 0, Or.inl ⟨(fun h : powC _ _ _ _ => by have h1 := h.2.2.2.2.1; rw [regV_k hmr hry.1] at h1; exact c55 h1), rfl⟩, Or.inl ⟨0, rfl, rfl, mst_3 hD0 hR hzz (fun k hk => (show (V) k = V k from by rfl)) (va_up_ne _ _ (by decide)) (va_up_ne _ _ (by decide)) (va_up_self ..)⟩, offM_3⟩
              · exact absurd c76 (by decide)
            · refine J_aload_n 0 d_M_power_58 rfl rfl ?_
              refine gf_M_16 (by omega) (by rw [va_up_self]) rfl d_M_power_59 ?_
              refine J_iload_n 3 d_M_power_62 rfl rfl ?_
              refine J_iaload 0 rfl (by omega) (by rw [va_up_ne _ _ (by decide)]; exact hKk) (by omega) d_M_power_63 ?_
              refine J_ifne (tgt := 71) d_M_power_64 (by decide) ⟨by omega, by omega⟩ (fun c64 => ?_) (fun c64 => ?_)
              · refine J_iconst d_M_power_71 ?_
                refine J_istore (lv' := [(5, .int (iI 0)), (0, .ref (ad 98)), (1, .int (iI x)), (2, .int (iI y)), (3, .int (iI m)), (4, .int (iI to))]) d_M_power_72 (by decide) rfl ?_
                refine J_iload 0 d_M_power_74 rfl ?_
                refine J_ifeq (tgt := 109) d_M_power_76 (by decide) ⟨by omega, by omega⟩ (fun c76 => ?_) (fun c76 => ?_)
                · refine J_aload_n 1 d_M_power_109 rfl rfl ?_
                  refine J_iconst d_M_power_110 ?_
                  refine J_callVi cw_M_135 nh_M_fail pn_M_fail rfl rfl (by omega) (by rw [va_up_self]) (As := [.int (iI 1)]) (rest := []) rfl (Nat.le_of_ble_eq_true rfl) ⟨by decide, by decide⟩ rfl ⟨by decide, by decide⟩ d_M_power_111 (c_M_fail hfl (code := 1) (f := va_up f 10 0) (v := v) hN (by rw [va_up_self])) (fun z7 F11 hq => ?_)
                  obtain ⟨hz7, eF11⟩ := hq
                  refine J_eqF (F2 := va_up F 98 (oM ad (va_up f 10 1) v)) ((eF11.trans (congrArg (fun qq : Nat → Int => va_up (va_up F 98 (oM ad (va_up f 10 0) v)) 98 (oM ad qq v)) (up_in0))).trans (up_in0)) ?_
                  refine J_topi (r := 0) (congrArg iI hz7) ?_
                  refine J_eqF (F2 := va_up (va_up F 98 (oM ad (va_up f 10 1) v)) 99 (.inl (g 0, 858, .inl (aI hh)))) (up_same1 (by rw [va_up_ne _ _ (by decide)]; exact hB)) ?_
                  refine J_eqF (F2 := va_up (va_up (va_up F 98 (oM ad (va_up f 10 1) v)) 99 (.inl (g 0, 858, .inl (aI hh)))) 100 (.inl (g 0, 33, .inl (aI ll)))) (up_same1 (by rw [va_up_ne _ _ (by decide), va_up_ne _ _ (by decide)]; exact hL)) ?_
                  refine J_iret rfl rfl d_M_power_114 ⟨by decide, by decide⟩ ?_
                  exact ⟨_, rfl, rfl, rfl, .inl 0, Or.inl ⟨(fun h : powC _ _ _ _ => by have h1 := h.2.2.1; rw [regV_k hmr hrm.1] at h1; exact c64 h1), rfl⟩, Or.inl ⟨0, rfl, rfl, mst_3 hD0 hR hzz (fun k hk => (show (V) k = V k from by rfl)) (va_up_ne _ _ (by decide)) (va_up_ne _ _ (by decide)) (va_up_self ..)⟩, offM_3⟩
                · exact absurd c76 (by decide)
              · refine J_iconst d_M_power_67 ?_
                refine J_goto (tgt := 72) d_M_power_68 (by decide) ?_
                refine J_istore (lv' := [(5, .int (iI 1)), (0, .ref (ad 98)), (1, .int (iI x)), (2, .int (iI y)), (3, .int (iI m)), (4, .int (iI to))]) d_M_power_72 (by decide) rfl ?_
                refine J_iload 0 d_M_power_74 rfl ?_
                refine J_ifeq (tgt := 109) d_M_power_76 (by decide) ⟨by omega, by omega⟩ (fun c76 => ?_) (fun c76 => ?_)
                · exact absurd c76 (by decide)
                · have hk1z : kd1 = 0 := by omega
                  have hk2z : kd2 = 0 := by omega
                  have hk3z : kd3 = 0 := by omega
                  have hVx := (hmg1.2.2.1 (by omega)).1
                  have hVy := (hmg2.2.2.1 (by omega)).1
                  have hVm := (hmg3.2.2.1 (by omega)).1
                  have hxb : x1 < 2 ^ 120 := (hb21 (by omega)).1
                  have hmb : x3 < 2 ^ 120 := (hb23 (by omega)).1
                  have hyb : x2 < 2 ^ 120 := (hb22 (by omega)).1
                  obtain ⟨SM, hSM⟩ : ∃ z : Int, z = smV (bb y.toNat) x2 := ⟨_, rfl⟩
                  have hsm : (SM = sg2 * (x2 : Int) ∧ -999 ≤ sg2 * (x2 : Int) ∧ sg2 * (x2 : Int) ≤ 999) ∨ (SM = 1000 ∧ (sg2 * (x2 : Int) < -999 ∨ 999 < sg2 * (x2 : Int))) := by rw [hSM]; exact smV_v hby hs12 hs02
                  replace hsm : hold _ := hsm
                  have hSMr : -999 ≤ SM ∧ SM ≤ 1000 := by rcases hsm with w | w <;> omega
                  refine J_aload_n 1 d_M_power_79 rfl rfl ?_
                  refine gf_M_19 (by omega) (by rw [va_up_self]) rfl d_M_power_80 ?_
                  refine J_iload_n 4 d_M_power_83 rfl rfl ?_
                  refine J_zaload 2 rfl (by omega) (by rw [va_up_ne _ _ (by decide)]; exact hBb) (by omega) d_M_power_84 ?_
                  refine J_ifne (tgt := 109) d_M_power_85 (by decide) ⟨by omega, by omega⟩ (fun c85 => ?_) (fun c85 => ?_)
                  · refine J_aload_n 1 d_M_power_109 rfl rfl ?_
                    refine J_iconst d_M_power_110 ?_
                    refine J_callVi cw_M_135 nh_M_fail pn_M_fail rfl rfl (by omega) (by rw [va_up_self]) (As := [.int (iI 1)]) (rest := []) rfl (Nat.le_of_ble_eq_true rfl) ⟨by decide, by decide⟩ rfl ⟨by decide, by decide⟩ d_M_power_111 (c_M_fail hfl (code := 1) (f := va_up f 10 0) (v := v) hN (by rw [va_up_self])) (fun z8 F12 hq => ?_)
                    obtain ⟨hz8, eF12⟩ := hq
                    refine J_eqF (F2 := va_up F 98 (oM ad (va_up f 10 1) v)) ((eF12.trans (congrArg (fun qq : Nat → Int => va_up (va_up F 98 (oM ad (va_up f 10 0) v)) 98 (oM ad qq v)) (up_in0))).trans (up_in0)) ?_
                    refine J_topi (r := 0) (congrArg iI hz8) ?_
                    refine J_eqF (F2 := va_up (va_up F 98 (oM ad (va_up f 10 1) v)) 99 (.inl (g 0, 858, .inl (aI hh)))) (up_same1 (by rw [va_up_ne _ _ (by decide)]; exact hB)) ?_
                    refine J_eqF (F2 := va_up (va_up (va_up F 98 (oM ad (va_up f 10 1) v)) 99 (.inl (g 0, 858, .inl (aI hh)))) 100 (.inl (g 0, 33, .inl (aI ll)))) (up_same1 (by rw [va_up_ne _ _ (by decide), va_up_ne _ _ (by decide)]; exact hL)) ?_
                    refine J_iret rfl rfl d_M_power_114 ⟨by decide, by decide⟩ ?_
                    exact ⟨_, rfl, rfl, rfl, .inl 0, Or.inl ⟨(fun h : powC _ _ _ _ => by have h1 := h.2.2.2.1; rw [hrV3] at h1; have h2 : 0 < sg3 := h1; omega), rfl⟩, Or.inl ⟨0, rfl, rfl, mst_3 hD0 hR hzz (fun k hk => (show (V) k = V k from by rfl)) (va_up_ne _ _ (by decide)) (va_up_ne _ _ (by decide)) (va_up_self ..)⟩, offM_3⟩
                  · refine J_aload_n 1 d_M_power_88 rfl rfl ?_
                    refine J_iconst d_M_power_89 ?_
                    refine J_iload_n 4 d_M_power_90 rfl rfl ?_
                    refine J_imul d_M_power_91 ?_
                    refine J_topi (r := ((2 * m.toNat : Nat) : Int)) (congrArg iI (by omega)) ?_
                    refine J_callVi cw_M_75 nh_M_zero pn_M_zero rfl rfl (by omega) (by rw [va_up_self]) (As := [.int (iI ((2 * m.toNat : Nat) : Int))]) (rest := []) rfl (Nat.le_of_ble_eq_true rfl) ⟨by decide, by decide⟩ rfl ⟨by decide, by decide⟩ d_M_power_92 (k_M_zero hfl (a := 2 * m.toNat) (hh := hh) (ll := ll) (V := V) (br := br) (hN := hN) (hO := (by rw [va_up_self])) (hB := (by rw [va_up_ne _ _ (by decide)]; exact hB)) (hL := (by rw [va_up_ne _ _ (by decide)]; exact hL)) (hR := hR) (ha := by omega) (hxa := hVm) (bra := (hzz.2 (2 * m.toNat) (by omega) (by omega)))) (fun z9 F13 hq => ?_)
                    obtain ⟨hz9, eF13⟩ := hq
                    refine J_eqF eF13 ?_
                    refine J_ifne (tgt := 109) d_M_power_95 (by decide) ⟨by omega, by omega⟩ (fun c95 => ?_) (fun c95 => ?_)
                    · refine J_aload_n 1 d_M_power_109 rfl rfl ?_
                      refine J_iconst d_M_power_110 ?_
                      refine J_callVi cw_M_135 nh_M_fail pn_M_fail rfl rfl (by omega) (by rw [va_up_self]) (As := [.int (iI 1)]) (rest := []) rfl (Nat.le_of_ble_eq_true rfl) ⟨by decide, by decide⟩ rfl ⟨by decide, by decide⟩ d_M_power_111 (c_M_fail hfl (code := 1) (f := va_up f 10 0) (v := v) hN (by rw [va_up_self])) (fun z10 F14 hq => ?_)
                      obtain ⟨hz10, eF14⟩ := hq
                      refine J_eqF (F2 := va_up F 98 (oM ad (va_up f 10 1) v)) ((eF14.trans (congrArg (fun qq : Nat → Int => va_up (va_up F 98 (oM ad (va_up f 10 0) v)) 98 (oM ad qq v)) (up_in0))).trans (up_in0)) ?_
                      refine J_topi (r := 0) (congrArg iI hz10) ?_
                      refine J_eqF (F2 := va_up (va_up F 98 (oM ad (va_up f 10 1) v)) 99 (.inl (g 0, 858, .inl (aI hh)))) (up_same1 (by rw [va_up_ne _ _ (by decide)]; exact hB)) ?_
                      refine J_eqF (F2 := va_up (va_up (va_up F 98 (oM ad (va_up f 10 1) v)) 99 (.inl (g 0, 858, .inl (aI hh)))) 100 (.inl (g 0, 33, .inl (aI ll)))) (up_same1 (by rw [va_up_ne _ _ (by decide), va_up_ne _ _ (by decide)]; exact hL)) ?_
                      refine J_iret rfl rfl d_M_power_114 ⟨by decide, by decide⟩ ?_
                      exact ⟨_, rfl, rfl, rfl, .inl 0, Or.inl ⟨(fun h : powC _ _ _ _ => by have h1 := h.2.2.2.1; rw [hrV3] at h1; have h2 : 0 < sg3 := h1; have h3 := hs03.mpr (show x3 = 0 by omega); omega), rfl⟩, Or.inl ⟨0, rfl, rfl, mst_3 hD0 hR hzz (fun k hk => (show (V) k = V k from by rfl)) (va_up_ne _ _ (by decide)) (va_up_ne _ _ (by decide)) (va_up_self ..)⟩, offM_3⟩
                    · refine J_aload_n 1 d_M_power_98 rfl rfl ?_
                      refine J_iload_n 3 d_M_power_99 rfl rfl ?_
                      refine J_topi (r := ((y.toNat : Nat) : Int)) (congrArg iI (by omega)) ?_
                      refine J_callVi cw_M_173 nh_M_small pn_M_small rfl rfl (by omega) (by rw [va_up_self]) (As := [.int (iI ((y.toNat : Nat) : Int))]) (rest := []) rfl (Nat.le_of_ble_eq_true rfl) ⟨by decide, by decide⟩ rfl ⟨by decide, by decide⟩ d_M_power_100 (c_M_small hfl (r := y.toNat) (x := x2) (kk := kk) (bb := bb) (rr := rr) (hh := hh) (ll := ll) (f := va_up f 10 0) (v := v) (V := V) (br := br) hN (by rw [va_up_self]) (by rw [va_up_ne _ _ (by decide)]; exact hB) (by rw [va_up_ne _ _ (by decide)]; exact hL) hR hzz (by rw [va_up_ne _ _ (by decide)]; exact hKk) (by rw [va_up_ne _ _ (by decide)]; exact hBb) (by rw [va_up_ne _ _ (by decide)]; exact hRr) hy8 (hVy) (blen_le.mpr (Nat.lt_trans hyb (by decide))) (by rcases hby with w | w; exact Or.inr w.1; exact Or.inl w.1)) (fun sm9 F15 hq => ?_)
                      obtain ⟨hsm9, eF15⟩ := hq
                      refine J_eqF eF15 ?_
                      refine J_topi (r := SM) (congrArg iI (hsm9.trans hSM.symm)) ?_
                      refine J_sipush d_M_power_103 (i16_ok (by decide)) ?_
                      refine J_if_icmpne (tgt := 115) d_M_power_106 (by decide) ⟨by omega, by omega⟩ ⟨by omega, by omega⟩ (fun c106 => ?_) (fun c106 => ?_)
                      · have hSMn : SM = sg2 * (x2 : Int) ∧ -999 ≤ sg2 * (x2 : Int) ∧ sg2 * (x2 : Int) ≤ 999 := by
                          rcases hsm with w | w
                          · exact w
                          · exact absurd w.1 (by omega)
                        have hm0 : 0 < x3 := by omega
                        have hs3p : 0 < sg3 := by
                          have h3 : sg3 ≠ 0 := fun e => by have := hs03.mp e; omega
                          omega
                        have hPC : powC (regV R x) (regV R y) (regV R m) to := by
                          rw [hrV1, hrV2, hrV3]
                          exact ⟨hrto, hk1z, hk3z, hs3p, hk2z, hSMn.2⟩
                        have hlx1 : lnw 28 x1 ≤ 5 := (lnw_le (by decide)).mpr (Nat.lt_trans hxb (by decide))
                        have hlm : lnw 28 x3 ≤ 5 := (lnw_le (by decide)).mpr (Nat.lt_trans hmb (by decide))
                        clear hbm
                        refine J_aload_n 1 d_M_power_115 rfl rfl ?_
                        refine J_iconst d_M_power_116 ?_
                        refine J_iload_n 4 d_M_power_117 rfl rfl ?_
                        refine J_imul d_M_power_118 ?_
                        refine J_topi (r := ((2 * m.toNat : Nat) : Int)) (congrArg iI (by omega)) ?_
                        refine J_bipush d_M_power_119 (i8_ok (by decide)) ?_
                        refine J_callVv cw_M_58 nh_M_copy pn_M_copy rfl rfl (by omega) (by rw [va_up_self]) (As := [.int (iI ((2 * m.toNat : Nat) : Int)), .int (iI 30)]) (rest := []) rfl (Nat.le_of_ble_eq_true rfl) ⟨by decide, by decide⟩ rfl ⟨by decide, by decide⟩ d_M_power_121 (k_M_copy hfl (a := 2 * m.toNat) (b := 30) (hh := hh) (ll := ll) (V := V) (br := br) (hN := hN) (hO := (by rw [va_up_self])) (hB := (by rw [va_up_ne _ _ (by decide)]; exact hB)) (hL := (by rw [va_up_ne _ _ (by decide)]; exact hL)) (hR := hR) (ha := by omega) (hb := by omega) (hxa := hVm) (bra := (hzz.2 (2 * m.toNat) (by omega) (by omega)))) (fun  F16 hq => ?_)
                        obtain ⟨bh11, bl12, hR13, eF16⟩ := hq
                        refine J_eqF (F2 := va_up (va_up (va_up F 98 (oM ad (va_up f 10 0) v)) 99 (.inl (g 0, 858, .inl (aI bh11)))) 100 (.inl (g 0, 33, .inl (aI bl12)))) eF16 ?_
                        have hR16 := reg_w1 (hzz.1 _) hR13
                        refine J_aload_n 1 d_M_power_124 rfl rfl ?_
                        refine J_iconst d_M_power_125 ?_
                        refine J_iload_n 2 d_M_power_126 rfl rfl ?_
                        refine J_imul d_M_power_127 ?_
                        refine J_topi (r := ((2 * x.toNat : Nat) : Int)) (congrArg iI (by omega)) ?_
                        refine J_bipush d_M_power_128 (i8_ok (by decide)) ?_
                        refine J_callVv cw_M_58 nh_M_copy pn_M_copy rfl rfl (by omega) (by rw [va_up_ne _ _ (by decide), va_up_ne _ _ (by decide), va_up_self]) (As := [.int (iI ((2 * x.toNat : Nat) : Int)), .int (iI 16)]) (rest := []) rfl (Nat.le_of_ble_eq_true rfl) ⟨by decide, by decide⟩ rfl ⟨by decide, by decide⟩ d_M_power_130 (k_M_copy hfl (a := 2 * x.toNat) (b := 16) (hh := bh11) (ll := bl12) (V := va_up V 30 x3) (br := br) (hN := hN) (hO := (by rw [va_up_ne _ _ (by decide), va_up_ne _ _ (by decide), va_up_self])) (hB := (by rw [va_up_ne _ _ (by decide), va_up_self])) (hL := (by rw [va_up_self])) (hR := hR16) (ha := by omega) (hb := by omega) (hxa := ((va_up_ne _ _ (by omega)).trans hVx)) (bra := (hzz.2 (2 * x.toNat) (by omega) (by omega)))) (fun  F17 hq => ?_)
                        obtain ⟨bh17, bl18, hR19, eF17⟩ := hq
                        refine J_eqF (F2 := va_up (va_up (va_up F 98 (oM ad (va_up f 10 0) v)) 99 (.inl (g 0, 858, .inl (aI bh17)))) 100 (.inl (g 0, 33, .inl (aI bl18)))) (eF17.trans (Eq.trans (congrArg (fun q : Nat → va_E => va_up q 100 (.inl (g 0, 33, .inl (aI bl18)))) (up_in1 (by decide))) (up_in0))) ?_
                        have hR22 := reg_w1 (hzz.1 _) hR19
                        refine J_aload_n 1 d_M_power_133 rfl rfl ?_
                        refine J_bipush d_M_power_134 (i8_ok (by decide)) ?_
                        refine J_aload_n 1 d_M_power_136 rfl rfl ?_
                        refine gf_M_19 (by omega) (by rw [va_up_ne _ _ (by decide), va_up_ne _ _ (by decide), va_up_self]) rfl d_M_power_137 ?_
                        refine J_iload_n 2 d_M_power_140 rfl rfl ?_
                        refine J_zaload 2 rfl (by omega) (by rw [va_up_ne _ _ (by decide), va_up_ne _ _ (by decide), va_up_ne _ _ (by decide)]; exact hBb) (by omega) d_M_power_141 ?_
                        refine J_callVv cw_M_214 nh_M_reduce pn_M_reduce rfl rfl (by omega) (by rw [va_up_ne _ _ (by decide), va_up_ne _ _ (by decide), va_up_self]) (As := [.int (iI 16), .int (iI (bb x.toNat))]) (rest := []) rfl (Nat.le_of_ble_eq_true rfl) ⟨by decide, by decide⟩ rfl ⟨by decide, by decide⟩ d_M_power_142 (c_M_reduce hfl (x := 16) (a := x1) (m := x3) (b := bb x.toNat) (hh := bh17) (ll := bl18) (f := va_up f 10 0) (v := v) (V := va_up (va_up V 30 x3) 16 x1) (br := br) hN (by rw [va_up_ne _ _ (by decide), va_up_ne _ _ (by decide), va_up_self]) (by rw [va_up_ne _ _ (by decide), va_up_self]) (by rw [va_up_self]) hR22 hzz (by omega) (by omega) (hzz.2 16 (by decide) (by decide)) ((va_up_self ..)) (((va_up_ne _ _ (by decide)).trans (va_up_self ..))) (by rcases hbx with w | w; exact Or.inr w.1; exact Or.inl w.1) hm0 ⟨by omega, by omega⟩) (fun  F18 hq => ?_)
                        obtain ⟨bh23, bl24, j26, hR25, eF18⟩ := hq
                        refine J_eqF (F2 := va_up (va_up (va_up F 98 (oM ad (va_up f 10 0) v)) 99 (.inl (g 0, 858, .inl (aI bh23)))) 100 (.inl (g 0, 33, .inl (aI bl24)))) (eF18.trans (Eq.trans (congrArg (fun q : Nat → va_E => va_up q 100 (.inl (g 0, 33, .inl (aI bl24)))) (up_in1 (by decide))) (up_in0))) ?_
                        have hR27 := (congrArg (fun qq : Nat → Nat => reg _ _ _ (qq)) (up_in3 (by decide) (by decide) (by decide))).mp hR25
                        have hR28 := (congrArg (fun qq : Nat => reg _ _ _ (va_up (va_up (va_up (va_up (va_up V 30 x3) 16 qq) 26 j26) 25 (x1 % x3)) 24 (x1 / x3))) (show (rdN (bb x.toNat) x1 x3) = (modB sg1 x1 x3) from (rd_modB hbx))).mp hR27
                        have hMB : modB sg1 x1 x3 < x3 := modB_lt hm0
                        refine J_aload_n 1 d_M_power_145 rfl rfl ?_
                        refine J_iload_n 3 d_M_power_146 rfl rfl ?_
                        refine J_topi (r := ((y.toNat : Nat) : Int)) (congrArg iI (by omega)) ?_
                        refine J_callVi cw_M_173 nh_M_small pn_M_small rfl rfl (by omega) (by rw [va_up_ne _ _ (by decide), va_up_ne _ _ (by decide), va_up_self]) (As := [.int (iI ((y.toNat : Nat) : Int))]) (rest := []) rfl (Nat.le_of_ble_eq_true rfl) ⟨by decide, by decide⟩ rfl ⟨by decide, by decide⟩ d_M_power_147 (c_M_small hfl (r := y.toNat) (x := x2) (kk := kk) (bb := bb) (rr := rr) (hh := bh23) (ll := bl24) (f := va_up f 10 0) (v := v) (V := va_up (va_up (va_up (va_up (va_up V 30 x3) 16 (modB sg1 x1 x3)) 26 j26) 25 (x1 % x3)) 24 (x1 / x3)) (br := br) hN (by rw [va_up_ne _ _ (by decide), va_up_ne _ _ (by decide), va_up_self]) (by rw [va_up_ne _ _ (by decide), va_up_self]) (by rw [va_up_self]) hR28 hzz (by rw [va_up_ne _ _ (by decide), va_up_ne _ _ (by decide), va_up_ne _ _ (by decide)]; exact hKk) (by rw [va_up_ne _ _ (by decide), va_up_ne _ _ (by decide), va_up_ne _ _ (by decide)]; exact hBb) (by rw [va_up_ne _ _ (by decide), va_up_ne _ _ (by decide), va_up_ne _ _ (by decide)]; exact hRr) hy8 (show (va_up (va_up (va_up (va_up (va_up V 30 x3) 16 (modB sg1 x1 x3)) 26 j26) 25 (x1 % x3)) 24 (x1 / x3)) (2 * y.toNat) = _ from by rw [va_up_ne _ _ (by omega), va_up_ne _ _ (by omega), va_up_ne _ _ (by omega), va_up_ne _ _ (by omega), va_up_ne _ _ (by omega)]; exact hVy) (blen_le.mpr (Nat.lt_trans hyb (by decide))) (by rcases hby with w | w; exact Or.inr w.1; exact Or.inl w.1)) (fun sm9 F19 hq => ?_)
                        obtain ⟨hsm9, eF19⟩ := hq
                        refine J_eqF eF19 ?_
                        refine J_topi (r := SM) (congrArg iI (hsm9.trans hSM.symm)) ?_
                        refine J_istore (lv' := [(6, .int (iI SM)), (5, .int (iI 1)), (0, .ref (ad 98)), (1, .int (iI x)), (2, .int (iI y)), (3, .int (iI m)), (4, .int (iI to))]) d_M_power_150 (by decide) rfl ?_
                        have lab170 : ∀ (e1 : Nat → Int) (e2 : Nat → Int) (W1 : Nat → Nat) (b : Nat) (hR1 : reg br e1 e2 W1) (hf1 : ∀ k, k < 16 → W1 k = V k) (hW16 : W1 16 = b) (hW30 : W1 30 = x3) (hbb : b < x3 ∧ (0 ≤ SM → b = modB sg1 x1 x3) ∧ (SM < 0 → Nat.gcd (modB sg1 x1 x3) x3 = 1 ∧ modB sg1 x1 x3 * b % x3 = 1 % x3)) , J l rm_M_power (0, 0) "NumberTowerModel" b_M_power 8 (Option.some Jvm.ClassFile.FieldType.int) D jCl (jTys g) A (fun _ me => me.name = y_M_power.name) (ji ad N (fun z F' => ∃ o, powR (regV R x) (regV R y) (regV R m) to o ∧ msto ad g R ln sh (fun k => k + 1) to o z F' ∧ offM F F')) ad N 0 0 170 [(0, .ref (ad 98)), (1, .int (iI x)), (2, .int (iI y)), (3, .int (iI m)), (4, .int (iI to)), (6, .int (iI SM))] [] (va_up (va_up (va_up F 98 (oM ad (va_up f 10 0) v)) 99 (.inl (g 0, 858, .inl (aI e1)))) 100 (.inl (g 0, 33, .inl (aI e2)))) := by
                          intro e1 e2 W1 b hR1 hf1 hW16 hW30 hbb
                          refine J_iload 5 d_M_power_170 rfl ?_
                          refine J_ifge (tgt := 181) d_M_power_172 (by decide) ⟨by omega, by omega⟩ (fun c172 => ?_) (fun c172 => ?_)
                          · refine J_iload 5 d_M_power_181 rfl ?_
                            refine J_topi (r := (((SM.natAbs : Nat)) : Int)) (congrArg iI (by omega)) ?_
                            refine J_istore (lv' := [(6, .int (iI (((SM.natAbs : Nat)) : Int))), (0, .ref (ad 98)), (1, .int (iI x)), (2, .int (iI y)), (3, .int (iI m)), (4, .int (iI to))]) d_M_power_183 (by decide) rfl ?_
                            refine J_aload_n 1 d_M_power_185 rfl rfl ?_
                            refine J_bipush d_M_power_186 (i8_ok (by decide)) ?_
                            refine J_lconst (v := 1) d_M_power_188 rfl ?_
                            refine J_callVv cw_M_82 nh_M_put pn_M_put rfl rfl (by omega) (by rw [va_up_ne _ _ (by decide), va_up_ne _ _ (by decide), va_up_self]) (As := [.int (iI 20), .long (lI 1)]) (rest := []) rfl (Nat.le_of_ble_eq_true rfl) ⟨by decide, by decide⟩ rfl ⟨by decide, by decide⟩ d_M_power_189 (k_M_put hfl (a := 20) (n := 1) (hh := e1) (ll := e2) (V := W1) (br := br) (hN := hN) (hO := (by rw [va_up_ne _ _ (by decide), va_up_ne _ _ (by decide), va_up_self])) (hB := (by rw [va_up_ne _ _ (by decide), va_up_self])) (hL := (by rw [va_up_self])) (hR := hR1) (ha := by omega) (hn := by decide)) (fun  F20 hq => ?_)
                            obtain ⟨bh29, bl30, hR31, eF20⟩ := hq
                            refine J_eqF (F2 := va_up (va_up (va_up F 98 (oM ad (va_up f 10 0) v)) 99 (.inl (g 0, 858, .inl (aI bh29)))) 100 (.inl (g 0, 33, .inl (aI bl30)))) (eF20.trans (Eq.trans (congrArg (fun q : Nat → va_E => va_up q 100 (.inl (g 0, 33, .inl (aI bl30)))) (up_in1 (by decide))) (up_in0))) ?_
                            have hR34 := reg_w1 (hzz.1 _) hR31
                            refine J_aload_n 1 d_M_power_192 rfl rfl ?_
                            refine J_bipush d_M_power_193 (i8_ok (by decide)) ?_
                            refine J_iconst d_M_power_195 ?_
                            refine J_callVv cw_M_214 nh_M_reduce pn_M_reduce rfl rfl (by omega) (by rw [va_up_ne _ _ (by decide), va_up_ne _ _ (by decide), va_up_self]) (As := [.int (iI 20), .int (iI 0)]) (rest := []) rfl (Nat.le_of_ble_eq_true rfl) ⟨by decide, by decide⟩ rfl ⟨by decide, by decide⟩ d_M_power_196 (c_M_reduce hfl (x := 20) (a := 1) (m := x3) (b := 0) (hh := bh29) (ll := bl30) (f := va_up f 10 0) (v := v) (V := va_up W1 20 1) (br := br) hN (by rw [va_up_ne _ _ (by decide), va_up_ne _ _ (by decide), va_up_self]) (by rw [va_up_ne _ _ (by decide), va_up_self]) (by rw [va_up_self]) hR34 hzz (by omega) (by omega) (hzz.2 20 (by decide) (by decide)) ((va_up_self ..)) (((va_up_ne _ _ (by decide)).trans hW30)) (by decide) hm0 ⟨by decide, by omega⟩) (fun  F21 hq => ?_)
                            obtain ⟨bh35, bl36, j38, hR37, eF21⟩ := hq
                            refine J_eqF (F2 := va_up (va_up (va_up F 98 (oM ad (va_up f 10 0) v)) 99 (.inl (g 0, 858, .inl (aI bh35)))) 100 (.inl (g 0, 33, .inl (aI bl36)))) (eF21.trans (Eq.trans (congrArg (fun q : Nat → va_E => va_up q 100 (.inl (g 0, 33, .inl (aI bl36)))) (up_in1 (by decide))) (up_in0))) ?_
                            have hR39 := (congrArg (fun qq : Nat → Nat => reg _ _ _ (qq)) (up_in3 (by decide) (by decide) (by decide))).mp hR37
                            refine J_bipush d_M_power_199 (i8_ok (by decide)) ?_
                            refine J_istore (lv' := [(7, .int (iI 9)), (6, .int (iI (((SM.natAbs : Nat)) : Int))), (0, .ref (ad 98)), (1, .int (iI x)), (2, .int (iI y)), (3, .int (iI m)), (4, .int (iI to))]) d_M_power_201 (by decide) rfl ?_
                            refine J_pick (lv' := [(0, .ref (ad 98)), (1, .int (iI x)), (2, .int (iI y)), (3, .int (iI m)), (4, .int (iI to)), (6, .int (iI (((SM.natAbs : Nat)) : Int))), (7, .int (iI 9))]) [2, 3, 4, 5, 6, 1, 0] rfl ?_
                            have loop203 : ∀ (fuel : Nat) (i : Int) (e1 : Nat → Int) (e2 : Nat → Int) (r : Nat) (j1 : Nat) (j2 : Nat) (j3 : Nat) (j4 : Nat) (h1 : -1 ≤ i ∧ i ≤ 9) (hr : r = b ^ (SM.natAbs / 2 ^ (i + 1).toNat) % x3) (hRL203 : reg br e1 e2 (va_up (va_up (va_up (va_up (va_up W1 20 r) 22 j4) 26 j1) 25 j2) 24 j3)) (hfu : (i + 1).toNat < fuel), J l rm_M_power (0, 0) "NumberTowerModel" b_M_power 8 (Option.some Jvm.ClassFile.FieldType.int) D jCl (jTys g) A (fun _ me => me.name = y_M_power.name) (ji ad N (fun z F' => ∃ o, powR (regV R x) (regV R y) (regV R m) to o ∧ msto ad g R ln sh (fun k => k + 1) to o z F' ∧ offM F F')) ad N 0 0 203 [(0, .ref (ad 98)), (1, .int (iI x)), (2, .int (iI y)), (3, .int (iI m)), (4, .int (iI to)), (6, .int (iI (((SM.natAbs : Nat)) : Int))), (7, .int (iI i))] [] (va_up (va_up (va_up F 98 (oM ad (va_up f 10 0) v)) 99 (.inl (g 0, 858, .inl (aI e1)))) 100 (.inl (g 0, 33, .inl (aI e2)))) := by
                              intro fuel
                              induction fuel with
                              | zero => intro i e1 e2 r j1 j2 j3 j4 h1 hr hRL203 hfu; exact absurd hfu (Nat.not_lt_zero _)
                              | succ fuel ih =>
                                intro i e1 e2 r j1 j2 j3 j4 h1 hr hRL203 hfu
                                have hrl : r < x3 := by rw [hr]; exact Nat.mod_lt _ hm0
                                have hlr : lnw 28 r ≤ 5 := Nat.le_trans (lnw_mono8 (Nat.le_of_lt hrl)) hlm
                                have hlb : lnw 28 b ≤ 5 := Nat.le_trans (lnw_mono8 (Nat.le_of_lt hbb.1)) hlm
                                refine J_iload 6 d_M_power_203 rfl ?_
                                refine J_iflt (tgt := 277) d_M_power_205 (by decide) ⟨by omega, by omega⟩ (fun c205 => ?_) (fun c205 => ?_)
                                · refine J_aload_n 0 d_M_power_277 rfl rfl ?_
                                  refine J_bipush d_M_power_278 (i8_ok (by decide)) ?_
                                  refine J_lconst (v := 1) d_M_power_280 rfl ?_
                                  refine J_callVv cw_M_82 nh_M_put pn_M_put rfl rfl (by omega) (by rw [va_up_ne _ _ (by decide), va_up_ne _ _ (by decide), va_up_self]) (As := [.int (iI 21), .long (lI 1)]) (rest := []) rfl (Nat.le_of_ble_eq_true rfl) ⟨by decide, by decide⟩ rfl ⟨by decide, by decide⟩ d_M_power_281 (k_M_put hfl (a := 21) (n := 1) (hh := e1) (ll := e2) (V := va_up (va_up (va_up (va_up (va_up W1 20 r) 22 j4) 26 j1) 25 j2) 24 j3) (br := br) (hN := hN) (hO := (by rw [va_up_ne _ _ (by decide), va_up_ne _ _ (by decide), va_up_self])) (hB := (by rw [va_up_ne _ _ (by decide), va_up_self])) (hL := (by rw [va_up_self])) (hR := hRL203) (ha := by omega) (hn := by decide)) (fun  F22 hq => ?_)
                                  obtain ⟨bh40, bl41, hR42, eF22⟩ := hq
                                  refine J_eqF (F2 := va_up (va_up (va_up F 98 (oM ad (va_up f 10 0) v)) 99 (.inl (g 0, 858, .inl (aI bh40)))) 100 (.inl (g 0, 33, .inl (aI bl41)))) (eF22.trans (Eq.trans (congrArg (fun q : Nat → va_E => va_up q 100 (.inl (g 0, 33, .inl (aI bl41)))) (up_in1 (by decide))) (up_in0))) ?_
                                  have hR45 := reg_w1 (hzz.1 _) hR42
                                  refine J_aload_n 0 d_M_power_284 rfl rfl ?_
                                  refine J_iconst d_M_power_285 ?_
                                  refine pm_M_129 (by omega) (by rw [va_up_ne _ _ (by decide), va_up_ne _ _ (by decide), va_up_self]) (nb01 (by omega)) d_M_power_286 ?_
                                  refine J_eqF (F2 := va_up (va_up (va_up F 98 (oM ad (va_up (va_up f 10 0) 7 0) v)) 99 (.inl (g 0, 858, .inl (aI bh40)))) 100 (.inl (g 0, 33, .inl (aI bl41)))) (up_in2 (by decide) (by decide)) ?_
                                  refine J_aload_n 0 d_M_power_289 rfl rfl ?_
                                  refine J_iconst d_M_power_290 ?_
                                  refine J_iload 4 d_M_power_291 rfl ?_
                                  refine J_topi (r := ((to.toNat : Nat) : Int)) (congrArg iI (by omega)) ?_
                                  refine J_iconst d_M_power_293 ?_
                                  have hD9 := mstd_3 hD0 (f' := va_up (va_up f 10 0) 7 0) (v' := v) hR45 hzz (fun k hk => ((show (va_up (va_up (va_up (va_up (va_up (va_up W1 20 r) 22 j4) 26 j1) 25 j2) 24 j3) 21 1) k = W1 k from by rw [va_up_ne _ _ (by omega), va_up_ne _ _ (by omega), va_up_ne _ _ (by omega), va_up_ne _ _ (by omega), va_up_ne _ _ (by omega), va_up_ne _ _ (by omega)]).trans ((hf1 k (by omega)).trans (show (V) k = V k from by rfl)))) ((va_up_ne _ _ (by decide)).trans (va_up_ne _ _ (by decide))) ((va_up_ne _ _ (by decide)).trans (va_up_ne _ _ (by decide)))
                                  have hof9 : offM F (va_up (va_up (va_up F 98 (oM ad (va_up (va_up f 10 0) 7 0) v)) 99 (.inl (g 0, 858, .inl (aI bh40)))) 100 (.inl (g 0, 33, .inl (aI bl41)))) := offM_3
                                  have hc10 : (va_up (va_up f 10 0) 7 0) 10 = 0 := ((va_up_ne _ _ (by decide)).trans (va_up_self ..))
                                  refine J_callVi cw_M_142 nh_M_store pn_M_store rfl rfl (by omega) (by rw [va_up_ne _ _ (by decide), va_up_ne _ _ (by decide), va_up_self]) (As := [.int (iI 0), .int (iI ((to.toNat : Nat) : Int)), .int (iI 2)]) (rest := []) rfl (Nat.le_of_ble_eq_true rfl) ⟨by decide, by decide⟩ rfl ⟨by decide, by decide⟩ d_M_power_294 (c_M_store2 hfl (X := r) (Y := 1) (to := to.toNat) (kd := 0) (s := 1) (code := 2) hN hD9 (((va_up_ne _ _ (by decide)).trans ((va_up_ne _ _ (by decide)).trans ((va_up_ne _ _ (by decide)).trans ((va_up_ne _ _ (by decide)).trans ((va_up_ne _ _ (by decide)).trans (va_up_self ..))))))) ((va_up_self ..)) (by decide) (Nat.le_trans (lnw_mono8 (Nat.le_of_lt hrl)) (by omega)) (by decide) (blen_le.mpr (Nat.lt_trans (Nat.lt_trans hrl hmb) (by decide))) (by decide) (by decide) (((va_up_self ..))) (by decide) (by omega) (fun _ => Nat.one_dvd _) (fun e => absurd e (by decide))) (fun z9 F9 hq => ?_)
                                  obtain ⟨hq9, hoff9⟩ := hq
                                  replace hoff9 := offM_t hof9 hoff9
                                  refine J_iret rfl rfl d_M_power_297 ⟨by decide, by decide⟩ ?_
                                  have hi1 : (i + 1).toNat = 0 := by omega
                                  rw [hi1, Nat.pow_zero, Nat.div_one] at hr
                                  obtain ⟨hz9, hok9, hm9⟩ := stoQ_some hq9 (fin_one (Nat.lt_trans hrl hmb)) hc10
                                  refine ⟨_, rfl, rfl, rfl, .inr (0, if r = 0 then 0 else 1, r, 1), Or.inr (Or.inr ⟨hPC, b, ?_⟩), Or.inr ⟨_, rfl, hok9, hz9, hm9⟩, hoff9⟩
                                  rw [hrV1, hrV2, hrV3]
                                  show b < x3 ∧ (0 ≤ sg2 * (x2 : Int) → b = modB sg1 x1 x3) ∧ (sg2 * (x2 : Int) < 0 → Nat.gcd (modB sg1 x1 x3) x3 = 1 ∧ modB sg1 x1 x3 * b % x3 = 1 % x3) ∧ (Sum.inr (0, if r = 0 then 0 else 1, r, 1) : Sum Int Vn) = .inr (0, if b ^ (sg2 * (x2 : Int)).natAbs % x3 = 0 then 0 else 1, b ^ (sg2 * (x2 : Int)).natAbs % x3, 1)
                                  rw [← hSMn.1, ← hr]
                                  exact ⟨hbb.1, hbb.2.1, hbb.2.2, rfl⟩
                                · refine J_aload_n 0 d_M_power_208 rfl rfl ?_
                                  refine J_bipush d_M_power_209 (i8_ok (by decide)) ?_
                                  refine J_bipush d_M_power_211 (i8_ok (by decide)) ?_
                                  refine J_bipush d_M_power_213 (i8_ok (by decide)) ?_
                                  refine J_callVv cw_M_146 nh_M_times pn_M_times rfl rfl (by omega) (by rw [va_up_ne _ _ (by decide), va_up_ne _ _ (by decide), va_up_self]) (As := [.int (iI 20), .int (iI 20), .int (iI 22)]) (rest := []) rfl (Nat.le_of_ble_eq_true rfl) ⟨by decide, by decide⟩ rfl ⟨by decide, by decide⟩ d_M_power_215 (k_M_times hfl (a := 20) (b := 20) (t := 22) (hh := e1) (ll := e2) (V := va_up (va_up (va_up (va_up (va_up W1 20 r) 22 j4) 26 j1) 25 j2) 24 j3) (br := br) (hN := hN) (hO := (by rw [va_up_ne _ _ (by decide), va_up_ne _ _ (by decide), va_up_self])) (hB := (by rw [va_up_ne _ _ (by decide), va_up_self])) (hL := (by rw [va_up_self])) (hR := hRL203) (ha := by omega) (hb := by omega) (ht := by omega) (hxa := ((va_up_ne _ _ (by decide)).trans ((va_up_ne _ _ (by decide)).trans ((va_up_ne _ _ (by decide)).trans ((va_up_ne _ _ (by decide)).trans (va_up_self ..)))))) (bra := (hzz.2 20 (by decide) (by decide))) (hxb := ((va_up_ne _ _ (by decide)).trans ((va_up_ne _ _ (by decide)).trans ((va_up_ne _ _ (by decide)).trans ((va_up_ne _ _ (by decide)).trans (va_up_self ..)))))) (brb := (hzz.2 20 (by decide) (by decide))) (hat := by decide) (hbt := by decide) (hs := by omega)) (fun  F23 hq => ?_)
                                  obtain ⟨bh46, bl47, hR48, eF23⟩ := hq
                                  refine J_eqF (F2 := va_up (va_up (va_up F 98 (oM ad (va_up f 10 0) v)) 99 (.inl (g 0, 858, .inl (aI bh46)))) 100 (.inl (g 0, 33, .inl (aI bl47)))) (eF23.trans (Eq.trans (congrArg (fun q : Nat → va_E => va_up q 100 (.inl (g 0, 33, .inl (aI bl47)))) (up_in1 (by decide))) (up_in0))) ?_
                                  have hR51 := (congrArg (fun qq : Nat → Nat => reg _ _ _ (qq)) (up_in3 (by decide) (by decide) (by decide))).mp hR48
                                  refine J_aload_n 0 d_M_power_218 rfl rfl ?_
                                  refine J_bipush d_M_power_219 (i8_ok (by decide)) ?_
                                  refine J_iconst d_M_power_221 ?_
                                  refine J_callVv cw_M_214 nh_M_reduce pn_M_reduce rfl rfl (by omega) (by rw [va_up_ne _ _ (by decide), va_up_ne _ _ (by decide), va_up_self]) (As := [.int (iI 22), .int (iI 0)]) (rest := []) rfl (Nat.le_of_ble_eq_true rfl) ⟨by decide, by decide⟩ rfl ⟨by decide, by decide⟩ d_M_power_222 (c_M_reduce hfl (x := 22) (a := (r * r)) (m := x3) (b := 0) (hh := bh46) (ll := bl47) (f := va_up f 10 0) (v := v) (V := va_up (va_up (va_up (va_up (va_up W1 20 r) 22 (r * r)) 26 j1) 25 j2) 24 j3) (br := va_up br 22 0) hN (by rw [va_up_ne _ _ (by decide), va_up_ne _ _ (by decide), va_up_self]) (by rw [va_up_ne _ _ (by decide), va_up_self]) (by rw [va_up_self]) hR51 (hzz_up hzz) (by omega) (by omega) (va_up_self ..) (((va_up_ne _ _ (by decide)).trans ((va_up_ne _ _ (by decide)).trans ((va_up_ne _ _ (by decide)).trans (va_up_self ..))))) (((va_up_ne _ _ (by decide)).trans ((va_up_ne _ _ (by decide)).trans ((va_up_ne _ _ (by decide)).trans ((va_up_ne _ _ (by decide)).trans ((va_up_ne _ _ (by decide)).trans hW30)))))) (by decide) hm0 ⟨Nat.le_trans lnw_mul8 (by omega), by omega⟩) (fun  F24 hq => ?_)
                                  obtain ⟨bh52, bl53, j55, hR54, eF24⟩ := hq
                                  refine J_eqF (F2 := va_up (va_up (va_up F 98 (oM ad (va_up f 10 0) v)) 99 (.inl (g 0, 858, .inl (aI bh52)))) 100 (.inl (g 0, 33, .inl (aI bl53)))) (eF24.trans (Eq.trans (congrArg (fun q : Nat → va_E => va_up q 100 (.inl (g 0, 33, .inl (aI bl53)))) (up_in1 (by decide))) (up_in0))) ?_
                                  have hR56 := (congrArg (fun qq : Nat → Nat => reg _ _ _ (va_up (va_up (va_up (qq) 25 ((r * r) % x3)) 24 ((r * r) / x3)) 22 (rdN 0 (r * r) x3))) (up_in2 (by decide) (by decide))).mp hR54
                                  have hR57 := (congrArg (fun qq : Nat → Nat => reg _ _ _ (va_up (va_up (qq) 24 ((r * r) / x3)) 22 (rdN 0 (r * r) x3))) (up_in1 (by decide))).mp hR56
                                  have hR58 := (congrArg (fun qq : Nat → Nat => reg _ _ _ (va_up (qq) 22 (rdN 0 (r * r) x3))) (up_in0)).mp hR57
                                  have hR59 := (congrArg (fun qq : Nat → Nat => reg _ _ _ (qq)) (up_in3 (by decide) (by decide) (by decide))).mp hR58
                                  refine J_aload_n 0 d_M_power_225 rfl rfl ?_
                                  refine J_bipush d_M_power_226 (i8_ok (by decide)) ?_
                                  refine J_bipush d_M_power_228 (i8_ok (by decide)) ?_
                                  refine J_callVv cw_M_58 nh_M_copy pn_M_copy rfl rfl (by omega) (by rw [va_up_ne _ _ (by decide), va_up_ne _ _ (by decide), va_up_self]) (As := [.int (iI 22), .int (iI 20)]) (rest := []) rfl (Nat.le_of_ble_eq_true rfl) ⟨by decide, by decide⟩ rfl ⟨by decide, by decide⟩ d_M_power_230 (k_M_copy hfl (a := 22) (b := 20) (hh := bh52) (ll := bl53) (V := va_up (va_up (va_up (va_up (va_up W1 20 r) 22 (rdN 0 (r * r) x3)) 26 j55) 25 ((r * r) % x3)) 24 ((r * r) / x3)) (br := va_up br 22 0) (hN := hN) (hO := (by rw [va_up_ne _ _ (by decide), va_up_ne _ _ (by decide), va_up_self])) (hB := (by rw [va_up_ne _ _ (by decide), va_up_self])) (hL := (by rw [va_up_self])) (hR := hR59) (ha := by omega) (hb := by omega) (hxa := ((va_up_ne _ _ (by decide)).trans ((va_up_ne _ _ (by decide)).trans ((va_up_ne _ _ (by decide)).trans (va_up_self ..))))) (bra := (va_up_self ..))) (fun  F25 hq => ?_)
                                  obtain ⟨bh60, bl61, hR62, eF25⟩ := hq
                                  refine J_eqF (F2 := va_up (va_up (va_up F 98 (oM ad (va_up f 10 0) v)) 99 (.inl (g 0, 858, .inl (aI bh60)))) 100 (.inl (g 0, 33, .inl (aI bl61)))) (eF25.trans (Eq.trans (congrArg (fun q : Nat → va_E => va_up q 100 (.inl (g 0, 33, .inl (aI bl61)))) (up_in1 (by decide))) (up_in0))) ?_
                                  have hR65 := reg_w1 ((hzz_up hzz).1 _) hR62
                                  have hR66 := (congrArg (fun qq : Nat → Nat => reg _ _ _ (qq)) (up_in4 (by decide) (by decide) (by decide) (by decide))).mp hR65
                                  refine J_iload 5 d_M_power_233 rfl ?_
                                  refine J_iload 6 d_M_power_235 rfl ?_
                                  refine J_topi (r := ((i.toNat : Nat) : Int)) (congrArg iI (by omega)) ?_
                                  refine J_ishr (r := ((SM.natAbs / 2 ^ i.toNat : Nat) : Int)) d_M_power_237 (iI_shrn (by omega) i.toNat (by omega)) ?_
                                  refine J_iconst d_M_power_238 ?_
                                  refine J_iand (r := (((SM.natAbs / 2 ^ i.toNat) % 2 : Nat) : Int)) d_M_power_239 (iI_andn 1 (by decide)) ?_
                                  refine J_ifne (tgt := 246) d_M_power_240 (by decide) ⟨by omega, by omega⟩ (fun c240 => ?_) (fun c240 => ?_)
                                  · refine J_aload_n 0 d_M_power_246 rfl rfl ?_
                                    refine J_bipush d_M_power_247 (i8_ok (by decide)) ?_
                                    refine J_bipush d_M_power_249 (i8_ok (by decide)) ?_
                                    refine J_bipush d_M_power_251 (i8_ok (by decide)) ?_
                                    refine J_callVv cw_M_146 nh_M_times pn_M_times rfl rfl (by omega) (by rw [va_up_ne _ _ (by decide), va_up_ne _ _ (by decide), va_up_self]) (As := [.int (iI 20), .int (iI 16), .int (iI 22)]) (rest := []) rfl (Nat.le_of_ble_eq_true rfl) ⟨by decide, by decide⟩ rfl ⟨by decide, by decide⟩ d_M_power_253 (k_M_times hfl (a := 20) (b := 16) (t := 22) (hh := bh60) (ll := bl61) (V := va_up (va_up (va_up (va_up (va_up W1 20 (rdN 0 (r * r) x3)) 22 (rdN 0 (r * r) x3)) 26 j55) 25 ((r * r) % x3)) 24 ((r * r) / x3)) (br := va_up br 22 0) (hN := hN) (hO := (by rw [va_up_ne _ _ (by decide), va_up_ne _ _ (by decide), va_up_self])) (hB := (by rw [va_up_ne _ _ (by decide), va_up_self])) (hL := (by rw [va_up_self])) (hR := hR66) (ha := by omega) (hb := by omega) (ht := by omega) (hxa := ((va_up_ne _ _ (by decide)).trans ((va_up_ne _ _ (by decide)).trans ((va_up_ne _ _ (by decide)).trans ((va_up_ne _ _ (by decide)).trans (va_up_self ..)))))) (bra := ((va_up_ne _ _ (by decide)).trans (hzz.2 20 (by decide) (by decide)))) (hxb := ((va_up_ne _ _ (by decide)).trans ((va_up_ne _ _ (by decide)).trans ((va_up_ne _ _ (by decide)).trans ((va_up_ne _ _ (by decide)).trans ((va_up_ne _ _ (by decide)).trans hW16)))))) (brb := ((va_up_ne _ _ (by decide)).trans (hzz.2 16 (by decide) (by decide)))) (hat := by decide) (hbt := by decide) (hs := by have := lnw_mod_le (a := r * r) hm0 hlm; rw [rdN_0]; omega)) (fun  F26 hq => ?_)
                                    obtain ⟨bh67, bl68, hR69, eF26⟩ := hq
                                    refine J_eqF (F2 := va_up (va_up (va_up F 98 (oM ad (va_up f 10 0) v)) 99 (.inl (g 0, 858, .inl (aI bh67)))) 100 (.inl (g 0, 33, .inl (aI bl68)))) (eF26.trans (Eq.trans (congrArg (fun q : Nat → va_E => va_up q 100 (.inl (g 0, 33, .inl (aI bl68)))) (up_in1 (by decide))) (up_in0))) ?_
                                    have hR72 := (congrArg (fun q => reg q _ _ _) up_in0).mp hR69
                                    have hR73 := (congrArg (fun qq : Nat → Nat => reg _ _ _ (qq)) (up_in3 (by decide) (by decide) (by decide))).mp hR72
                                    refine J_aload_n 0 d_M_power_256 rfl rfl ?_
                                    refine J_bipush d_M_power_257 (i8_ok (by decide)) ?_
                                    refine J_iconst d_M_power_259 ?_
                                    refine J_callVv cw_M_214 nh_M_reduce pn_M_reduce rfl rfl (by omega) (by rw [va_up_ne _ _ (by decide), va_up_ne _ _ (by decide), va_up_self]) (As := [.int (iI 22), .int (iI 0)]) (rest := []) rfl (Nat.le_of_ble_eq_true rfl) ⟨by decide, by decide⟩ rfl ⟨by decide, by decide⟩ d_M_power_260 (c_M_reduce hfl (x := 22) (a := ((rdN 0 (r * r) x3) * b)) (m := x3) (b := 0) (hh := bh67) (ll := bl68) (f := va_up f 10 0) (v := v) (V := va_up (va_up (va_up (va_up (va_up W1 20 (rdN 0 (r * r) x3)) 22 ((rdN 0 (r * r) x3) * b)) 26 j55) 25 ((r * r) % x3)) 24 ((r * r) / x3)) (br := va_up br 22 0) hN (by rw [va_up_ne _ _ (by decide), va_up_ne _ _ (by decide), va_up_self]) (by rw [va_up_ne _ _ (by decide), va_up_self]) (by rw [va_up_self]) hR73 (hzz_up hzz) (by omega) (by omega) (va_up_self ..) (((va_up_ne _ _ (by decide)).trans ((va_up_ne _ _ (by decide)).trans ((va_up_ne _ _ (by decide)).trans (va_up_self ..))))) (((va_up_ne _ _ (by decide)).trans ((va_up_ne _ _ (by decide)).trans ((va_up_ne _ _ (by decide)).trans ((va_up_ne _ _ (by decide)).trans ((va_up_ne _ _ (by decide)).trans hW30)))))) (by decide) hm0 ⟨Nat.le_trans lnw_mul8 (by have := lnw_mod_le (a := r * r) hm0 hlm; rw [rdN_0]; omega), by omega⟩) (fun  F27 hq => ?_)
                                    obtain ⟨bh74, bl75, j77, hR76, eF27⟩ := hq
                                    refine J_eqF (F2 := va_up (va_up (va_up F 98 (oM ad (va_up f 10 0) v)) 99 (.inl (g 0, 858, .inl (aI bh74)))) 100 (.inl (g 0, 33, .inl (aI bl75)))) (eF27.trans (Eq.trans (congrArg (fun q : Nat → va_E => va_up q 100 (.inl (g 0, 33, .inl (aI bl75)))) (up_in1 (by decide))) (up_in0))) ?_
                                    have hR78 := (congrArg (fun qq : Nat → Nat => reg _ _ _ (va_up (va_up (va_up (qq) 25 (((rdN 0 (r * r) x3) * b) % x3)) 24 (((rdN 0 (r * r) x3) * b) / x3)) 22 (rdN 0 ((rdN 0 (r * r) x3) * b) x3))) (up_in2 (by decide) (by decide))).mp hR76
                                    have hR79 := (congrArg (fun qq : Nat → Nat => reg _ _ _ (va_up (va_up (qq) 24 (((rdN 0 (r * r) x3) * b) / x3)) 22 (rdN 0 ((rdN 0 (r * r) x3) * b) x3))) (up_in1 (by decide))).mp hR78
                                    have hR80 := (congrArg (fun qq : Nat → Nat => reg _ _ _ (va_up (qq) 22 (rdN 0 ((rdN 0 (r * r) x3) * b) x3))) (up_in0)).mp hR79
                                    have hR81 := (congrArg (fun qq : Nat → Nat => reg _ _ _ (qq)) (up_in3 (by decide) (by decide) (by decide))).mp hR80
                                    refine J_aload_n 0 d_M_power_263 rfl rfl ?_
                                    refine J_bipush d_M_power_264 (i8_ok (by decide)) ?_
                                    refine J_bipush d_M_power_266 (i8_ok (by decide)) ?_
                                    refine J_callVv cw_M_58 nh_M_copy pn_M_copy rfl rfl (by omega) (by rw [va_up_ne _ _ (by decide), va_up_ne _ _ (by decide), va_up_self]) (As := [.int (iI 22), .int (iI 20)]) (rest := []) rfl (Nat.le_of_ble_eq_true rfl) ⟨by decide, by decide⟩ rfl ⟨by decide, by decide⟩ d_M_power_268 (k_M_copy hfl (a := 22) (b := 20) (hh := bh74) (ll := bl75) (V := va_up (va_up (va_up (va_up (va_up W1 20 (rdN 0 (r * r) x3)) 22 (rdN 0 ((rdN 0 (r * r) x3) * b) x3)) 26 j77) 25 (((rdN 0 (r * r) x3) * b) % x3)) 24 (((rdN 0 (r * r) x3) * b) / x3)) (br := va_up br 22 0) (hN := hN) (hO := (by rw [va_up_ne _ _ (by decide), va_up_ne _ _ (by decide), va_up_self])) (hB := (by rw [va_up_ne _ _ (by decide), va_up_self])) (hL := (by rw [va_up_self])) (hR := hR81) (ha := by omega) (hb := by omega) (hxa := ((va_up_ne _ _ (by decide)).trans ((va_up_ne _ _ (by decide)).trans ((va_up_ne _ _ (by decide)).trans (va_up_self ..))))) (bra := (va_up_self ..))) (fun  F28 hq => ?_)
                                    obtain ⟨bh82, bl83, hR84, eF28⟩ := hq
                                    refine J_eqF (F2 := va_up (va_up (va_up F 98 (oM ad (va_up f 10 0) v)) 99 (.inl (g 0, 858, .inl (aI bh82)))) 100 (.inl (g 0, 33, .inl (aI bl83)))) (eF28.trans (Eq.trans (congrArg (fun q : Nat → va_E => va_up q 100 (.inl (g 0, 33, .inl (aI bl83)))) (up_in1 (by decide))) (up_in0))) ?_
                                    have hR87 := reg_w1 ((hzz_up hzz).1 _) hR84
                                    have hR88 := (congrArg (fun qq : Nat → Nat => reg _ _ _ (qq)) (up_in4 (by decide) (by decide) (by decide) (by decide))).mp hR87
                                    refine J_iinc (j := 6) (b := i - 1) (lv' := [(7, .int (iI (i - 1))), (0, .ref (ad 98)), (1, .int (iI x)), (2, .int (iI y)), (3, .int (iI m)), (4, .int (iI to)), (6, .int (iI (((SM.natAbs : Nat)) : Int)))]) d_M_power_271 rfl (by omega) (by decide) rfl ?_
                                    refine J_goto (tgt := 203) d_M_power_274 (by decide) ?_
                                    refine J_pick (lv' := [(0, .ref (ad 98)), (1, .int (iI x)), (2, .int (iI y)), (3, .int (iI m)), (4, .int (iI to)), (6, .int (iI (((SM.natAbs : Nat)) : Int))), (7, .int (iI (i - 1)))]) [1, 2, 3, 4, 5, 6, 0] rfl ?_
                                    refine ih (i - 1) bh82 bl83 (rdN 0 ((rdN 0 (r * r) x3) * b) x3) j77 (((rdN 0 (r * r) x3) * b) % x3) (((rdN 0 (r * r) x3) * b) / x3) (rdN 0 ((rdN 0 (r * r) x3) * b) x3) (by omega) ?_ (reg_w1 (hzz.1 _) hR88) (by omega)
                                    · rw [show (i - 1 + 1).toNat = i.toNat by omega, rdN_0, rdN_0, pbit1 (show SM.natAbs / 2 ^ i.toNat % 2 = 1 by omega), ← show (i + 1).toNat = i.toNat + 1 by omega, ← hr]
                                  · refine J_goto (tgt := 271) d_M_power_243 (by decide) ?_
                                    refine J_iinc (j := 6) (b := i - 1) (lv' := [(7, .int (iI (i - 1))), (0, .ref (ad 98)), (1, .int (iI x)), (2, .int (iI y)), (3, .int (iI m)), (4, .int (iI to)), (6, .int (iI (((SM.natAbs : Nat)) : Int)))]) d_M_power_271 rfl (by omega) (by decide) rfl ?_
                                    refine J_goto (tgt := 203) d_M_power_274 (by decide) ?_
                                    refine J_pick (lv' := [(0, .ref (ad 98)), (1, .int (iI x)), (2, .int (iI y)), (3, .int (iI m)), (4, .int (iI to)), (6, .int (iI (((SM.natAbs : Nat)) : Int))), (7, .int (iI (i - 1)))]) [1, 2, 3, 4, 5, 6, 0] rfl ?_
                                    refine ih (i - 1) bh60 bl61 (rdN 0 (r * r) x3) j55 ((r * r) % x3) ((r * r) / x3) (rdN 0 (r * r) x3) (by omega) ?_ (reg_w1 (hzz.1 _) hR66) (by omega)
                                    · rw [show (i - 1 + 1).toNat = i.toNat by omega, rdN_0, pbit0 (show SM.natAbs / 2 ^ i.toNat % 2 = 0 by omega), ← show (i + 1).toNat = i.toNat + 1 by omega, ← hr]
                            have hx_ := (congrArg (reg _ _ _) (up_same1 (i := 22) (a := (W1 22)) ((va_up_ne _ _ (by decide)).trans ((va_up_ne _ _ (by decide)).trans ((va_up_ne _ _ (by decide)).trans (va_up_ne _ _ (by decide))))))).mp hR39
                            have hy_22 := hx_
                            exact loop203 ((((9 : Int) + 1).toNat) + 1) (9 : Int) bh35 bl36 (rdN 0 1 x3) j38 (1 % x3) (1 / x3) (W1 22) (by omega) (by rw [rdN_0, show ((9 : Int) + 1).toNat = 10 from rfl, Nat.div_eq_of_lt (by omega), Nat.pow_zero]) ((congrArg (reg _ _ _) (Eq.trans (up_cm (by decide)) (Eq.trans (congrArg (fun qq : Nat → Nat => va_up qq 24 (1 / x3)) (up_cm (by decide))) (congrArg (fun qq : Nat → Nat => va_up (va_up qq 25 (1 % x3)) 24 (1 / x3)) (up_cm (by decide)))))).mp hy_22) (Nat.lt_succ_self _)
                          · refine J_iload 5 d_M_power_175 rfl ?_
                            refine J_ineg d_M_power_177 ?_
                            refine J_goto (tgt := 183) d_M_power_178 (by decide) ?_
                            refine J_topi (r := (((SM.natAbs : Nat)) : Int)) (congrArg iI (by omega)) ?_
                            refine J_istore (lv' := [(6, .int (iI (((SM.natAbs : Nat)) : Int))), (0, .ref (ad 98)), (1, .int (iI x)), (2, .int (iI y)), (3, .int (iI m)), (4, .int (iI to))]) d_M_power_183 (by decide) rfl ?_
                            refine J_aload_n 1 d_M_power_185 rfl rfl ?_
                            refine J_bipush d_M_power_186 (i8_ok (by decide)) ?_
                            refine J_lconst (v := 1) d_M_power_188 rfl ?_
                            refine J_callVv cw_M_82 nh_M_put pn_M_put rfl rfl (by omega) (by rw [va_up_ne _ _ (by decide), va_up_ne _ _ (by decide), va_up_self]) (As := [.int (iI 20), .long (lI 1)]) (rest := []) rfl (Nat.le_of_ble_eq_true rfl) ⟨by decide, by decide⟩ rfl ⟨by decide, by decide⟩ d_M_power_189 (k_M_put hfl (a := 20) (n := 1) (hh := e1) (ll := e2) (V := W1) (br := br) (hN := hN) (hO := (by rw [va_up_ne _ _ (by decide), va_up_ne _ _ (by decide), va_up_self])) (hB := (by rw [va_up_ne _ _ (by decide), va_up_self])) (hL := (by rw [va_up_self])) (hR := hR1) (ha := by omega) (hn := by decide)) (fun  F29 hq => ?_)
                            obtain ⟨bh89, bl90, hR91, eF29⟩ := hq
                            refine J_eqF (F2 := va_up (va_up (va_up F 98 (oM ad (va_up f 10 0) v)) 99 (.inl (g 0, 858, .inl (aI bh89)))) 100 (.inl (g 0, 33, .inl (aI bl90)))) (eF29.trans (Eq.trans (congrArg (fun q : Nat → va_E => va_up q 100 (.inl (g 0, 33, .inl (aI bl90)))) (up_in1 (by decide))) (up_in0))) ?_
                            have hR94 := reg_w1 (hzz.1 _) hR91
                            refine J_aload_n 1 d_M_power_192 rfl rfl ?_
                            refine J_bipush d_M_power_193 (i8_ok (by decide)) ?_
                            refine J_iconst d_M_power_195 ?_
                            refine J_callVv cw_M_214 nh_M_reduce pn_M_reduce rfl rfl (by omega) (by rw [va_up_ne _ _ (by decide), va_up_ne _ _ (by decide), va_up_self]) (As := [.int (iI 20), .int (iI 0)]) (rest := []) rfl (Nat.le_of_ble_eq_true rfl) ⟨by decide, by decide⟩ rfl ⟨by decide, by decide⟩ d_M_power_196 (c_M_reduce hfl (x := 20) (a := 1) (m := x3) (b := 0) (hh := bh89) (ll := bl90) (f := va_up f 10 0) (v := v) (V := va_up W1 20 1) (br := br) hN (by rw [va_up_ne _ _ (by decide), va_up_ne _ _ (by decide), va_up_self]) (by rw [va_up_ne _ _ (by decide), va_up_self]) (by rw [va_up_self]) hR94 hzz (by omega) (by omega) (hzz.2 20 (by decide) (by decide)) ((va_up_self ..)) (((va_up_ne _ _ (by decide)).trans hW30)) (by decide) hm0 ⟨by decide, by omega⟩) (fun  F30 hq => ?_)
                            obtain ⟨bh95, bl96, j98, hR97, eF30⟩ := hq
                            refine J_eqF (F2 := va_up (va_up (va_up F 98 (oM ad (va_up f 10 0) v)) 99 (.inl (g 0, 858, .inl (aI bh95)))) 100 (.inl (g 0, 33, .inl (aI bl96)))) (eF30.trans (Eq.trans (congrArg (fun q : Nat → va_E => va_up q 100 (.inl (g 0, 33, .inl (aI bl96)))) (up_in1 (by decide))) (up_in0))) ?_
                            have hR99 := (congrArg (fun qq : Nat → Nat => reg _ _ _ (qq)) (up_in3 (by decide) (by decide) (by decide))).mp hR97
                            refine J_bipush d_M_power_199 (i8_ok (by decide)) ?_
                            refine J_istore (lv' := [(7, .int (iI 9)), (6, .int (iI (((SM.natAbs : Nat)) : Int))), (0, .ref (ad 98)), (1, .int (iI x)), (2, .int (iI y)), (3, .int (iI m)), (4, .int (iI to))]) d_M_power_201 (by decide) rfl ?_
                            refine J_pick (lv' := [(0, .ref (ad 98)), (1, .int (iI x)), (2, .int (iI y)), (3, .int (iI m)), (4, .int (iI to)), (6, .int (iI (((SM.natAbs : Nat)) : Int))), (7, .int (iI 9))]) [2, 3, 4, 5, 6, 1, 0] rfl ?_
                            have loop203 : ∀ (fuel : Nat) (i : Int) (e1 : Nat → Int) (e2 : Nat → Int) (r : Nat) (j1 : Nat) (j2 : Nat) (j3 : Nat) (j4 : Nat) (h1 : -1 ≤ i ∧ i ≤ 9) (hr : r = b ^ (SM.natAbs / 2 ^ (i + 1).toNat) % x3) (hRL203 : reg br e1 e2 (va_up (va_up (va_up (va_up (va_up W1 20 r) 22 j4) 26 j1) 25 j2) 24 j3)) (hfu : (i + 1).toNat < fuel), J l rm_M_power (0, 0) "NumberTowerModel" b_M_power 8 (Option.some Jvm.ClassFile.FieldType.int) D jCl (jTys g) A (fun _ me => me.name = y_M_power.name) (ji ad N (fun z F' => ∃ o, powR (regV R x) (regV R y) (regV R m) to o ∧ msto ad g R ln sh (fun k => k + 1) to o z F' ∧ offM F F')) ad N 0 0 203 [(0, .ref (ad 98)), (1, .int (iI x)), (2, .int (iI y)), (3, .int (iI m)), (4, .int (iI to)), (6, .int (iI (((SM.natAbs : Nat)) : Int))), (7, .int (iI i))] [] (va_up (va_up (va_up F 98 (oM ad (va_up f 10 0) v)) 99 (.inl (g 0, 858, .inl (aI e1)))) 100 (.inl (g 0, 33, .inl (aI e2)))) := by
                              intro fuel
                              induction fuel with
                              | zero => intro i e1 e2 r j1 j2 j3 j4 h1 hr hRL203 hfu; exact absurd hfu (Nat.not_lt_zero _)
                              | succ fuel ih =>
                                intro i e1 e2 r j1 j2 j3 j4 h1 hr hRL203 hfu
                                have hrl : r < x3 := by rw [hr]; exact Nat.mod_lt _ hm0
                                have hlr : lnw 28 r ≤ 5 := Nat.le_trans (lnw_mono8 (Nat.le_of_lt hrl)) hlm
                                have hlb : lnw 28 b ≤ 5 := Nat.le_trans (lnw_mono8 (Nat.le_of_lt hbb.1)) hlm
                                refine J_iload 6 d_M_power_203 rfl ?_
                                refine J_iflt (tgt := 277) d_M_power_205 (by decide) ⟨by omega, by omega⟩ (fun c205 => ?_) (fun c205 => ?_)
                                · refine J_aload_n 0 d_M_power_277 rfl rfl ?_
                                  refine J_bipush d_M_power_278 (i8_ok (by decide)) ?_
                                  refine J_lconst (v := 1) d_M_power_280 rfl ?_
                                  refine J_callVv cw_M_82 nh_M_put pn_M_put rfl rfl (by omega) (by rw [va_up_ne _ _ (by decide), va_up_ne _ _ (by decide), va_up_self]) (As := [.int (iI 21), .long (lI 1)]) (rest := []) rfl (Nat.le_of_ble_eq_true rfl) ⟨by decide, by decide⟩ rfl ⟨by decide, by decide⟩ d_M_power_281 (k_M_put hfl (a := 21) (n := 1) (hh := e1) (ll := e2) (V := va_up (va_up (va_up (va_up (va_up W1 20 r) 22 j4) 26 j1) 25 j2) 24 j3) (br := br) (hN := hN) (hO := (by rw [va_up_ne _ _ (by decide), va_up_ne _ _ (by decide), va_up_self])) (hB := (by rw [va_up_ne _ _ (by decide), va_up_self])) (hL := (by rw [va_up_self])) (hR := hRL203) (ha := by omega) (hn := by decide)) (fun  F31 hq => ?_)
                                  obtain ⟨bh100, bl101, hR102, eF31⟩ := hq
                                  refine J_eqF (F2 := va_up (va_up (va_up F 98 (oM ad (va_up f 10 0) v)) 99 (.inl (g 0, 858, .inl (aI bh100)))) 100 (.inl (g 0, 33, .inl (aI bl101)))) (eF31.trans (Eq.trans (congrArg (fun q : Nat → va_E => va_up q 100 (.inl (g 0, 33, .inl (aI bl101)))) (up_in1 (by decide))) (up_in0))) ?_
                                  have hR105 := reg_w1 (hzz.1 _) hR102
                                  refine J_aload_n 0 d_M_power_284 rfl rfl ?_
                                  refine J_iconst d_M_power_285 ?_
                                  refine pm_M_129 (by omega) (by rw [va_up_ne _ _ (by decide), va_up_ne _ _ (by decide), va_up_self]) (nb01 (by omega)) d_M_power_286 ?_
                                  refine J_eqF (F2 := va_up (va_up (va_up F 98 (oM ad (va_up (va_up f 10 0) 7 0) v)) 99 (.inl (g 0, 858, .inl (aI bh100)))) 100 (.inl (g 0, 33, .inl (aI bl101)))) (up_in2 (by decide) (by decide)) ?_
                                  refine J_aload_n 0 d_M_power_289 rfl rfl ?_
                                  refine J_iconst d_M_power_290 ?_
                                  refine J_iload 4 d_M_power_291 rfl ?_
                                  refine J_topi (r := ((to.toNat : Nat) : Int)) (congrArg iI (by omega)) ?_
                                  refine J_iconst d_M_power_293 ?_
                                  have hD9 := mstd_3 hD0 (f' := va_up (va_up f 10 0) 7 0) (v' := v) hR105 hzz (fun k hk => ((show (va_up (va_up (va_up (va_up (va_up (va_up W1 20 r) 22 j4) 26 j1) 25 j2) 24 j3) 21 1) k = W1 k from by rw [va_up_ne _ _ (by omega), va_up_ne _ _ (by omega), va_up_ne _ _ (by omega), va_up_ne _ _ (by omega), va_up_ne _ _ (by omega), va_up_ne _ _ (by omega)]).trans ((hf1 k (by omega)).trans (show (V) k = V k from by rfl)))) ((va_up_ne _ _ (by decide)).trans (va_up_ne _ _ (by decide))) ((va_up_ne _ _ (by decide)).trans (va_up_ne _ _ (by decide)))
                                  have hof9 : offM F (va_up (va_up (va_up F 98 (oM ad (va_up (va_up f 10 0) 7 0) v)) 99 (.inl (g 0, 858, .inl (aI bh100)))) 100 (.inl (g 0, 33, .inl (aI bl101)))) := offM_3
                                  have hc10 : (va_up (va_up f 10 0) 7 0) 10 = 0 := ((va_up_ne _ _ (by decide)).trans (va_up_self ..))
                                  refine J_callVi cw_M_142 nh_M_store pn_M_store rfl rfl (by omega) (by rw [va_up_ne _ _ (by decide), va_up_ne _ _ (by decide), va_up_self]) (As := [.int (iI 0), .int (iI ((to.toNat : Nat) : Int)), .int (iI 2)]) (rest := []) rfl (Nat.le_of_ble_eq_true rfl) ⟨by decide, by decide⟩ rfl ⟨by decide, by decide⟩ d_M_power_294 (c_M_store2 hfl (X := r) (Y := 1) (to := to.toNat) (kd := 0) (s := 1) (code := 2) hN hD9 (((va_up_ne _ _ (by decide)).trans ((va_up_ne _ _ (by decide)).trans ((va_up_ne _ _ (by decide)).trans ((va_up_ne _ _ (by decide)).trans ((va_up_ne _ _ (by decide)).trans (va_up_self ..))))))) ((va_up_self ..)) (by decide) (Nat.le_trans (lnw_mono8 (Nat.le_of_lt hrl)) (by omega)) (by decide) (blen_le.mpr (Nat.lt_trans (Nat.lt_trans hrl hmb) (by decide))) (by decide) (by decide) (((va_up_self ..))) (by decide) (by omega) (fun _ => Nat.one_dvd _) (fun e => absurd e (by decide))) (fun z9 F9 hq => ?_)
                                  obtain ⟨hq9, hoff9⟩ := hq
                                  replace hoff9 := offM_t hof9 hoff9
                                  refine J_iret rfl rfl d_M_power_297 ⟨by decide, by decide⟩ ?_
                                  have hi1 : (i + 1).toNat = 0 := by omega
                                  rw [hi1, Nat.pow_zero, Nat.div_one] at hr
                                  obtain ⟨hz9, hok9, hm9⟩ := stoQ_some hq9 (fin_one (Nat.lt_trans hrl hmb)) hc10
                                  refine ⟨_, rfl, rfl, rfl, .inr (0, if r = 0 then 0 else 1, r, 1), Or.inr (Or.inr ⟨hPC, b, ?_⟩), Or.inr ⟨_, rfl, hok9, hz9, hm9⟩, hoff9⟩
                                  rw [hrV1, hrV2, hrV3]
                                  show b < x3 ∧ (0 ≤ sg2 * (x2 : Int) → b = modB sg1 x1 x3) ∧ (sg2 * (x2 : Int) < 0 → Nat.gcd (modB sg1 x1 x3) x3 = 1 ∧ modB sg1 x1 x3 * b % x3 = 1 % x3) ∧ (Sum.inr (0, if r = 0 then 0 else 1, r, 1) : Sum Int Vn) = .inr (0, if b ^ (sg2 * (x2 : Int)).natAbs % x3 = 0 then 0 else 1, b ^ (sg2 * (x2 : Int)).natAbs % x3, 1)
                                  rw [← hSMn.1, ← hr]
                                  exact ⟨hbb.1, hbb.2.1, hbb.2.2, rfl⟩
                                · refine J_aload_n 0 d_M_power_208 rfl rfl ?_
                                  refine J_bipush d_M_power_209 (i8_ok (by decide)) ?_
                                  refine J_bipush d_M_power_211 (i8_ok (by decide)) ?_
                                  refine J_bipush d_M_power_213 (i8_ok (by decide)) ?_
                                  refine J_callVv cw_M_146 nh_M_times pn_M_times rfl rfl (by omega) (by rw [va_up_ne _ _ (by decide), va_up_ne _ _ (by decide), va_up_self]) (As := [.int (iI 20), .int (iI 20), .int (iI 22)]) (rest := []) rfl (Nat.le_of_ble_eq_true rfl) ⟨by decide, by decide⟩ rfl ⟨by decide, by decide⟩ d_M_power_215 (k_M_times hfl (a := 20) (b := 20) (t := 22) (hh := e1) (ll := e2) (V := va_up (va_up (va_up (va_up (va_up W1 20 r) 22 j4) 26 j1) 25 j2) 24 j3) (br := br) (hN := hN) (hO := (by rw [va_up_ne _ _ (by decide), va_up_ne _ _ (by decide), va_up_self])) (hB := (by rw [va_up_ne _ _ (by decide), va_up_self])) (hL := (by rw [va_up_self])) (hR := hRL203) (ha := by omega) (hb := by omega) (ht := by omega) (hxa := ((va_up_ne _ _ (by decide)).trans ((va_up_ne _ _ (by decide)).trans ((va_up_ne _ _ (by decide)).trans ((va_up_ne _ _ (by decide)).trans (va_up_self ..)))))) (bra := (hzz.2 20 (by decide) (by decide))) (hxb := ((va_up_ne _ _ (by decide)).trans ((va_up_ne _ _ (by decide)).trans ((va_up_ne _ _ (by decide)).trans ((va_up_ne _ _ (by decide)).trans (va_up_self ..)))))) (brb := (hzz.2 20 (by decide) (by decide))) (hat := by decide) (hbt := by decide) (hs := by omega)) (fun  F32 hq => ?_)
                                  obtain ⟨bh106, bl107, hR108, eF32⟩ := hq
                                  refine J_eqF (F2 := va_up (va_up (va_up F 98 (oM ad (va_up f 10 0) v)) 99 (.inl (g 0, 858, .inl (aI bh106)))) 100 (.inl (g 0, 33, .inl (aI bl107)))) (eF32.trans (Eq.trans (congrArg (fun q : Nat → va_E => va_up q 100 (.inl (g 0, 33, .inl (aI bl107)))) (up_in1 (by decide))) (up_in0))) ?_
                                  have hR111 := (congrArg (fun qq : Nat → Nat => reg _ _ _ (qq)) (up_in3 (by decide) (by decide) (by decide))).mp hR108
                                  refine J_aload_n 0 d_M_power_218 rfl rfl ?_
                                  refine J_bipush d_M_power_219 (i8_ok (by decide)) ?_
                                  refine J_iconst d_M_power_221 ?_
                                  refine J_callVv cw_M_214 nh_M_reduce pn_M_reduce rfl rfl (by omega) (by rw [va_up_ne _ _ (by decide), va_up_ne _ _ (by decide), va_up_self]) (As := [.int (iI 22), .int (iI 0)]) (rest := []) rfl (Nat.le_of_ble_eq_true rfl) ⟨by decide, by decide⟩ rfl ⟨by decide, by decide⟩ d_M_power_222 (c_M_reduce hfl (x := 22) (a := (r * r)) (m := x3) (b := 0) (hh := bh106) (ll := bl107) (f := va_up f 10 0) (v := v) (V := va_up (va_up (va_up (va_up (va_up W1 20 r) 22 (r * r)) 26 j1) 25 j2) 24 j3) (br := va_up br 22 0) hN (by rw [va_up_ne _ _ (by decide), va_up_ne _ _ (by decide), va_up_self]) (by rw [va_up_ne _ _ (by decide), va_up_self]) (by rw [va_up_self]) hR111 (hzz_up hzz) (by omega) (by omega) (va_up_self ..) (((va_up_ne _ _ (by decide)).trans ((va_up_ne _ _ (by decide)).trans ((va_up_ne _ _ (by decide)).trans (va_up_self ..))))) (((va_up_ne _ _ (by decide)).trans ((va_up_ne _ _ (by decide)).trans ((va_up_ne _ _ (by decide)).trans ((va_up_ne _ _ (by decide)).trans ((va_up_ne _ _ (by decide)).trans hW30)))))) (by decide) hm0 ⟨Nat.le_trans lnw_mul8 (by omega), by omega⟩) (fun  F33 hq => ?_)
                                  obtain ⟨bh112, bl113, j115, hR114, eF33⟩ := hq
                                  refine J_eqF (F2 := va_up (va_up (va_up F 98 (oM ad (va_up f 10 0) v)) 99 (.inl (g 0, 858, .inl (aI bh112)))) 100 (.inl (g 0, 33, .inl (aI bl113)))) (eF33.trans (Eq.trans (congrArg (fun q : Nat → va_E => va_up q 100 (.inl (g 0, 33, .inl (aI bl113)))) (up_in1 (by decide))) (up_in0))) ?_
                                  have hR116 := (congrArg (fun qq : Nat → Nat => reg _ _ _ (va_up (va_up (va_up (qq) 25 ((r * r) % x3)) 24 ((r * r) / x3)) 22 (rdN 0 (r * r) x3))) (up_in2 (by decide) (by decide))).mp hR114
                                  have hR117 := (congrArg (fun qq : Nat → Nat => reg _ _ _ (va_up (va_up (qq) 24 ((r * r) / x3)) 22 (rdN 0 (r * r) x3))) (up_in1 (by decide))).mp hR116
                                  have hR118 := (congrArg (fun qq : Nat → Nat => reg _ _ _ (va_up (qq) 22 (rdN 0 (r * r) x3))) (up_in0)).mp hR117
                                  have hR119 := (congrArg (fun qq : Nat → Nat => reg _ _ _ (qq)) (up_in3 (by decide) (by decide) (by decide))).mp hR118
                                  refine J_aload_n 0 d_M_power_225 rfl rfl ?_
                                  refine J_bipush d_M_power_226 (i8_ok (by decide)) ?_
                                  refine J_bipush d_M_power_228 (i8_ok (by decide)) ?_
                                  refine J_callVv cw_M_58 nh_M_copy pn_M_copy rfl rfl (by omega) (by rw [va_up_ne _ _ (by decide), va_up_ne _ _ (by decide), va_up_self]) (As := [.int (iI 22), .int (iI 20)]) (rest := []) rfl (Nat.le_of_ble_eq_true rfl) ⟨by decide, by decide⟩ rfl ⟨by decide, by decide⟩ d_M_power_230 (k_M_copy hfl (a := 22) (b := 20) (hh := bh112) (ll := bl113) (V := va_up (va_up (va_up (va_up (va_up W1 20 r) 22 (rdN 0 (r * r) x3)) 26 j115) 25 ((r * r) % x3)) 24 ((r * r) / x3)) (br := va_up br 22 0) (hN := hN) (hO := (by rw [va_up_ne _ _ (by decide), va_up_ne _ _ (by decide), va_up_self])) (hB := (by rw [va_up_ne _ _ (by decide), va_up_self])) (hL := (by rw [va_up_self])) (hR := hR119) (ha := by omega) (hb := by omega) (hxa := ((va_up_ne _ _ (by decide)).trans ((va_up_ne _ _ (by decide)).trans ((va_up_ne _ _ (by decide)).trans (va_up_self ..))))) (bra := (va_up_self ..))) (fun  F34 hq => ?_)
                                  obtain ⟨bh120, bl121, hR122, eF34⟩ := hq
                                  refine J_eqF (F2 := va_up (va_up (va_up F 98 (oM ad (va_up f 10 0) v)) 99 (.inl (g 0, 858, .inl (aI bh120)))) 100 (.inl (g 0, 33, .inl (aI bl121)))) (eF34.trans (Eq.trans (congrArg (fun q : Nat → va_E => va_up q 100 (.inl (g 0, 33, .inl (aI bl121)))) (up_in1 (by decide))) (up_in0))) ?_
                                  have hR125 := reg_w1 ((hzz_up hzz).1 _) hR122
                                  have hR126 := (congrArg (fun qq : Nat → Nat => reg _ _ _ (qq)) (up_in4 (by decide) (by decide) (by decide) (by decide))).mp hR125
                                  refine J_iload 5 d_M_power_233 rfl ?_
                                  refine J_iload 6 d_M_power_235 rfl ?_
                                  refine J_topi (r := ((i.toNat : Nat) : Int)) (congrArg iI (by omega)) ?_
                                  refine J_ishr (r := ((SM.natAbs / 2 ^ i.toNat : Nat) : Int)) d_M_power_237 (iI_shrn (by omega) i.toNat (by omega)) ?_
                                  refine J_iconst d_M_power_238 ?_
                                  refine J_iand (r := (((SM.natAbs / 2 ^ i.toNat) % 2 : Nat) : Int)) d_M_power_239 (iI_andn 1 (by decide)) ?_
                                  refine J_ifne (tgt := 246) d_M_power_240 (by decide) ⟨by omega, by omega⟩ (fun c240 => ?_) (fun c240 => ?_)
                                  · refine J_aload_n 0 d_M_power_246 rfl rfl ?_
                                    refine J_bipush d_M_power_247 (i8_ok (by decide)) ?_
                                    refine J_bipush d_M_power_249 (i8_ok (by decide)) ?_
                                    refine J_bipush d_M_power_251 (i8_ok (by decide)) ?_
                                    refine J_callVv cw_M_146 nh_M_times pn_M_times rfl rfl (by omega) (by rw [va_up_ne _ _ (by decide), va_up_ne _ _ (by decide), va_up_self]) (As := [.int (iI 20), .int (iI 16), .int (iI 22)]) (rest := []) rfl (Nat.le_of_ble_eq_true rfl) ⟨by decide, by decide⟩ rfl ⟨by decide, by decide⟩ d_M_power_253 (k_M_times hfl (a := 20) (b := 16) (t := 22) (hh := bh120) (ll := bl121) (V := va_up (va_up (va_up (va_up (va_up W1 20 (rdN 0 (r * r) x3)) 22 (rdN 0 (r * r) x3)) 26 j115) 25 ((r * r) % x3)) 24 ((r * r) / x3)) (br := va_up br 22 0) (hN := hN) (hO := (by rw [va_up_ne _ _ (by decide), va_up_ne _ _ (by decide), va_up_self])) (hB := (by rw [va_up_ne _ _ (by decide), va_up_self])) (hL := (by rw [va_up_self])) (hR := hR126) (ha := by omega) (hb := by omega) (ht := by omega) (hxa := ((va_up_ne _ _ (by decide)).trans ((va_up_ne _ _ (by decide)).trans ((va_up_ne _ _ (by decide)).trans ((va_up_ne _ _ (by decide)).trans (va_up_self ..)))))) (bra := ((va_up_ne _ _ (by decide)).trans (hzz.2 20 (by decide) (by decide)))) (hxb := ((va_up_ne _ _ (by decide)).trans ((va_up_ne _ _ (by decide)).trans ((va_up_ne _ _ (by decide)).trans ((va_up_ne _ _ (by decide)).trans ((va_up_ne _ _ (by decide)).trans hW16)))))) (brb := ((va_up_ne _ _ (by decide)).trans (hzz.2 16 (by decide) (by decide)))) (hat := by decide) (hbt := by decide) (hs := by have := lnw_mod_le (a := r * r) hm0 hlm; rw [rdN_0]; omega)) (fun  F35 hq => ?_)
                                    obtain ⟨bh127, bl128, hR129, eF35⟩ := hq
                                    refine J_eqF (F2 := va_up (va_up (va_up F 98 (oM ad (va_up f 10 0) v)) 99 (.inl (g 0, 858, .inl (aI bh127)))) 100 (.inl (g 0, 33, .inl (aI bl128)))) (eF35.trans (Eq.trans (congrArg (fun q : Nat → va_E => va_up q 100 (.inl (g 0, 33, .inl (aI bl128)))) (up_in1 (by decide))) (up_in0))) ?_
                                    have hR132 := (congrArg (fun q => reg q _ _ _) up_in0).mp hR129
                                    have hR133 := (congrArg (fun qq : Nat → Nat => reg _ _ _ (qq)) (up_in3 (by decide) (by decide) (by decide))).mp hR132
                                    refine J_aload_n 0 d_M_power_256 rfl rfl ?_
                                    refine J_bipush d_M_power_257 (i8_ok (by decide)) ?_
                                    refine J_iconst d_M_power_259 ?_
                                    refine J_callVv cw_M_214 nh_M_reduce pn_M_reduce rfl rfl (by omega) (by rw [va_up_ne _ _ (by decide), va_up_ne _ _ (by decide), va_up_self]) (As := [.int (iI 22), .int (iI 0)]) (rest := []) rfl (Nat.le_of_ble_eq_true rfl) ⟨by decide, by decide⟩ rfl ⟨by decide, by decide⟩ d_M_power_260 (c_M_reduce hfl (x := 22) (a := ((rdN 0 (r * r) x3) * b)) (m := x3) (b := 0) (hh := bh127) (ll := bl128) (f := va_up f 10 0) (v := v) (V := va_up (va_up (va_up (va_up (va_up W1 20 (rdN 0 (r * r) x3)) 22 ((rdN 0 (r * r) x3) * b)) 26 j115) 25 ((r * r) % x3)) 24 ((r * r) / x3)) (br := va_up br 22 0) hN (by rw [va_up_ne _ _ (by decide), va_up_ne _ _ (by decide), va_up_self]) (by rw [va_up_ne _ _ (by decide), va_up_self]) (by rw [va_up_self]) hR133 (hzz_up hzz) (by omega) (by omega) (va_up_self ..) (((va_up_ne _ _ (by decide)).trans ((va_up_ne _ _ (by decide)).trans ((va_up_ne _ _ (by decide)).trans (va_up_self ..))))) (((va_up_ne _ _ (by decide)).trans ((va_up_ne _ _ (by decide)).trans ((va_up_ne _ _ (by decide)).trans ((va_up_ne _ _ (by decide)).trans ((va_up_ne _ _ (by decide)).trans hW30)))))) (by decide) hm0 ⟨Nat.le_trans lnw_mul8 (by have := lnw_mod_le (a := r * r) hm0 hlm; rw [rdN_0]; omega), by omega⟩) (fun  F36 hq => ?_)
                                    obtain ⟨bh134, bl135, j137, hR136, eF36⟩ := hq
                                    refine J_eqF (F2 := va_up (va_up (va_up F 98 (oM ad (va_up f 10 0) v)) 99 (.inl (g 0, 858, .inl (aI bh134)))) 100 (.inl (g 0, 33, .inl (aI bl135)))) (eF36.trans (Eq.trans (congrArg (fun q : Nat → va_E => va_up q 100 (.inl (g 0, 33, .inl (aI bl135)))) (up_in1 (by decide))) (up_in0))) ?_
                                    have hR138 := (congrArg (fun qq : Nat → Nat => reg _ _ _ (va_up (va_up (va_up (qq) 25 (((rdN 0 (r * r) x3) * b) % x3)) 24 (((rdN 0 (r * r) x3) * b) / x3)) 22 (rdN 0 ((rdN 0 (r * r) x3) * b) x3))) (up_in2 (by decide) (by decide))).mp hR136
                                    have hR139 := (congrArg (fun qq : Nat → Nat => reg _ _ _ (va_up (va_up (qq) 24 (((rdN 0 (r * r) x3) * b) / x3)) 22 (rdN 0 ((rdN 0 (r * r) x3) * b) x3))) (up_in1 (by decide))).mp hR138
                                    have hR140 := (congrArg (fun qq : Nat → Nat => reg _ _ _ (va_up (qq) 22 (rdN 0 ((rdN 0 (r * r) x3) * b) x3))) (up_in0)).mp hR139
                                    have hR141 := (congrArg (fun qq : Nat → Nat => reg _ _ _ (qq)) (up_in3 (by decide) (by decide) (by decide))).mp hR140
                                    refine J_aload_n 0 d_M_power_263 rfl rfl ?_
                                    refine J_bipush d_M_power_264 (i8_ok (by decide)) ?_
                                    refine J_bipush d_M_power_266 (i8_ok (by decide)) ?_
                                    refine J_callVv cw_M_58 nh_M_copy pn_M_copy rfl rfl (by omega) (by rw [va_up_ne _ _ (by decide), va_up_ne _ _ (by decide), va_up_self]) (As := [.int (iI 22), .int (iI 20)]) (rest := []) rfl (Nat.le_of_ble_eq_true rfl) ⟨by decide, by decide⟩ rfl ⟨by decide, by decide⟩ d_M_power_268 (k_M_copy hfl (a := 22) (b := 20) (hh := bh134) (ll := bl135) (V := va_up (va_up (va_up (va_up (va_up W1 20 (rdN 0 (r * r) x3)) 22 (rdN 0 ((rdN 0 (r * r) x3) * b) x3)) 26 j137) 25 (((rdN 0 (r * r) x3) * b) % x3)) 24 (((rdN 0 (r * r) x3) * b) / x3)) (br := va_up br 22 0) (hN := hN) (hO := (by rw [va_up_ne _ _ (by decide), va_up_ne _ _ (by decide), va_up_self])) (hB := (by rw [va_up_ne _ _ (by decide), va_up_self])) (hL := (by rw [va_up_self])) (hR := hR141) (ha := by omega) (hb := by omega) (hxa := ((va_up_ne _ _ (by decide)).trans ((va_up_ne _ _ (by decide)).trans ((va_up_ne _ _ (by decide)).trans (va_up_self ..))))) (bra := (va_up_self ..))) (fun  F37 hq => ?_)
                                    obtain ⟨bh142, bl143, hR144, eF37⟩ := hq
                                    refine J_eqF (F2 := va_up (va_up (va_up F 98 (oM ad (va_up f 10 0) v)) 99 (.inl (g 0, 858, .inl (aI bh142)))) 100 (.inl (g 0, 33, .inl (aI bl143)))) (eF37.trans (Eq.trans (congrArg (fun q : Nat → va_E => va_up q 100 (.inl (g 0, 33, .inl (aI bl143)))) (up_in1 (by decide))) (up_in0))) ?_
                                    have hR147 := reg_w1 ((hzz_up hzz).1 _) hR144
                                    have hR148 := (congrArg (fun qq : Nat → Nat => reg _ _ _ (qq)) (up_in4 (by decide) (by decide) (by decide) (by decide))).mp hR147
                                    refine J_iinc (j := 6) (b := i - 1) (lv' := [(7, .int (iI (i - 1))), (0, .ref (ad 98)), (1, .int (iI x)), (2, .int (iI y)), (3, .int (iI m)), (4, .int (iI to)), (6, .int (iI (((SM.natAbs : Nat)) : Int)))]) d_M_power_271 rfl (by omega) (by decide) rfl ?_
                                    refine J_goto (tgt := 203) d_M_power_274 (by decide) ?_
                                    refine J_pick (lv' := [(0, .ref (ad 98)), (1, .int (iI x)), (2, .int (iI y)), (3, .int (iI m)), (4, .int (iI to)), (6, .int (iI (((SM.natAbs : Nat)) : Int))), (7, .int (iI (i - 1)))]) [1, 2, 3, 4, 5, 6, 0] rfl ?_
                                    refine ih (i - 1) bh142 bl143 (rdN 0 ((rdN 0 (r * r) x3) * b) x3) j137 (((rdN 0 (r * r) x3) * b) % x3) (((rdN 0 (r * r) x3) * b) / x3) (rdN 0 ((rdN 0 (r * r) x3) * b) x3) (by omega) ?_ (reg_w1 (hzz.1 _) hR148) (by omega)
                                    · rw [show (i - 1 + 1).toNat = i.toNat by omega, rdN_0, rdN_0, pbit1 (show SM.natAbs / 2 ^ i.toNat % 2 = 1 by omega), ← show (i + 1).toNat = i.toNat + 1 by omega, ← hr]
                                  · refine J_goto (tgt := 271) d_M_power_243 (by decide) ?_
                                    refine J_iinc (j := 6) (b := i - 1) (lv' := [(7, .int (iI (i - 1))), (0, .ref (ad 98)), (1, .int (iI x)), (2, .int (iI y)), (3, .int (iI m)), (4, .int (iI to)), (6, .int (iI (((SM.natAbs : Nat)) : Int)))]) d_M_power_271 rfl (by omega) (by decide) rfl ?_
                                    refine J_goto (tgt := 203) d_M_power_274 (by decide) ?_
                                    refine J_pick (lv' := [(0, .ref (ad 98)), (1, .int (iI x)), (2, .int (iI y)), (3, .int (iI m)), (4, .int (iI to)), (6, .int (iI (((SM.natAbs : Nat)) : Int))), (7, .int (iI (i - 1)))]) [1, 2, 3, 4, 5, 6, 0] rfl ?_
                                    refine ih (i - 1) bh120 bl121 (rdN 0 (r * r) x3) j115 ((r * r) % x3) ((r * r) / x3) (rdN 0 (r * r) x3) (by omega) ?_ (reg_w1 (hzz.1 _) hR126) (by omega)
                                    · rw [show (i - 1 + 1).toNat = i.toNat by omega, rdN_0, pbit0 (show SM.natAbs / 2 ^ i.toNat % 2 = 0 by omega), ← show (i + 1).toNat = i.toNat + 1 by omega, ← hr]
                            have hx_ := (congrArg (reg _ _ _) (up_same1 (i := 22) (a := (W1 22)) ((va_up_ne _ _ (by decide)).trans ((va_up_ne _ _ (by decide)).trans ((va_up_ne _ _ (by decide)).trans (va_up_ne _ _ (by decide))))))).mp hR99
                            have hy_22 := hx_
                            exact loop203 ((((9 : Int) + 1).toNat) + 1) (9 : Int) bh95 bl96 (rdN 0 1 x3) j98 (1 % x3) (1 / x3) (W1 22) (by omega) (by rw [rdN_0, show ((9 : Int) + 1).toNat = 10 from rfl, Nat.div_eq_of_lt (by omega), Nat.pow_zero]) ((congrArg (reg _ _ _) (Eq.trans (up_cm (by decide)) (Eq.trans (congrArg (fun qq : Nat → Nat => va_up qq 24 (1 / x3)) (up_cm (by decide))) (congrArg (fun qq : Nat → Nat => va_up (va_up qq 25 (1 % x3)) 24 (1 / x3)) (up_cm (by decide)))))).mp hy_22) (Nat.lt_succ_self _)
                        refine J_iload 0 d_M_power_152 rfl ?_
                        refine J_ifge (tgt := 170) d_M_power_154 (by decide) ⟨by omega, by omega⟩ (fun c154 => ?_) (fun c154 => ?_)
                        · refine J_pick (lv' := [(0, .ref (ad 98)), (1, .int (iI x)), (2, .int (iI y)), (3, .int (iI m)), (4, .int (iI to)), (6, .int (iI SM))]) [2, 3, 4, 5, 6, 0] rfl ?_
                          exact lab170 bh23 bl24 (va_up (va_up (va_up (va_up (va_up V 30 x3) 16 (modB sg1 x1 x3)) 26 j26) 25 (x1 % x3)) 24 (x1 / x3)) (modB sg1 x1 x3) hR28 (fun k hk => (show (va_up (va_up (va_up (va_up (va_up V 30 x3) 16 (modB sg1 x1 x3)) 26 j26) 25 (x1 % x3)) 24 (x1 / x3)) k = V k from by rw [va_up_ne _ _ (by omega), va_up_ne _ _ (by omega), va_up_ne _ _ (by omega), va_up_ne _ _ (by omega), va_up_ne _ _ (by omega)])) ((va_up_ne _ _ (by decide)).trans ((va_up_ne _ _ (by decide)).trans ((va_up_ne _ _ (by decide)).trans (va_up_self ..)))) ((va_up_ne _ _ (by decide)).trans ((va_up_ne _ _ (by decide)).trans ((va_up_ne _ _ (by decide)).trans ((va_up_ne _ _ (by decide)).trans (va_up_self ..))))) ⟨hMB, fun _ => rfl, fun e => absurd e (by omega)⟩
                        · refine J_aload_n 2 d_M_power_157 rfl rfl ?_
                          refine J_callVi cw_M_218 nh_M_inverted pn_M_inverted rfl rfl (by omega) (by rw [va_up_ne _ _ (by decide), va_up_ne _ _ (by decide), va_up_self]) (As := []) (rest := []) rfl (Nat.le_of_ble_eq_true rfl) ⟨by decide, by decide⟩ rfl ⟨by decide, by decide⟩ d_M_power_158 (c_M_inverted hfl (x := modB sg1 x1 x3) (m := x3) (hh := bh23) (ll := bl24) (f := va_up f 10 0) (v := v) (V := va_up (va_up (va_up (va_up (va_up V 30 x3) 16 (modB sg1 x1 x3)) 26 j26) 25 (x1 % x3)) 24 (x1 / x3)) (br := br) hN (by rw [va_up_ne _ _ (by decide), va_up_ne _ _ (by decide), va_up_self]) (by rw [va_up_ne _ _ (by decide), va_up_self]) (by rw [va_up_self]) hR28 hzz (((va_up_ne _ _ (by decide)).trans ((va_up_ne _ _ (by decide)).trans ((va_up_ne _ _ (by decide)).trans (va_up_self ..))))) (((va_up_ne _ _ (by decide)).trans ((va_up_ne _ _ (by decide)).trans ((va_up_ne _ _ (by decide)).trans ((va_up_ne _ _ (by decide)).trans (va_up_self ..)))))) hMB (Nat.lt_trans hmb (by decide))) (fun ziv F38 hq => ?_)
                          obtain ⟨bh149, bl150, W9, hR151, hfW9, hW309, hinv, eF38⟩ := hq
                          refine J_eqF (F2 := va_up (va_up (va_up F 98 (oM ad (va_up f 10 0) v)) 99 (.inl (g 0, 858, .inl (aI bh149)))) 100 (.inl (g 0, 33, .inl (aI bl150)))) (eF38.trans (Eq.trans (congrArg (fun q : Nat → va_E => va_up q 100 (.inl (g 0, 33, .inl (aI bl150)))) (up_in1 (by decide))) (up_in0))) ?_
                          have hiz : ziv = 0 ∨ ziv = 1 := by rcases hinv with w | w; exact Or.inr w.1; exact Or.inl w.1
                          replace hinv : hold _ := hinv
                          refine J_ifne (tgt := 170) d_M_power_161 (by decide) ⟨by omega, by omega⟩ (fun c161 => ?_) (fun c161 => ?_)
                          · refine J_pick (lv' := [(0, .ref (ad 98)), (1, .int (iI x)), (2, .int (iI y)), (3, .int (iI m)), (4, .int (iI to)), (6, .int (iI SM))]) [2, 3, 4, 5, 6, 0] rfl ?_
                            exact lab170 bh149 bl150 W9 (W9 16) hR151 (fun k hk => ((show (W9) k = W9 k from by rfl).trans ((hfW9 k (by omega)).trans (show (va_up (va_up (va_up (va_up (va_up V 30 x3) 16 (modB sg1 x1 x3)) 26 j26) 25 (x1 % x3)) 24 (x1 / x3)) k = V k from by rw [va_up_ne _ _ (by omega), va_up_ne _ _ (by omega), va_up_ne _ _ (by omega), va_up_ne _ _ (by omega), va_up_ne _ _ (by omega)])))) rfl (hW309) (by rcases hinv with w | w; exact ⟨w.2.2.1, fun e => absurd e (by omega), fun _ => ⟨w.2.1, w.2.2.2⟩⟩; exact absurd w.1 (by omega))
                          · refine J_aload_n 2 d_M_power_164 rfl rfl ?_
                            refine J_iconst d_M_power_165 ?_
                            refine J_callVi cw_M_135 nh_M_fail pn_M_fail rfl rfl (by omega) (by rw [va_up_ne _ _ (by decide), va_up_ne _ _ (by decide), va_up_self]) (As := [.int (iI 2)]) (rest := []) rfl (Nat.le_of_ble_eq_true rfl) ⟨by decide, by decide⟩ rfl ⟨by decide, by decide⟩ d_M_power_166 (c_M_fail hfl (code := 2) (f := va_up f 10 0) (v := v) hN (by rw [va_up_ne _ _ (by decide), va_up_ne _ _ (by decide), va_up_self])) (fun z152 F39 hq => ?_)
                            obtain ⟨hz152, eF39⟩ := hq
                            refine J_eqF (F2 := va_up (va_up (va_up F 98 (oM ad (va_up f 10 2) v)) 99 (.inl (g 0, 858, .inl (aI bh149)))) 100 (.inl (g 0, 33, .inl (aI bl150)))) ((eF39.trans (congrArg (fun qq : Nat → Int => va_up (va_up (va_up (va_up F 98 (oM ad (va_up f 10 0) v)) 99 (.inl (g 0, 858, .inl (aI bh149)))) 100 (.inl (g 0, 33, .inl (aI bl150)))) 98 (oM ad qq v)) (up_in0))).trans (up_in2 (by decide) (by decide))) ?_
                            refine J_topi (r := 0) (congrArg iI hz152) ?_
                            refine J_iret rfl rfl d_M_power_169 ⟨by decide, by decide⟩ ?_
                            exact ⟨_, rfl, rfl, rfl, .inl 1, Or.inr (Or.inl ⟨hPC, by rw [hrV2]; show sg2 * (x2 : Int) < 0; omega, by rw [hrV1, hrV3]; rcases hinv with w | w; exact absurd w.1 (by omega); exact w.2, rfl⟩), Or.inl ⟨1, rfl, rfl, mst_3 hD0 hR151 hzz (fun k hk => ((show (W9) k = W9 k from by rfl).trans ((hfW9 k (by omega)).trans (show (va_up (va_up (va_up (va_up (va_up V 30 x3) 16 (modB sg1 x1 x3)) 26 j26) 25 (x1 % x3)) 24 (x1 / x3)) k = V k from by rw [va_up_ne _ _ (by omega), va_up_ne _ _ (by omega), va_up_ne _ _ (by omega), va_up_ne _ _ (by omega), va_up_ne _ _ (by omega)])))) (va_up_ne _ _ (by decide)) (va_up_ne _ _ (by decide)) (va_up_self ..)⟩, offM_3⟩
                      · refine J_aload_n 1 d_M_power_109 rfl rfl ?_
                        refine J_iconst d_M_power_110 ?_
                        refine J_callVi cw_M_135 nh_M_fail pn_M_fail rfl rfl (by omega) (by rw [va_up_self]) (As := [.int (iI 1)]) (rest := []) rfl (Nat.le_of_ble_eq_true rfl) ⟨by decide, by decide⟩ rfl ⟨by decide, by decide⟩ d_M_power_111 (c_M_fail hfl (code := 1) (f := va_up f 10 0) (v := v) hN (by rw [va_up_self])) (fun z153 F40 hq => ?_)
                        obtain ⟨hz153, eF40⟩ := hq
                        refine J_eqF (F2 := va_up F 98 (oM ad (va_up f 10 1) v)) ((eF40.trans (congrArg (fun qq : Nat → Int => va_up (va_up F 98 (oM ad (va_up f 10 0) v)) 98 (oM ad qq v)) (up_in0))).trans (up_in0)) ?_
                        refine J_topi (r := 0) (congrArg iI hz153) ?_
                        refine J_eqF (F2 := va_up (va_up F 98 (oM ad (va_up f 10 1) v)) 99 (.inl (g 0, 858, .inl (aI hh)))) (up_same1 (by rw [va_up_ne _ _ (by decide)]; exact hB)) ?_
                        refine J_eqF (F2 := va_up (va_up (va_up F 98 (oM ad (va_up f 10 1) v)) 99 (.inl (g 0, 858, .inl (aI hh)))) 100 (.inl (g 0, 33, .inl (aI ll)))) (up_same1 (by rw [va_up_ne _ _ (by decide), va_up_ne _ _ (by decide)]; exact hL)) ?_
                        refine J_iret rfl rfl d_M_power_114 ⟨by decide, by decide⟩ ?_
                        exact ⟨_, rfl, rfl, rfl, .inl 0, Or.inl ⟨(fun h : powC _ _ _ _ => by have h1 := h.2.2.2.2.2; rw [hrV2] at h1; have h2 : -999 ≤ sg2 * (x2 : Int) ∧ sg2 * (x2 : Int) ≤ 999 := h1; rcases hsm with w | w; omega; omega), rfl⟩, Or.inl ⟨0, rfl, rfl, mst_3 hD0 hR hzz (fun k hk => (show (V) k = V k from by rfl)) (va_up_ne _ _ (by decide)) (va_up_ne _ _ (by decide)) (va_up_self ..)⟩, offM_3⟩
