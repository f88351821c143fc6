/-! the class's desk: settle, sums, floors -/
def addM (sl rs : Int) (A B : Nat) : Nat := if 0 ≤ sl * rs then A + B else if B ≤ A then A - B else B - A
def addS (sl rs : Int) (A B : Nat) : Int := if 0 ≤ sl * rs then (if sl = 0 then rs else sl) else if B ≤ A then sl else -sl
def flq (s : Int) (A B : Nat) : Nat := if s < 0 ∧ A % B ≠ 0 then A / B + 1 else A / B
def flr (s : Int) (A B : Nat) : Nat := if s < 0 ∧ A % B ≠ 0 then B - A % B else A % B
theorem near_sg {s : Int} {X Y : Nat} : near (if X = 0 then 0 else s) X Y = near s X Y := by
  unfold near
  by_cases h : X = 0
  · rw [if_pos h, if_pos h]
  · simp only [if_neg h]
theorem near_0 {s : Int} {X Y : Nat} {r : Int × Int × Nat × Nat} (h : near s X Y = some r) : r.1 = 2 := by
  unfold near at h
  split at h
  · injection h with h; rw [← h]
  · split at h
    · injection h with h; rw [← h]
    · exact absurd h (by simp)
set_option maxRecDepth 100000 in
set_option maxHeartbeats 4000000 in
theorem c_D_settle {l : Launch} (hfl : l.flags = flags0) {D : va_G} {g : Nat → ClassId} {ad : Nat → Nat} {N : Nat} {F0 : Nat → va_E} {W : Nat → Nat} {K S : Nat → Int} {X Y : Nat} {kd : Int}
    (hN : 109 ≤ N) (hW : bW W) (hDk : F0 9 = oD ad) (hX : W 11 = X) (hY : W 13 = Y) (hY0 : 0 < Y) (hXb : X < 2 ^ 310) (hYb : Y < 2 ^ 310) (hs : -1 ≤ S 10 ∧ S 10 ≤ 1) (hkd : 0 ≤ kd ∧ kd ≤ 2) (hk0 : kd = 0 → Y = 1) :
    JC l y_D_settle b_D_settle 2 (Option.none : Option Jvm.ClassFile.FieldType) rm_D_settle (0, 0) D jCl (jTys g) ad N (cF ad g F0 W K S) [.ref (ad 9), .int (iI kd)] (jvx ad N (fun F' => ∃ (W' : Nat → Nat) (kd' s' : Int) (u d : Nat), fin kd (S 10) X Y = some (kd', s', u, d) ∧ bW W' ∧ (∀ j, j ≠ 11 → j ≠ 13 → j ≠ 25 → j ≠ 27 → j ≠ 29 → W' j = W j) ∧ W' 11 = u ∧ W' 13 = d ∧ F' = cF ad g F0 W' (va_up K 10 kd') (va_up S 10 s')) (fun k F' => k = 2 ∧ fin kd (S 10) X Y = none ∧ scr ad g F0 W K S F')) := by
  obtain ⟨sg0, hsg⟩ : ∃ s : Int, s = if X = 0 then 0 else S 10 := ⟨_, rfl⟩
  have hsr : -1 ≤ sg0 ∧ sg0 ≤ 1 := by rw [hsg]; split <;> omega
  refine JC.go hfl (own := "NumberTower$Desk") (lv := [(0, .ref (ad 9)), (1, .int (iI kd))]) rfl (by decide +kernel) (Nat.le_of_ble_eq_true rfl) rfl (fun A => ?_)
  refine J_aload_n 0 d_D_settle_0 rfl rfl ?_
  refine gf_D_12 (by omega) ((cF_0 (by decide)).trans hDk) rfl d_D_settle_1 ?_
  refine gf_D_76 (by omega) (cF_U (by decide) rfl rfl) rfl d_D_settle_4 ?_
  refine J_callVi cw_D_120 nh_N_isZero pn_N_isZero rfl rfl (by omega) (cF_N (by decide) hX) (As := []) (rest := []) rfl (Nat.le_of_ble_eq_true rfl) ⟨by decide, by decide⟩ rfl ⟨by decide, by decide⟩ d_D_settle_7 (n_isZero hfl (F0 := F0) (W := W) (K := K) (S := S) (k := 11) (hN := by omega) (hW := hW) (hk := (by decide)) (x := X) (hx := hX)) (fun z1 F1 hq => ?_)
  obtain ⟨hz1, eF1⟩ := hq
  refine J_eqF eF1 ?_
  refine J_ifeq (tgt := 21) d_D_settle_10 (by decide) ⟨by omega, by omega⟩ (fun c10 => ?_) (fun c10 => ?_)
  · refine J_eqF (F2 := cF ad g F0 W K (va_up S 10 sg0)) (congrArg (fun qq : Nat → Int => cF ad g F0 W K qq) (up_same1 (show (S) 10 = sg0 from (Eq.refl _).trans (by rw [hsg, if_neg (by omega)])))) ?_
    have lab21 : J l rm_D_settle (0, 0) "NumberTower$Desk" b_D_settle 2 (Option.none : Option Jvm.ClassFile.FieldType) D jCl (jTys g) A (fun _ me => me.name = y_D_settle.name) (jvx ad N (fun F' => ∃ (W' : Nat → Nat) (kd' s' : Int) (u d : Nat), fin kd (S 10) X Y = some (kd', s', u, d) ∧ bW W' ∧ (∀ j, j ≠ 11 → j ≠ 13 → j ≠ 25 → j ≠ 27 → j ≠ 29 → W' j = W j) ∧ W' 11 = u ∧ W' 13 = d ∧ F' = cF ad g F0 W' (va_up K 10 kd') (va_up S 10 s')) (fun k F' => k = 2 ∧ fin kd (S 10) X Y = none ∧ scr ad g F0 W K S F')) ad N 0 0 21 [(0, .ref (ad 9)), (1, .int (iI kd))] [] (cF ad g F0 W K (va_up S 10 sg0)) := by
      refine J_iload_n 1 d_D_settle_21 rfl rfl ?_
      refine J_iconst d_D_settle_22 ?_
      refine J_if_icmpne (tgt := 35) d_D_settle_23 (by decide) ⟨by omega, by omega⟩ ⟨by omega, by omega⟩ (fun c23 => ?_) (fun c23 => ?_)
      · refine J_aload_n 0 d_D_settle_35 rfl rfl ?_
        refine gf_D_12 (by omega) ((cF_0 (by decide)).trans hDk) rfl d_D_settle_36 ?_
        refine J_iload_n 1 d_D_settle_39 rfl rfl ?_
        refine pf_D_52 (by omega) (cF_U (by decide) rfl (va_up_self ..)) (Nat.le_of_ble_eq_true rfl) d_D_settle_40 ?_
        refine J_eqF (F2 := cF ad g F0 W (va_up K 10 kd) (va_up S 10 sg0)) ((cF_upU (by decide)).trans (congrArg (fun qq => cF ad g F0 W (va_up K 10 kd) qq) (up_same1 (va_up_self ..)).symm)) ?_
        refine J_iload_n 1 d_D_settle_43 rfl rfl ?_
        have lab52 : ∀ (W1 : Nat → Nat) (hW1 : bW W1) (hfr : ∀ j, j ≠ 11 → j ≠ 13 → j ≠ 25 → j ≠ 27 → j ≠ 29 → W1 j = W j) (h11 : W1 11 = lowu X Y) (h13 : W1 13 = lowd X Y) , J l rm_D_settle (0, 0) "NumberTower$Desk" b_D_settle 2 (Option.none : Option Jvm.ClassFile.FieldType) D jCl (jTys g) A (fun _ me => me.name = y_D_settle.name) (jvx ad N (fun F' => ∃ (W' : Nat → Nat) (kd' s' : Int) (u d : Nat), fin kd (S 10) X Y = some (kd', s', u, d) ∧ bW W' ∧ (∀ j, j ≠ 11 → j ≠ 13 → j ≠ 25 → j ≠ 27 → j ≠ 29 → W' j = W j) ∧ W' 11 = u ∧ W' 13 = d ∧ F' = cF ad g F0 W' (va_up K 10 kd') (va_up S 10 s')) (fun k F' => k = 2 ∧ fin kd (S 10) X Y = none ∧ scr ad g F0 W K S F')) ad N 0 0 52 [(0, .ref (ad 9)), (1, .int (iI kd))] [] (cF ad g F0 W1 (va_up K 10 kd) (va_up S 10 sg0)) := by
          intro W1 hW1 hfr h11 h13
          refine J_aload_n 0 d_D_settle_52 rfl rfl ?_
          refine gf_D_12 (by omega) ((cF_0 (by decide)).trans hDk) rfl d_D_settle_53 ?_
          refine J_callSvx cw_D_130 nh_D_refuseBeyond pn_D_refuseBeyond rfl (As := [.ref (ad 10)]) (rest := []) rfl (Nat.le_of_ble_eq_true rfl) ⟨by decide, by decide⟩ rfl ⟨by decide, by decide⟩ d_D_settle_56 (c_D_refuseBeyond hfl (F0 := F0) (W := W1) (K := va_up K 10 kd) (S := va_up S 10 sg0) (p := 10) hN hW1 (by decide)) (fun  F2 hq => ?_) (fun k9 F9 hq => by (obtain ⟨q1, q2, q3⟩ := hq; rw [show W1 11 = lowu X Y from h11, show W1 13 = lowd X Y from h13] at q2; refine Or.inr ⟨_, rfl, rfl, rfl, q1, by unfold fin; rw [if_neg (by omega), if_neg q2], ?_⟩; rw [q3]; exact scr_0 hW1 (fun j hj => ⟨hfr j (by omega) (by omega) (by omega) (by omega) (by omega), by rw [va_up_ne _ _ (by omega)], by rw [va_up_ne _ _ (by omega)]⟩)))
          obtain ⟨hrb, eFr⟩ := hq
          refine J_eqF eFr ?_
          rw [show (W1) 11 = lowu X Y from h11, show (W1) 13 = lowd X Y from h13] at hrb
          refine J_vret rfl d_D_settle_59 ⟨by decide, by decide⟩ ?_
          exact Or.inl ⟨rfl, rfl, rfl, W1, kd, sg0, _, _, by unfold fin; rw [if_neg (by omega), if_pos hrb, ← hsg], hW1, hfr, h11, h13, rfl⟩
        refine J_iconst d_D_settle_44 ?_
        refine J_if_icmpne (tgt := 52) d_D_settle_45 (by decide) ⟨by omega, by omega⟩ ⟨by omega, by omega⟩ (fun c45 => ?_) (fun c45 => ?_)
        · exact lab52 W hW (fun _ _ _ _ _ _ => rfl) (by rw [hk0 (by omega), low_one.1]; exact hX) (by rw [hk0 (by omega), low_one.2, hY]; exact hk0 (by omega))
        · refine J_aload_n 0 d_D_settle_48 rfl rfl ?_
          refine J_callVv cw_D_212 nh_D_reduceOut pn_D_reduceOut rfl rfl (by omega) ((cF_0 (by decide)).trans hDk) (As := []) (rest := []) rfl (Nat.le_of_ble_eq_true rfl) ⟨by decide, by decide⟩ rfl ⟨by decide, by decide⟩ d_D_settle_49 (c_D_reduceOut hfl (F0 := F0) (W := W) (K := va_up K 10 kd) (S := va_up S 10 sg0) (X := X) (Y := Y) hN hW hDk hX hY hY0 (Nat.lt_trans hXb (by decide)) (Nat.lt_trans hYb (by decide))) (fun  F3 hq => ?_)
          obtain ⟨W3, q1, q2, q3, q4, eFr⟩ := hq
          refine J_eqF eFr ?_
          exact lab52 W3 q1 (fun j a b c d e => q2 j a b c d e) q3 q4
      · refine J_aload_n 0 d_D_settle_26 rfl rfl ?_
        refine J_aload_n 0 d_D_settle_27 rfl rfl ?_
        refine gf_D_12 (by omega) ((cF_0 (by decide)).trans hDk) rfl d_D_settle_28 ?_
        refine J_callVvx cw_D_177 nh_D_makeNearest pn_D_makeNearest rfl rfl (by omega) ((cF_0 (by decide)).trans hDk) (As := [.ref (ad 10)]) (rest := []) rfl (Nat.le_of_ble_eq_true rfl) ⟨by decide, by decide⟩ rfl ⟨by decide, by decide⟩ d_D_settle_31 (c_D_makeNearest hfl (F0 := F0) (W := W) (K := K) (S := va_up S 10 sg0) (p := 10) (U := X) (Y := Y) hN hW ((hDk)) (by decide) (by decide) hX hY (by omega) hXb hYb (by rw [show (va_up S 10 sg0) 10 = sg0 from (va_up_self ..)]; exact hsr)) (fun  F15 hq => ?_) (fun k9 F9 hq => by (obtain ⟨q1, q2, q3⟩ := hq; rw [show (va_up S 10 sg0) 10 = sg0 from va_up_self .., hsg, near_sg] at q2; exact Or.inr ⟨_, rfl, rfl, rfl, q1, by unfold fin; rw [if_pos (by omega)]; exact q2, scr_t q3 (fun j hj => ⟨(show (W) j = W j from by rfl), (show (K) j = K j from by rfl), (show (va_up S 10 sg0) j = S j from by rw [va_up_ne _ _ (by omega)])⟩)⟩))
        obtain ⟨W4, s12, u13, d14, q5, q6, q7, q8, q9, eFn⟩ := hq
        rw [show (va_up S 10 sg0) 10 = sg0 from (va_up_self ..)] at q5
        refine J_eqF (F2 := cF ad g F0 W4 (va_up K 10 2) (va_up S 10 s12)) (eFn.trans (congrArg (fun qq => cF ad g F0 W4 (va_up K 10 2) qq) (up_in0))) ?_
        refine J_vret rfl d_D_settle_34 ⟨by decide, by decide⟩ ?_
        rw [hsg, near_sg] at q5
        exact Or.inl ⟨rfl, rfl, rfl, _, 2, _, _, _, by unfold fin; rw [if_pos (by omega)]; exact q5, q6, fun j j1 j2 j3 j4 j5 => q7 j j1 j2 j3, q8, q9, rfl⟩
    exact lab21  
  · refine J_aload_n 0 d_D_settle_13 rfl rfl ?_
    refine gf_D_12 (by omega) ((cF_0 (by decide)).trans hDk) rfl d_D_settle_14 ?_
    refine J_iconst d_D_settle_17 ?_
    refine pf_D_69 (by omega) (cF_U (by decide) rfl rfl) (Nat.le_of_ble_eq_true rfl) d_D_settle_18 ?_
    refine J_eqF (F2 := cF ad g F0 W K (va_up S 10 0)) ((cF_upU (by decide)).trans (congrArg (fun qq => cF ad g F0 W qq (va_up S 10 0)) (up_same1 rfl).symm)) ?_
    refine J_eqF (F2 := cF ad g F0 W K (va_up S 10 sg0)) (congrArg (fun qq : Int => cF ad g F0 W K (va_up S 10 qq)) (show 0 = sg0 from (by rw [hsg, if_pos (by omega)]))) ?_
    have lab21 : J l rm_D_settle (0, 0) "NumberTower$Desk" b_D_settle 2 (Option.none : Option Jvm.ClassFile.FieldType) D jCl (jTys g) A (fun _ me => me.name = y_D_settle.name) (jvx ad N (fun F' => ∃ (W' : Nat → Nat) (kd' s' : Int) (u d : Nat), fin kd (S 10) X Y = some (kd', s', u, d) ∧ bW W' ∧ (∀ j, j ≠ 11 → j ≠ 13 → j ≠ 25 → j ≠ 27 → j ≠ 29 → W' j = W j) ∧ W' 11 = u ∧ W' 13 = d ∧ F' = cF ad g F0 W' (va_up K 10 kd') (va_up S 10 s')) (fun k F' => k = 2 ∧ fin kd (S 10) X Y = none ∧ scr ad g F0 W K S F')) ad N 0 0 21 [(0, .ref (ad 9)), (1, .int (iI kd))] [] (cF ad g F0 W K (va_up S 10 sg0)) := by
      refine J_iload_n 1 d_D_settle_21 rfl rfl ?_
      refine J_iconst d_D_settle_22 ?_
      refine J_if_icmpne (tgt := 35) d_D_settle_23 (by decide) ⟨by omega, by omega⟩ ⟨by omega, by omega⟩ (fun c23 => ?_) (fun c23 => ?_)
      · refine J_aload_n 0 d_D_settle_35 rfl rfl ?_
        refine gf_D_12 (by omega) ((cF_0 (by decide)).trans hDk) rfl d_D_settle_36 ?_
        refine J_iload_n 1 d_D_settle_39 rfl rfl ?_
        refine pf_D_52 (by omega) (cF_U (by decide) rfl (va_up_self ..)) (Nat.le_of_ble_eq_true rfl) d_D_settle_40 ?_
        refine J_eqF (F2 := cF ad g F0 W (va_up K 10 kd) (va_up S 10 sg0)) ((cF_upU (by decide)).trans (congrArg (fun qq => cF ad g F0 W (va_up K 10 kd) qq) (up_same1 (va_up_self ..)).symm)) ?_
        refine J_iload_n 1 d_D_settle_43 rfl rfl ?_
        have lab52 : ∀ (W1 : Nat → Nat) (hW1 : bW W1) (hfr : ∀ j, j ≠ 11 → j ≠ 13 → j ≠ 25 → j ≠ 27 → j ≠ 29 → W1 j = W j) (h11 : W1 11 = lowu X Y) (h13 : W1 13 = lowd X Y) , J l rm_D_settle (0, 0) "NumberTower$Desk" b_D_settle 2 (Option.none : Option Jvm.ClassFile.FieldType) D jCl (jTys g) A (fun _ me => me.name = y_D_settle.name) (jvx ad N (fun F' => ∃ (W' : Nat → Nat) (kd' s' : Int) (u d : Nat), fin kd (S 10) X Y = some (kd', s', u, d) ∧ bW W' ∧ (∀ j, j ≠ 11 → j ≠ 13 → j ≠ 25 → j ≠ 27 → j ≠ 29 → W' j = W j) ∧ W' 11 = u ∧ W' 13 = d ∧ F' = cF ad g F0 W' (va_up K 10 kd') (va_up S 10 s')) (fun k F' => k = 2 ∧ fin kd (S 10) X Y = none ∧ scr ad g F0 W K S F')) ad N 0 0 52 [(0, .ref (ad 9)), (1, .int (iI kd))] [] (cF ad g F0 W1 (va_up K 10 kd) (va_up S 10 sg0)) := by
          intro W1 hW1 hfr h11 h13
          refine J_aload_n 0 d_D_settle_52 rfl rfl ?_
          refine gf_D_12 (by omega) ((cF_0 (by decide)).trans hDk) rfl d_D_settle_53 ?_
          refine J_callSvx cw_D_130 nh_D_refuseBeyond pn_D_refuseBeyond rfl (As := [.ref (ad 10)]) (rest := []) rfl (Nat.le_of_ble_eq_true rfl) ⟨by decide, by decide⟩ rfl ⟨by decide, by decide⟩ d_D_settle_56 (c_D_refuseBeyond hfl (F0 := F0) (W := W1) (K := va_up K 10 kd) (S := va_up S 10 sg0) (p := 10) hN hW1 (by decide)) (fun  F16 hq => ?_) (fun k9 F9 hq => by (obtain ⟨q1, q2, q3⟩ := hq; rw [show W1 11 = lowu X Y from h11, show W1 13 = lowd X Y from h13] at q2; refine Or.inr ⟨_, rfl, rfl, rfl, q1, by unfold fin; rw [if_neg (by omega), if_neg q2], ?_⟩; rw [q3]; exact scr_0 hW1 (fun j hj => ⟨hfr j (by omega) (by omega) (by omega) (by omega) (by omega), by rw [va_up_ne _ _ (by omega)], by rw [va_up_ne _ _ (by omega)]⟩)))
          obtain ⟨hrb, eFr⟩ := hq
          refine J_eqF eFr ?_
          rw [show (W1) 11 = lowu X Y from h11, show (W1) 13 = lowd X Y from h13] at hrb
          refine J_vret rfl d_D_settle_59 ⟨by decide, by decide⟩ ?_
          exact Or.inl ⟨rfl, rfl, rfl, W1, kd, sg0, _, _, by unfold fin; rw [if_neg (by omega), if_pos hrb, ← hsg], hW1, hfr, h11, h13, rfl⟩
        refine J_iconst d_D_settle_44 ?_
        refine J_if_icmpne (tgt := 52) d_D_settle_45 (by decide) ⟨by omega, by omega⟩ ⟨by omega, by omega⟩ (fun c45 => ?_) (fun c45 => ?_)
        · exact lab52 W hW (fun _ _ _ _ _ _ => rfl) (by rw [hk0 (by omega), low_one.1]; exact hX) (by rw [hk0 (by omega), low_one.2, hY]; exact hk0 (by omega))
        · refine J_aload_n 0 d_D_settle_48 rfl rfl ?_
          refine J_callVv cw_D_212 nh_D_reduceOut pn_D_reduceOut rfl rfl (by omega) ((cF_0 (by decide)).trans hDk) (As := []) (rest := []) rfl (Nat.le_of_ble_eq_true rfl) ⟨by decide, by decide⟩ rfl ⟨by decide, by decide⟩ d_D_settle_49 (c_D_reduceOut hfl (F0 := F0) (W := W) (K := va_up K 10 kd) (S := va_up S 10 sg0) (X := X) (Y := Y) hN hW hDk hX hY hY0 (Nat.lt_trans hXb (by decide)) (Nat.lt_trans hYb (by decide))) (fun  F17 hq => ?_)
          obtain ⟨W3, q1, q2, q3, q4, eFr⟩ := hq
          refine J_eqF eFr ?_
          exact lab52 W3 q1 (fun j a b c d e => q2 j a b c d e) q3 q4
      · refine J_aload_n 0 d_D_settle_26 rfl rfl ?_
        refine J_aload_n 0 d_D_settle_27 rfl rfl ?_
        refine gf_D_12 (by omega) ((cF_0 (by decide)).trans hDk) rfl d_D_settle_28 ?_
        refine J_callVvx cw_D_177 nh_D_makeNearest pn_D_makeNearest rfl rfl (by omega) ((cF_0 (by decide)).trans hDk) (As := [.ref (ad 10)]) (rest := []) rfl (Nat.le_of_ble_eq_true rfl) ⟨by decide, by decide⟩ rfl ⟨by decide, by decide⟩ d_D_settle_31 (c_D_makeNearest hfl (F0 := F0) (W := W) (K := K) (S := va_up S 10 sg0) (p := 10) (U := X) (Y := Y) hN hW ((hDk)) (by decide) (by decide) hX hY (by omega) hXb hYb (by rw [show (va_up S 10 sg0) 10 = sg0 from (va_up_self ..)]; exact hsr)) (fun  F29 hq => ?_) (fun k9 F9 hq => by (obtain ⟨q1, q2, q3⟩ := hq; rw [show (va_up S 10 sg0) 10 = sg0 from va_up_self .., hsg, near_sg] at q2; exact Or.inr ⟨_, rfl, rfl, rfl, q1, by unfold fin; rw [if_pos (by omega)]; exact q2, scr_t q3 (fun j hj => ⟨(show (W) j = W j from by rfl), (show (K) j = K j from by rfl), (show (va_up S 10 sg0) j = S j from by rw [va_up_ne _ _ (by omega)])⟩)⟩))
        obtain ⟨W18, s26, u27, d28, q19, q20, q21, q22, q23, eFn⟩ := hq
        rw [show (va_up S 10 sg0) 10 = sg0 from (va_up_self ..)] at q19
        refine J_eqF (F2 := cF ad g F0 W18 (va_up K 10 2) (va_up S 10 s26)) (eFn.trans (congrArg (fun qq => cF ad g F0 W18 (va_up K 10 2) qq) (up_in0))) ?_
        refine J_vret rfl d_D_settle_34 ⟨by decide, by decide⟩ ?_
        rw [hsg, near_sg] at q19
        exact Or.inl ⟨rfl, rfl, rfl, _, 2, _, _, _, by unfold fin; rw [if_pos (by omega)]; exact q19, q20, fun j j1 j2 j3 j4 j5 => q21 j j1 j2 j3, q22, q23, rfl⟩
    exact lab21  
set_option maxRecDepth 100000 in
set_option maxHeartbeats 4000000 in
theorem c_D_addParts {l : Launch} (hfl : l.flags = flags0) {D : va_G} {g : Nat → ClassId} {ad : Nat → Nat} {N : Nat} {F0 : Nat → va_E} {W : Nat → Nat} {K S : Nat → Int} {xl yl xr yr : Nat} {rs : Int}
    (hN : 109 ≤ N) (hW : bW W) (hDk : F0 9 = oD ad) (h16 : W 16 = xl) (h18 : W 18 = yl) (h21 : W 21 = xr) (h23 : W 23 = yr) (hs : -1 ≤ S 15 ∧ S 15 ≤ 1) (hrs : -1 ≤ rs ∧ rs ≤ 1) (ha : xl * yr < 2 ^ 479) (hb : xr * yl < 2 ^ 479) (hc : yl * yr < 2 ^ 480) :
    JC l y_D_addParts b_D_addParts 2 (Option.none : Option Jvm.ClassFile.FieldType) rm_D_addParts (0, 0) D jCl (jTys g) ad N (cF ad g F0 W K S) [.ref (ad 9), .int (iI rs)] (jv ad N (fun F' => ∃ W' : Nat → Nat, bW W' ∧ (∀ j, j ≠ 11 → j ≠ 13 → j ≠ 27 → j ≠ 29 → W' j = W j) ∧ W' 11 = addM (S 15) rs (xl * yr) (xr * yl) ∧ W' 13 = yl * yr ∧ F' = cF ad g F0 W' K (va_up S 10 (addS (S 15) rs (xl * yr) (xr * yl))))) := by
  have hsr : -1 ≤ S 15 * rs ∧ S 15 * rs ≤ 1 := by
    obtain e | e | e : S 15 = -1 ∨ S 15 = 0 ∨ S 15 = 1 := by omega
    all_goals rw [e]; omega
  obtain ⟨sg1, hsg1⟩ : ∃ s : Int, s = if S 15 = 0 then rs else S 15 := ⟨_, rfl⟩
  refine JC.go hfl (own := "NumberTower$Desk") (lv := [(0, .ref (ad 9)), (1, .int (iI rs))]) rfl (by decide +kernel) (Nat.le_of_ble_eq_true rfl) rfl (fun A => ?_)
  refine J_aload_n 0 d_D_addParts_0 rfl rfl ?_
  refine gf_D_31 (by omega) ((cF_0 (by decide)).trans hDk) rfl d_D_addParts_1 ?_
  refine J_aload_n 0 d_D_addParts_4 rfl rfl ?_
  refine gf_D_18 (by omega) ((cF_0 (by decide)).trans hDk) rfl d_D_addParts_5 ?_
  refine gf_D_76 (by omega) (cF_U (by decide) rfl rfl) rfl d_D_addParts_8 ?_
  refine J_aload_n 0 d_D_addParts_11 rfl rfl ?_
  refine gf_D_21 (by omega) ((cF_0 (by decide)).trans hDk) rfl d_D_addParts_12 ?_
  refine gf_D_79 (by omega) (cF_U (by decide) rfl rfl) rfl d_D_addParts_15 ?_
  refine J_callVv cw_D_97 nh_N_setProduct pn_N_setProduct rfl rfl (by omega) (cF_N (by decide) rfl) (As := [.ref (ad 16), .ref (ad 23)]) (rest := []) rfl (Nat.le_of_ble_eq_true rfl) ⟨by decide, by decide⟩ rfl ⟨by decide, by decide⟩ d_D_addParts_18 (n_setProduct hfl (F0 := F0) (W := W) (K := K) (S := S) (k := 27) (m := 16) (p := 23) (hN := by omega) (hW := hW) (hk := (by decide)) (hm := (by decide)) (hp := (by decide)) (x := xl) (hx := h16) (y := yr) (hy := h23) (hd := (by decide)) (hd2 := (by decide)) (ht := by omega)) (fun  F33 hq => ?_)
  obtain ⟨hW31, eF32⟩ := hq
  refine J_eqF (F2 := cF ad g F0 (va_up W 27 (xl * yr)) K S) eF32 ?_
  refine J_aload_n 0 d_D_addParts_21 rfl rfl ?_
  refine gf_D_34 (by omega) ((cF_0 (by decide)).trans hDk) rfl d_D_addParts_22 ?_
  refine J_aload_n 0 d_D_addParts_25 rfl rfl ?_
  refine gf_D_21 (by omega) ((cF_0 (by decide)).trans hDk) rfl d_D_addParts_26 ?_
  refine gf_D_76 (by omega) (cF_U (by decide) rfl rfl) rfl d_D_addParts_29 ?_
  refine J_aload_n 0 d_D_addParts_32 rfl rfl ?_
  refine gf_D_18 (by omega) ((cF_0 (by decide)).trans hDk) rfl d_D_addParts_33 ?_
  refine gf_D_79 (by omega) (cF_U (by decide) rfl rfl) rfl d_D_addParts_36 ?_
  refine J_callVv cw_D_97 nh_N_setProduct pn_N_setProduct rfl rfl (by omega) (cF_N (by decide) (va_up_ne _ _ (by decide))) (As := [.ref (ad 21), .ref (ad 18)]) (rest := []) rfl (Nat.le_of_ble_eq_true rfl) ⟨by decide, by decide⟩ rfl ⟨by decide, by decide⟩ d_D_addParts_39 (n_setProduct hfl (F0 := F0) (W := va_up W 27 (xl * yr)) (K := K) (S := S) (k := 29) (m := 21) (p := 18) (hN := by omega) (hW := hW31) (hk := (by decide)) (hm := (by decide)) (hp := (by decide)) (x := xr) (hx := ((va_up_ne _ _ (by decide)).trans h21)) (y := yl) (hy := ((va_up_ne _ _ (by decide)).trans h18)) (hd := (by decide)) (hd2 := (by decide)) (ht := by omega)) (fun  F37 hq => ?_)
  obtain ⟨hW35, eF36⟩ := hq
  refine J_eqF (F2 := cF ad g F0 (va_up (va_up W 27 (xl * yr)) 29 (xr * yl)) K S) eF36 ?_
  refine J_aload_n 0 d_D_addParts_42 rfl rfl ?_
  refine gf_D_12 (by omega) ((cF_0 (by decide)).trans hDk) rfl d_D_addParts_43 ?_
  refine gf_D_79 (by omega) (cF_U (by decide) rfl rfl) rfl d_D_addParts_46 ?_
  refine J_aload_n 0 d_D_addParts_49 rfl rfl ?_
  refine gf_D_18 (by omega) ((cF_0 (by decide)).trans hDk) rfl d_D_addParts_50 ?_
  refine gf_D_79 (by omega) (cF_U (by decide) rfl rfl) rfl d_D_addParts_53 ?_
  refine J_aload_n 0 d_D_addParts_56 rfl rfl ?_
  refine gf_D_21 (by omega) ((cF_0 (by decide)).trans hDk) rfl d_D_addParts_57 ?_
  refine gf_D_79 (by omega) (cF_U (by decide) rfl rfl) rfl d_D_addParts_60 ?_
  refine J_callVv cw_D_97 nh_N_setProduct pn_N_setProduct rfl rfl (by omega) (cF_N (by decide) ((va_up_ne _ _ (by decide)).trans (va_up_ne _ _ (by decide)))) (As := [.ref (ad 18), .ref (ad 23)]) (rest := []) rfl (Nat.le_of_ble_eq_true rfl) ⟨by decide, by decide⟩ rfl ⟨by decide, by decide⟩ d_D_addParts_63 (n_setProduct hfl (F0 := F0) (W := va_up (va_up W 27 (xl * yr)) 29 (xr * yl)) (K := K) (S := S) (k := 13) (m := 18) (p := 23) (hN := by omega) (hW := hW35) (hk := (by decide)) (hm := (by decide)) (hp := (by decide)) (x := yl) (hx := ((va_up_ne _ _ (by decide)).trans ((va_up_ne _ _ (by decide)).trans h18))) (y := yr) (hy := ((va_up_ne _ _ (by decide)).trans ((va_up_ne _ _ (by decide)).trans h23))) (hd := (by decide)) (hd2 := (by decide)) (ht := hc)) (fun  F41 hq => ?_)
  obtain ⟨hW39, eF40⟩ := hq
  refine J_eqF (F2 := cF ad g F0 (va_up (va_up (va_up W 27 (xl * yr)) 29 (xr * yl)) 13 (yl * yr)) K S) eF40 ?_
  refine J_aload_n 0 d_D_addParts_66 rfl rfl ?_
  refine gf_D_18 (by omega) ((cF_0 (by decide)).trans hDk) rfl d_D_addParts_67 ?_
  refine gf_D_69 (by omega) (cF_U (by decide) rfl rfl) rfl d_D_addParts_70 ?_
  refine J_iload_n 1 d_D_addParts_73 rfl rfl ?_
  refine J_imul d_D_addParts_74 ?_
  refine J_iflt (tgt := 134) d_D_addParts_75 (by decide) ⟨by omega, by omega⟩ (fun c75 => ?_) (fun c75 => ?_)
  · refine J_aload_n 0 d_D_addParts_134 rfl rfl ?_
    refine J_aload_n 0 d_D_addParts_135 rfl rfl ?_
    refine gf_D_18 (by omega) ((cF_0 (by decide)).trans hDk) rfl d_D_addParts_136 ?_
    refine gf_D_69 (by omega) (cF_U (by decide) rfl rfl) rfl d_D_addParts_139 ?_
    refine J_callVv cw_D_107 nh_D_subtractAmounts pn_D_subtractAmounts rfl rfl (by omega) ((cF_0 (by decide)).trans hDk) (As := [.int (iI (S 15))]) (rest := []) rfl (Nat.le_of_ble_eq_true rfl) ⟨by decide, by decide⟩ rfl ⟨by decide, by decide⟩ d_D_addParts_142 (c_D_subtractAmounts hfl (F0 := F0) (W := va_up (va_up (va_up W 27 (xl * yr)) 29 (xr * yl)) 13 (yl * yr)) (K := K) (S := S) (x := xl * yr) (y := xr * yl) (s := S 15) hN hW39 hDk ((va_up_ne _ _ (by decide)).trans ((va_up_ne _ _ (by decide)).trans (va_up_self ..))) ((va_up_ne _ _ (by decide)).trans (va_up_self ..))) (fun  F42 hq => ?_)
    obtain ⟨W3, q1, q2, q3, eFs⟩ := hq
    refine J_eqF (F2 := cF ad g F0 W3 K (va_up S 10 (if xr * yl ≤ xl * yr then S 15 else -S 15))) eFs ?_
    refine J_vret rfl d_D_addParts_145 ⟨by decide, by decide⟩ ?_
    exact ⟨rfl, rfl, rfl, W3, q1, fun j j1 j2 j3 j4 => (q2 j j1 j3 j4).trans (show (va_up (va_up (va_up W 27 (xl * yr)) 29 (xr * yl)) 13 (yl * yr)) j = W j from by rw [va_up_ne _ _ (by omega), va_up_ne _ _ (by omega), va_up_ne _ _ (by omega)]), by unfold addM; rw [if_neg (c := 0 ≤ S 15 * rs) (by omega)]; exact q3, ((q2 _ (by omega) (by omega) (by omega)).trans (va_up_self ..)), by unfold addS; rw [if_neg (c := 0 ≤ S 15 * rs) (by omega)]⟩
  · refine J_aload_n 0 d_D_addParts_78 rfl rfl ?_
    refine gf_D_31 (by omega) ((cF_0 (by decide)).trans hDk) rfl d_D_addParts_79 ?_
    refine J_aload_n 0 d_D_addParts_82 rfl rfl ?_
    refine gf_D_34 (by omega) ((cF_0 (by decide)).trans hDk) rfl d_D_addParts_83 ?_
    refine J_callVv cw_D_104 nh_N_add pn_N_add rfl rfl (by omega) (cF_N (by decide) ((va_up_ne _ _ (by decide)).trans ((va_up_ne _ _ (by decide)).trans (va_up_self ..)))) (As := [.ref (ad 29)]) (rest := []) rfl (Nat.le_of_ble_eq_true rfl) ⟨by decide, by decide⟩ rfl ⟨by decide, by decide⟩ d_D_addParts_86 (n_add hfl (F0 := F0) (W := va_up (va_up (va_up W 27 (xl * yr)) 29 (xr * yl)) 13 (yl * yr)) (K := K) (S := S) (k := 27) (m := 29) (hN := by omega) (hW := hW39) (hk := (by decide)) (hm := (by decide)) (x := xl * yr) (hx := ((va_up_ne _ _ (by decide)).trans ((va_up_ne _ _ (by decide)).trans (va_up_self ..)))) (y := xr * yl) (hy := ((va_up_ne _ _ (by decide)).trans (va_up_self ..))) (hd := (by decide)) (ht := by omega)) (fun  F46 hq => ?_)
    obtain ⟨hW44, eF45⟩ := hq
    have hW47 := (congrArg bW (up_in2 (by decide) (by decide))).mp hW44
    refine J_eqF (F2 := cF ad g F0 (va_up (va_up (va_up W 27 ((xl * yr) + (xr * yl))) 29 (xr * yl)) 13 (yl * yr)) K S) (eF45.trans (congrArg (fun qq => cF ad g F0 qq K S) (up_in2 (by decide) (by decide)))) ?_
    refine J_aload_n 0 d_D_addParts_89 rfl rfl ?_
    refine gf_D_12 (by omega) ((cF_0 (by decide)).trans hDk) rfl d_D_addParts_90 ?_
    refine gf_D_76 (by omega) (cF_U (by decide) rfl rfl) rfl d_D_addParts_93 ?_
    refine J_aload_n 0 d_D_addParts_96 rfl rfl ?_
    refine gf_D_31 (by omega) ((cF_0 (by decide)).trans hDk) rfl d_D_addParts_97 ?_
    refine J_callVv cw_D_89 nh_N_copyFrom pn_N_copyFrom rfl rfl (by omega) (cF_N (by decide) ((va_up_ne _ _ (by decide)).trans ((va_up_ne _ _ (by decide)).trans (va_up_ne _ _ (by decide))))) (As := [.ref (ad 27)]) (rest := []) rfl (Nat.le_of_ble_eq_true rfl) ⟨by decide, by decide⟩ rfl ⟨by decide, by decide⟩ d_D_addParts_100 (n_copyFrom hfl (F0 := F0) (W := va_up (va_up (va_up W 27 ((xl * yr) + (xr * yl))) 29 (xr * yl)) 13 (yl * yr)) (K := K) (S := S) (k := 11) (m := 27) (hN := by omega) (hW := hW47) (hk := (by decide)) (hm := (by decide)) (x := (xl * yr) + (xr * yl)) (hx := ((va_up_ne _ _ (by decide)).trans ((va_up_ne _ _ (by decide)).trans (va_up_self ..)))) (hd := (by decide))) (fun  F51 hq => ?_)
    obtain ⟨hW49, eF50⟩ := hq
    refine J_eqF (F2 := cF ad g F0 (va_up (va_up (va_up (va_up W 27 ((xl * yr) + (xr * yl))) 29 (xr * yl)) 13 (yl * yr)) 11 ((xl * yr) + (xr * yl))) K S) eF50 ?_
    refine J_aload_n 0 d_D_addParts_103 rfl rfl ?_
    have lab128 : J l rm_D_addParts (0, 0) "NumberTower$Desk" b_D_addParts 2 (Option.none : Option Jvm.ClassFile.FieldType) D jCl (jTys g) A (fun _ me => me.name = y_D_addParts.name) (jv ad N (fun F' => ∃ W' : Nat → Nat, bW W' ∧ (∀ j, j ≠ 11 → j ≠ 13 → j ≠ 27 → j ≠ 29 → W' j = W j) ∧ W' 11 = addM (S 15) rs (xl * yr) (xr * yl) ∧ W' 13 = yl * yr ∧ F' = cF ad g F0 W' K (va_up S 10 (addS (S 15) rs (xl * yr) (xr * yl))))) ad N 0 0 128 [(0, .ref (ad 9)), (1, .int (iI rs))] [.int (iI sg1), .ref (ad 10)] (cF ad g F0 (va_up (va_up (va_up (va_up W 27 ((xl * yr) + (xr * yl))) 29 (xr * yl)) 13 (yl * yr)) 11 ((xl * yr) + (xr * yl))) K S) := by
      refine pf_D_69 (by omega) (cF_U (by decide) rfl rfl) (Nat.le_of_ble_eq_true rfl) d_D_addParts_128 ?_
      refine J_eqF (F2 := cF ad g F0 (va_up (va_up (va_up (va_up W 27 ((xl * yr) + (xr * yl))) 29 (xr * yl)) 13 (yl * yr)) 11 ((xl * yr) + (xr * yl))) K (va_up S 10 sg1)) ((cF_upU (by decide)).trans (congrArg (fun qq => cF ad g F0 (va_up (va_up (va_up (va_up W 27 ((xl * yr) + (xr * yl))) 29 (xr * yl)) 13 (yl * yr)) 11 ((xl * yr) + (xr * yl))) qq (va_up S 10 sg1)) (up_same1 rfl).symm)) ?_
      refine J_goto (tgt := 145) d_D_addParts_131 (by decide) ?_
      refine J_vret rfl d_D_addParts_145 ⟨by decide, by decide⟩ ?_
      exact ⟨rfl, rfl, rfl, _, hW49, fun j j1 j2 j3 j4 => (show (va_up (va_up (va_up (va_up W 27 ((xl * yr) + (xr * yl))) 29 (xr * yl)) 13 (yl * yr)) 11 ((xl * yr) + (xr * yl))) j = W j from by rw [va_up_ne _ _ (by omega), va_up_ne _ _ (by omega), va_up_ne _ _ (by omega), va_up_ne _ _ (by omega)]), by unfold addM; rw [if_pos (by omega)]; exact (va_up_self ..), ((va_up_ne _ _ (by decide)).trans (va_up_self ..)), by unfold addS; rw [if_pos (by omega), hsg1]⟩
    refine gf_D_12 (by omega) ((cF_0 (by decide)).trans hDk) rfl d_D_addParts_104 ?_
    refine J_aload_n 0 d_D_addParts_107 rfl rfl ?_
    refine gf_D_18 (by omega) ((cF_0 (by decide)).trans hDk) rfl d_D_addParts_108 ?_
    refine gf_D_69 (by omega) (cF_U (by decide) rfl rfl) rfl d_D_addParts_111 ?_
    refine J_ifeq (tgt := 127) d_D_addParts_114 (by decide) ⟨by omega, by omega⟩ (fun c114 => ?_) (fun c114 => ?_)
    · refine J_iload_n 1 d_D_addParts_127 rfl rfl ?_
      refine J_topi (r := sg1) (congrArg iI (by rw [hsg1, if_pos (by omega)])) ?_
      exact lab128  
    · refine J_aload_n 0 d_D_addParts_117 rfl rfl ?_
      refine gf_D_18 (by omega) ((cF_0 (by decide)).trans hDk) rfl d_D_addParts_118 ?_
      refine gf_D_69 (by omega) (cF_U (by decide) rfl rfl) rfl d_D_addParts_121 ?_
      refine J_goto (tgt := 128) d_D_addParts_124 (by decide) ?_
      refine J_topi (r := sg1) (congrArg iI (by rw [hsg1, if_neg (by omega)])) ?_
      exact lab128  
set_option maxRecDepth 100000 in
set_option maxHeartbeats 4000000 in
theorem c_D_floorAndRest {l : Launch} (hfl : l.flags = flags0) {D : va_G} {g : Nat → ClassId} {ad : Nat → Nat} {N : Nat} {F0 : Nat → va_E} {W : Nat → Nat} {K S : Nat → Int} {xl yl xr yr : Nat}
    (hN : 109 ≤ N) (hW : bW W) (hDk : F0 9 = oD ad) (h16 : W 16 = xl) (h18 : W 18 = yl) (h21 : W 21 = xr) (h23 : W 23 = yr) (hs : -1 ≤ S 15 ∧ S 15 ≤ 1) (hsr : -1 ≤ S 20 ∧ S 20 ≤ 1) (hb0 : 0 < yl * xr) (ha : xl * yr < 2 ^ 440) (hb : yl * xr < 2 ^ 440) :
    JC l y_D_floorAndRest b_D_floorAndRest 1 (Option.none : Option Jvm.ClassFile.FieldType) rm_D_floorAndRest (0, 0) D jCl (jTys g) ad N (cF ad g F0 W K S) [.ref (ad 9)] (jv ad N (fun F' => ∃ W' : Nat → Nat, bW W' ∧ (∀ j, j ≠ 25 → j ≠ 27 → j ≠ 29 → W' j = W j) ∧ W' 25 = flq (S 15 * S 20) (xl * yr) (yl * xr) ∧ W' 27 = flr (S 15 * S 20) (xl * yr) (yl * xr) ∧ F' = cF ad g F0 W' K (va_up S 10 (S 15 * S 20)))) := by
  have hss : -1 ≤ S 15 * S 20 ∧ S 15 * S 20 ≤ 1 := by
    obtain e | e | e : S 15 = -1 ∨ S 15 = 0 ∨ S 15 = 1 := by omega
    all_goals rw [e]; omega
  have hql := Nat.div_le_self (xl * yr) (yl * xr)
  have hrl := Nat.mod_lt (xl * yr) hb0
  refine JC.go hfl (own := "NumberTower$Desk") (lv := [(0, .ref (ad 9))]) rfl (by decide +kernel) (Nat.le_of_ble_eq_true rfl) rfl (fun A => ?_)
  refine J_aload_n 0 d_D_floorAndRest_0 rfl rfl ?_
  refine gf_D_31 (by omega) ((cF_0 (by decide)).trans hDk) rfl d_D_floorAndRest_1 ?_
  refine J_aload_n 0 d_D_floorAndRest_4 rfl rfl ?_
  refine gf_D_18 (by omega) ((cF_0 (by decide)).trans hDk) rfl d_D_floorAndRest_5 ?_
  refine gf_D_76 (by omega) (cF_U (by decide) rfl rfl) rfl d_D_floorAndRest_8 ?_
  refine J_aload_n 0 d_D_floorAndRest_11 rfl rfl ?_
  refine gf_D_21 (by omega) ((cF_0 (by decide)).trans hDk) rfl d_D_floorAndRest_12 ?_
  refine gf_D_79 (by omega) (cF_U (by decide) rfl rfl) rfl d_D_floorAndRest_15 ?_
  refine J_callVv cw_D_97 nh_N_setProduct pn_N_setProduct rfl rfl (by omega) (cF_N (by decide) rfl) (As := [.ref (ad 16), .ref (ad 23)]) (rest := []) rfl (Nat.le_of_ble_eq_true rfl) ⟨by decide, by decide⟩ rfl ⟨by decide, by decide⟩ d_D_floorAndRest_18 (n_setProduct hfl (F0 := F0) (W := W) (K := K) (S := S) (k := 27) (m := 16) (p := 23) (hN := by omega) (hW := hW) (hk := (by decide)) (hm := (by decide)) (hp := (by decide)) (x := xl) (hx := h16) (y := yr) (hy := h23) (hd := (by decide)) (hd2 := (by decide)) (ht := Nat.lt_trans ha (by decide))) (fun  F55 hq => ?_)
  obtain ⟨hW53, eF54⟩ := hq
  refine J_eqF (F2 := cF ad g F0 (va_up W 27 (xl * yr)) K S) eF54 ?_
  refine J_aload_n 0 d_D_floorAndRest_21 rfl rfl ?_
  refine gf_D_34 (by omega) ((cF_0 (by decide)).trans hDk) rfl d_D_floorAndRest_22 ?_
  refine J_aload_n 0 d_D_floorAndRest_25 rfl rfl ?_
  refine gf_D_18 (by omega) ((cF_0 (by decide)).trans hDk) rfl d_D_floorAndRest_26 ?_
  refine gf_D_79 (by omega) (cF_U (by decide) rfl rfl) rfl d_D_floorAndRest_29 ?_
  refine J_aload_n 0 d_D_floorAndRest_32 rfl rfl ?_
  refine gf_D_21 (by omega) ((cF_0 (by decide)).trans hDk) rfl d_D_floorAndRest_33 ?_
  refine gf_D_76 (by omega) (cF_U (by decide) rfl rfl) rfl d_D_floorAndRest_36 ?_
  refine J_callVv cw_D_97 nh_N_setProduct pn_N_setProduct rfl rfl (by omega) (cF_N (by decide) (va_up_ne _ _ (by decide))) (As := [.ref (ad 18), .ref (ad 21)]) (rest := []) rfl (Nat.le_of_ble_eq_true rfl) ⟨by decide, by decide⟩ rfl ⟨by decide, by decide⟩ d_D_floorAndRest_39 (n_setProduct hfl (F0 := F0) (W := va_up W 27 (xl * yr)) (K := K) (S := S) (k := 29) (m := 18) (p := 21) (hN := by omega) (hW := hW53) (hk := (by decide)) (hm := (by decide)) (hp := (by decide)) (x := yl) (hx := ((va_up_ne _ _ (by decide)).trans h18)) (y := xr) (hy := ((va_up_ne _ _ (by decide)).trans h21)) (hd := (by decide)) (hd2 := (by decide)) (ht := Nat.lt_trans hb (by decide))) (fun  F59 hq => ?_)
  obtain ⟨hW57, eF58⟩ := hq
  refine J_eqF (F2 := cF ad g F0 (va_up (va_up W 27 (xl * yr)) 29 (yl * xr)) K S) eF58 ?_
  refine J_aload_n 0 d_D_floorAndRest_42 rfl rfl ?_
  refine gf_D_31 (by omega) ((cF_0 (by decide)).trans hDk) rfl d_D_floorAndRest_43 ?_
  refine J_aload_n 0 d_D_floorAndRest_46 rfl rfl ?_
  refine gf_D_34 (by omega) ((cF_0 (by decide)).trans hDk) rfl d_D_floorAndRest_47 ?_
  refine J_aload_n 0 d_D_floorAndRest_50 rfl rfl ?_
  refine gf_D_27 (by omega) ((cF_0 (by decide)).trans hDk) rfl d_D_floorAndRest_51 ?_
  refine J_callVv cw_D_117 nh_N_divide pn_N_divide rfl rfl (by omega) (cF_N (by decide) ((va_up_ne _ _ (by decide)).trans (va_up_self ..))) (As := [.ref (ad 29), .ref (ad 25)]) (rest := []) rfl (Nat.le_of_ble_eq_true rfl) ⟨by decide, by decide⟩ rfl ⟨by decide, by decide⟩ d_D_floorAndRest_54 (n_divide hfl (F0 := F0) (W := va_up (va_up W 27 (xl * yr)) 29 (yl * xr)) (K := K) (S := S) (k := 27) (m := 29) (p := 25) (hN := by omega) (hW := hW57) (hk := (by decide)) (hm := (by decide)) (hp := (by decide)) (x := xl * yr) (hx := ((va_up_ne _ _ (by decide)).trans (va_up_self ..))) (y := yl * xr) (hy := (va_up_self ..)) (hd := (by decide)) (hd1 := (by decide)) (hd2 := (by decide)) (hx4 := Nat.lt_trans ha (by decide)) (hy4 := Nat.lt_trans hb (by decide))) (fun  F63 hq => ?_)
  obtain ⟨hW61, eF62⟩ := hq
  have hW64 := (congrArg bW (up_in2 (by decide) (by decide))).mp hW61
  refine J_eqF (F2 := cF ad g F0 (va_up (va_up (va_up W 27 ((xl * yr) % (yl * xr))) 29 (yl * xr)) 25 ((xl * yr) / (yl * xr))) K S) (eF62.trans (congrArg (fun qq => cF ad g F0 qq K S) (up_in2 (by decide) (by decide)))) ?_
  refine J_aload_n 0 d_D_floorAndRest_57 rfl rfl ?_
  refine gf_D_12 (by omega) ((cF_0 (by decide)).trans hDk) rfl d_D_floorAndRest_58 ?_
  refine J_aload_n 0 d_D_floorAndRest_61 rfl rfl ?_
  refine gf_D_18 (by omega) ((cF_0 (by decide)).trans hDk) rfl d_D_floorAndRest_62 ?_
  refine gf_D_69 (by omega) (cF_U (by decide) rfl rfl) rfl d_D_floorAndRest_65 ?_
  refine J_aload_n 0 d_D_floorAndRest_68 rfl rfl ?_
  refine gf_D_21 (by omega) ((cF_0 (by decide)).trans hDk) rfl d_D_floorAndRest_69 ?_
  refine gf_D_69 (by omega) (cF_U (by decide) rfl rfl) rfl d_D_floorAndRest_72 ?_
  refine J_imul d_D_floorAndRest_75 ?_
  refine pf_D_69 (by omega) (cF_U (by decide) rfl rfl) (Nat.le_of_ble_eq_true rfl) d_D_floorAndRest_76 ?_
  refine J_eqF (F2 := cF ad g F0 (va_up (va_up (va_up W 27 ((xl * yr) % (yl * xr))) 29 (yl * xr)) 25 ((xl * yr) / (yl * xr))) K (va_up S 10 ((S 15) * (S 20)))) ((cF_upU (by decide)).trans (congrArg (fun qq => cF ad g F0 (va_up (va_up (va_up W 27 ((xl * yr) % (yl * xr))) 29 (yl * xr)) 25 ((xl * yr) / (yl * xr))) qq (va_up S 10 ((S 15) * (S 20)))) (up_same1 rfl).symm)) ?_
  refine J_aload_n 0 d_D_floorAndRest_79 rfl rfl ?_
  refine gf_D_12 (by omega) ((cF_0 (by decide)).trans hDk) rfl d_D_floorAndRest_80 ?_
  refine gf_D_69 (by omega) (cF_U (by decide) rfl (va_up_self ..)) rfl d_D_floorAndRest_83 ?_
  refine J_ifge (tgt := 129) d_D_floorAndRest_86 (by decide) ⟨by omega, by omega⟩ (fun c86 => ?_) (fun c86 => ?_)
  · refine J_vret rfl d_D_floorAndRest_129 ⟨by decide, by decide⟩ ?_
    exact ⟨rfl, rfl, rfl, _, hW64, fun j j1 j2 j3 => (show (va_up (va_up (va_up W 27 ((xl * yr) % (yl * xr))) 29 (yl * xr)) 25 ((xl * yr) / (yl * xr))) j = W j from by rw [va_up_ne _ _ (by omega), va_up_ne _ _ (by omega), va_up_ne _ _ (by omega)]), by unfold flq; rw [if_neg (by omega)]; exact (va_up_self ..), by unfold flr; rw [if_neg (by omega)]; exact ((va_up_ne _ _ (by decide)).trans ((va_up_ne _ _ (by decide)).trans (va_up_self ..))), rfl⟩
  · refine J_aload_n 0 d_D_floorAndRest_89 rfl rfl ?_
    refine gf_D_31 (by omega) ((cF_0 (by decide)).trans hDk) rfl d_D_floorAndRest_90 ?_
    refine J_callVi cw_D_120 nh_N_isZero pn_N_isZero rfl rfl (by omega) (cF_N (by decide) ((va_up_ne _ _ (by decide)).trans ((va_up_ne _ _ (by decide)).trans (va_up_self ..)))) (As := []) (rest := []) rfl (Nat.le_of_ble_eq_true rfl) ⟨by decide, by decide⟩ rfl ⟨by decide, by decide⟩ d_D_floorAndRest_93 (n_isZero hfl (F0 := F0) (W := va_up (va_up (va_up W 27 ((xl * yr) % (yl * xr))) 29 (yl * xr)) 25 ((xl * yr) / (yl * xr))) (K := K) (S := va_up S 10 ((S 15) * (S 20))) (k := 27) (hN := by omega) (hW := hW64) (hk := (by decide)) (x := (xl * yr) % (yl * xr)) (hx := ((va_up_ne _ _ (by decide)).trans ((va_up_ne _ _ (by decide)).trans (va_up_self ..))))) (fun z65 F1 hq => ?_)
    obtain ⟨hz65, eF1⟩ := hq
    refine J_eqF eF1 ?_
    refine J_ifne (tgt := 129) d_D_floorAndRest_96 (by decide) ⟨by omega, by omega⟩ (fun c96 => ?_) (fun c96 => ?_)
    · refine J_vret rfl d_D_floorAndRest_129 ⟨by decide, by decide⟩ ?_
      exact ⟨rfl, rfl, rfl, _, hW64, fun j j1 j2 j3 => (show (va_up (va_up (va_up W 27 ((xl * yr) % (yl * xr))) 29 (yl * xr)) 25 ((xl * yr) / (yl * xr))) j = W j from by rw [va_up_ne _ _ (by omega), va_up_ne _ _ (by omega), va_up_ne _ _ (by omega)]), by unfold flq; rw [if_neg (by omega)]; exact (va_up_self ..), by unfold flr; rw [if_neg (by omega)]; exact ((va_up_ne _ _ (by decide)).trans ((va_up_ne _ _ (by decide)).trans (va_up_self ..))), rfl⟩
    · refine J_aload_n 0 d_D_floorAndRest_99 rfl rfl ?_
      refine gf_D_27 (by omega) ((cF_0 (by decide)).trans hDk) rfl d_D_floorAndRest_100 ?_
      refine J_iconst d_D_floorAndRest_103 ?_
      refine J_callVv cw_D_124 nh_N_addSmall pn_N_addSmall rfl rfl (by omega) (cF_N (by decide) (va_up_self ..)) (As := [.int (iI 1)]) (rest := []) rfl (Nat.le_of_ble_eq_true rfl) ⟨by decide, by decide⟩ rfl ⟨by decide, by decide⟩ d_D_floorAndRest_104 (n_addSmall hfl (F0 := F0) (W := va_up (va_up (va_up W 27 ((xl * yr) % (yl * xr))) 29 (yl * xr)) 25 ((xl * yr) / (yl * xr))) (K := K) (S := va_up S 10 ((S 15) * (S 20))) (k := 25) (n := 1) (hN := by omega) (hW := hW64) (hk := (by decide)) (x := (xl * yr) / (yl * xr)) (hx := (va_up_self ..)) (hn := by decide) (ht := by omega)) (fun  F69 hq => ?_)
      obtain ⟨hW67, eF68⟩ := hq
      have hW70 := (congrArg bW (up_in0)).mp hW67
      refine J_eqF (F2 := cF ad g F0 (va_up (va_up (va_up W 27 ((xl * yr) % (yl * xr))) 29 (yl * xr)) 25 (((xl * yr) / (yl * xr)) + 1)) K (va_up S 10 ((S 15) * (S 20)))) (eF68.trans (congrArg (fun qq => cF ad g F0 qq K (va_up S 10 ((S 15) * (S 20)))) (up_in0))) ?_
      refine J_aload_n 0 d_D_floorAndRest_107 rfl rfl ?_
      refine gf_D_34 (by omega) ((cF_0 (by decide)).trans hDk) rfl d_D_floorAndRest_108 ?_
      refine J_aload_n 0 d_D_floorAndRest_111 rfl rfl ?_
      refine gf_D_31 (by omega) ((cF_0 (by decide)).trans hDk) rfl d_D_floorAndRest_112 ?_
      refine J_callVv cw_D_114 nh_N_subtract pn_N_subtract rfl rfl (by omega) (cF_N (by decide) ((va_up_ne _ _ (by decide)).trans (va_up_self ..))) (As := [.ref (ad 27)]) (rest := []) rfl (Nat.le_of_ble_eq_true rfl) ⟨by decide, by decide⟩ rfl ⟨by decide, by decide⟩ d_D_floorAndRest_115 (n_subtract hfl (F0 := F0) (W := va_up (va_up (va_up W 27 ((xl * yr) % (yl * xr))) 29 (yl * xr)) 25 (((xl * yr) / (yl * xr)) + 1)) (K := K) (S := va_up S 10 ((S 15) * (S 20))) (k := 29) (m := 27) (r := (yl * xr - xl * yr % (yl * xr))) (hN := by omega) (hW := hW70) (hk := (by decide)) (hm := (by decide)) (x := yl * xr) (hx := ((va_up_ne _ _ (by decide)).trans (va_up_self ..))) (y := (xl * yr) % (yl * xr)) (hy := ((va_up_ne _ _ (by decide)).trans ((va_up_ne _ _ (by decide)).trans (va_up_self ..)))) (hd := (by decide)) (hr := by omega)) (fun  F74 hq => ?_)
      obtain ⟨hW72, eF73⟩ := hq
      have hW75 := (congrArg bW (up_in1 (by decide))).mp hW72
      refine J_eqF (F2 := cF ad g F0 (va_up (va_up (va_up W 27 ((xl * yr) % (yl * xr))) 29 (yl * xr - xl * yr % (yl * xr))) 25 (((xl * yr) / (yl * xr)) + 1)) K (va_up S 10 ((S 15) * (S 20)))) (eF73.trans (congrArg (fun qq => cF ad g F0 qq K (va_up S 10 ((S 15) * (S 20)))) (up_in1 (by decide)))) ?_
      refine J_aload_n 0 d_D_floorAndRest_118 rfl rfl ?_
      refine gf_D_31 (by omega) ((cF_0 (by decide)).trans hDk) rfl d_D_floorAndRest_119 ?_
      refine J_aload_n 0 d_D_floorAndRest_122 rfl rfl ?_
      refine gf_D_34 (by omega) ((cF_0 (by decide)).trans hDk) rfl d_D_floorAndRest_123 ?_
      refine J_callVv cw_D_89 nh_N_copyFrom pn_N_copyFrom rfl rfl (by omega) (cF_N (by decide) ((va_up_ne _ _ (by decide)).trans ((va_up_ne _ _ (by decide)).trans (va_up_self ..)))) (As := [.ref (ad 29)]) (rest := []) rfl (Nat.le_of_ble_eq_true rfl) ⟨by decide, by decide⟩ rfl ⟨by decide, by decide⟩ d_D_floorAndRest_126 (n_copyFrom hfl (F0 := F0) (W := va_up (va_up (va_up W 27 ((xl * yr) % (yl * xr))) 29 (yl * xr - xl * yr % (yl * xr))) 25 (((xl * yr) / (yl * xr)) + 1)) (K := K) (S := va_up S 10 ((S 15) * (S 20))) (k := 27) (m := 29) (hN := by omega) (hW := hW75) (hk := (by decide)) (hm := (by decide)) (x := (yl * xr - xl * yr % (yl * xr))) (hx := ((va_up_ne _ _ (by decide)).trans (va_up_self ..))) (hd := (by decide))) (fun  F79 hq => ?_)
      obtain ⟨hW77, eF78⟩ := hq
      have hW80 := (congrArg bW (up_in2 (by decide) (by decide))).mp hW77
      refine J_eqF (F2 := cF ad g F0 (va_up (va_up (va_up W 27 (yl * xr - xl * yr % (yl * xr))) 29 (yl * xr - xl * yr % (yl * xr))) 25 (((xl * yr) / (yl * xr)) + 1)) K (va_up S 10 ((S 15) * (S 20)))) (eF78.trans (congrArg (fun qq => cF ad g F0 qq K (va_up S 10 ((S 15) * (S 20)))) (up_in2 (by decide) (by decide)))) ?_
      refine J_vret rfl d_D_floorAndRest_129 ⟨by decide, by decide⟩ ?_
      exact ⟨rfl, rfl, rfl, _, hW80, fun j j1 j2 j3 => (show (va_up (va_up (va_up W 27 (yl * xr - xl * yr % (yl * xr))) 29 (yl * xr - xl * yr % (yl * xr))) 25 (((xl * yr) / (yl * xr)) + 1)) j = W j from by rw [va_up_ne _ _ (by omega), va_up_ne _ _ (by omega), va_up_ne _ _ (by omega)]), by unfold flq; rw [if_pos ⟨by omega, by omega⟩]; exact (va_up_self ..), by unfold flr; rw [if_pos ⟨by omega, by omega⟩]; exact ((va_up_ne _ _ (by decide)).trans ((va_up_ne _ _ (by decide)).trans (va_up_self ..))), rfl⟩
set_option maxRecDepth 100000 in
set_option maxHeartbeats 4000000 in
theorem c_D_startSum {l : Launch} (hfl : l.flags = flags0) {D : va_G} {g : Nat → ClassId} {ad : Nat → Nat} {N : Nat} {F0 : Nat → va_E} {W : Nat → Nat} {K S : Nat → Int}
    (hN : 109 ≤ N) (hW : bW W) (hDk : F0 9 = oD ad) :
    JC l y_D_startSum b_D_startSum 1 (Option.none : Option Jvm.ClassFile.FieldType) rm_D_startSum (0, 0) D jCl (jTys g) ad N (cF ad g F0 W K S) [.ref (ad 9)] (jv ad N (fun F' => bW (va_up (va_up W 27 0) 29 0) ∧ F' = cF ad g F0 (va_up (va_up W 27 0) 29 0) K S)) := by
  refine JC.go hfl (own := "NumberTower$Desk") (lv := [(0, .ref (ad 9))]) rfl (by decide +kernel) (Nat.le_of_ble_eq_true rfl) rfl (fun A => ?_)
  refine J_aload_n 0 d_D_startSum_0 rfl rfl ?_
  refine gf_D_31 (by omega) ((cF_0 (by decide)).trans hDk) rfl d_D_startSum_1 ?_
  refine J_callVv cw_D_171 nh_N_clear pn_N_clear rfl rfl (by omega) (cF_N (by decide) rfl) (As := []) (rest := []) rfl (Nat.le_of_ble_eq_true rfl) ⟨by decide, by decide⟩ rfl ⟨by decide, by decide⟩ d_D_startSum_4 (n_clear hfl (F0 := F0) (W := W) (K := K) (S := S) (k := 27) (hN := by omega) (hW := hW) (hk := (by decide))) (fun  F84 hq => ?_)
  obtain ⟨hW82, eF83⟩ := hq
  refine J_eqF (F2 := cF ad g F0 (va_up W 27 0) K S) eF83 ?_
  refine J_aload_n 0 d_D_startSum_7 rfl rfl ?_
  refine gf_D_34 (by omega) ((cF_0 (by decide)).trans hDk) rfl d_D_startSum_8 ?_
  refine J_callVv cw_D_171 nh_N_clear pn_N_clear rfl rfl (by omega) (cF_N (by decide) (va_up_ne _ _ (by decide))) (As := []) (rest := []) rfl (Nat.le_of_ble_eq_true rfl) ⟨by decide, by decide⟩ rfl ⟨by decide, by decide⟩ d_D_startSum_11 (n_clear hfl (F0 := F0) (W := va_up W 27 0) (K := K) (S := S) (k := 29) (hN := by omega) (hW := hW82) (hk := (by decide))) (fun  F88 hq => ?_)
  obtain ⟨hW86, eF87⟩ := hq
  refine J_eqF (F2 := cF ad g F0 (va_up (va_up W 27 0) 29 0) K S) eF87 ?_
  refine J_vret rfl d_D_startSum_14 ⟨by decide, by decide⟩ ?_
  exact ⟨rfl, rfl, rfl, hW86, rfl⟩
set_option maxRecDepth 100000 in
set_option maxHeartbeats 4000000 in
theorem c_D_addToSum {l : Launch} (hfl : l.flags = flags0) {D : va_G} {g : Nat → ClassId} {ad : Nat → Nat} {N : Nat} {F0 : Nat → va_E} {W : Nat → Nat} {K S : Nat → Int} {p x y a b : Nat}
    (hN : 109 ≤ N) (hW : bW W) (hDk : F0 9 = oD ad) (hp : isU p) (hp2 : p = 2 ∨ 58 ≤ p) (h27 : W 27 = a) (h29 : W 29 = b) (hx : W (p + 1) = x) (hy : W (p + 3) = y) (hs : -1 ≤ S p ∧ S p ≤ 1) (hyb : blen y ≤ 480) (ht : x * 2 ^ (152 - ((blen y : Int) - 1)).toNat < 2 ^ 300) (hab : a < 2 ^ 400 ∧ b < 2 ^ 400) :
    JC l y_D_addToSum b_D_addToSum 2 (Option.none : Option Jvm.ClassFile.FieldType) rm_D_addToSum (0, 0) D jCl (jTys g) ad N (cF ad g F0 W K S) [.ref (ad 9), .ref (ad p)] (jv ad N (fun F' => ∃ W' : Nat → Nat, bW W' ∧ (∀ j, j ≠ 27 → j ≠ 29 → j ≠ 31 → W' j = W j) ∧ W' 27 = (if 0 < S p then a + x * 2 ^ (152 - ((blen y : Int) - 1)).toNat else a) ∧ W' 29 = (if 0 < S p then b else b + x * 2 ^ (152 - ((blen y : Int) - 1)).toNat) ∧ F' = cF ad g F0 W' K S)) := by
  have hp4 := (isU_1 hp).1
  refine JC.go hfl (own := "NumberTower$Desk") (lv := [(0, .ref (ad 9)), (1, .ref (ad p))]) rfl (by decide +kernel) (Nat.le_of_ble_eq_true rfl) rfl (fun A => ?_)
  refine J_aload_n 0 d_D_addToSum_0 rfl rfl ?_
  refine gf_D_37 (by omega) ((cF_0 (by decide)).trans hDk) rfl d_D_addToSum_1 ?_
  refine J_aload_n 1 d_D_addToSum_4 rfl rfl ?_
  refine gf_D_76 (by omega) (cF_U hp rfl rfl) rfl d_D_addToSum_5 ?_
  refine J_callVv cw_D_89 nh_N_copyFrom pn_N_copyFrom rfl rfl (by omega) (cF_N (by decide) rfl) (As := [.ref (ad (p + 1))]) (rest := []) rfl (Nat.le_of_ble_eq_true rfl) ⟨by decide, by decide⟩ rfl ⟨by decide, by decide⟩ d_D_addToSum_8 (n_copyFrom hfl (F0 := F0) (W := W) (K := K) (S := S) (k := 31) (m := p + 1) (hN := by omega) (hW := hW) (hk := (by decide)) (hm := (isU_1 hp).2.1) (x := x) (hx := hx) (hd := (by omega))) (fun  F92 hq => ?_)
  obtain ⟨hW90, eF91⟩ := hq
  refine J_eqF (F2 := cF ad g F0 (va_up W 31 x) K S) eF91 ?_
  refine J_aload_n 0 d_D_addToSum_11 rfl rfl ?_
  refine gf_D_37 (by omega) ((cF_0 (by decide)).trans hDk) rfl d_D_addToSum_12 ?_
  refine J_sipush d_D_addToSum_15 (i16_ok (by decide)) ?_
  refine J_aload_n 1 d_D_addToSum_18 rfl rfl ?_
  refine gf_D_79 (by omega) (cF_U hp rfl rfl) rfl d_D_addToSum_19 ?_
  refine J_callVi cw_D_189 nh_N_bits pn_N_bits rfl rfl (by omega) (cF_N (isU_1 hp).2.2 ((va_up_ne _ _ (by omega)).trans hy)) (As := []) (rest := [.int (iI 152), .ref (ad 31)]) rfl (Nat.le_of_ble_eq_true rfl) ⟨by decide, by decide⟩ rfl ⟨by decide, by decide⟩ d_D_addToSum_22 (n_bits hfl (F0 := F0) (W := va_up W 31 x) (K := K) (S := S) (k := p + 3) (hN := by omega) (hW := hW90) (hk := (isU_1 hp).2.2) (x := y) (hx := ((va_up_ne _ _ (by omega)).trans hy))) (fun z93 F1 hq => ?_)
  obtain ⟨hz93, eF1⟩ := hq
  refine J_eqF eF1 ?_
  refine J_topi (r := (((blen y : Nat)) : Int)) (congrArg iI hz93) ?_
  refine J_iconst d_D_addToSum_25 ?_
  refine J_isub d_D_addToSum_26 ?_
  refine J_isub d_D_addToSum_27 ?_
  refine J_callVv cw_D_155 nh_N_shiftUp pn_N_shiftUp rfl rfl (by omega) (cF_N (by decide) (va_up_self ..)) (As := [.int (iI (152 - ((((blen y : Nat)) : Int) - 1)))]) (rest := []) rfl (Nat.le_of_ble_eq_true rfl) ⟨by decide, by decide⟩ rfl ⟨by decide, by decide⟩ d_D_addToSum_28 (n_shiftUp hfl (F0 := F0) (W := va_up W 31 x) (K := K) (S := S) (k := 31) (n := 152 - ((((blen y : Nat)) : Int) - 1)) (hN := by omega) (hW := hW90) (hk := (by decide)) (x := x) (hx := (va_up_self ..)) (hn := ⟨by omega, by omega⟩) (ht := Nat.lt_trans ht (by decide))) (fun  F97 hq => ?_)
  obtain ⟨hW95, eF96⟩ := hq
  have hW98 := (congrArg bW (up_in0)).mp hW95
  refine J_eqF (F2 := cF ad g F0 (va_up W 31 (x * 2 ^ ((152 - ((((blen y : Nat)) : Int) - 1)).toNat))) K S) (eF96.trans (congrArg (fun qq => cF ad g F0 qq K S) (up_in0))) ?_
  refine J_aload_n 1 d_D_addToSum_31 rfl rfl ?_
  refine gf_D_69 (by omega) (cF_U hp rfl rfl) rfl d_D_addToSum_32 ?_
  refine J_ifle (tgt := 52) d_D_addToSum_35 (by decide) ⟨by omega, by omega⟩ (fun c35 => ?_) (fun c35 => ?_)
  · refine J_aload_n 0 d_D_addToSum_52 rfl rfl ?_
    refine gf_D_34 (by omega) ((cF_0 (by decide)).trans hDk) rfl d_D_addToSum_53 ?_
    refine J_aload_n 0 d_D_addToSum_56 rfl rfl ?_
    refine gf_D_37 (by omega) ((cF_0 (by decide)).trans hDk) rfl d_D_addToSum_57 ?_
    refine J_callVv cw_D_104 nh_N_add pn_N_add rfl rfl (by omega) (cF_N (by decide) ((va_up_ne _ _ (by decide)).trans h29)) (As := [.ref (ad 31)]) (rest := []) rfl (Nat.le_of_ble_eq_true rfl) ⟨by decide, by decide⟩ rfl ⟨by decide, by decide⟩ d_D_addToSum_60 (n_add hfl (F0 := F0) (W := va_up W 31 (x * 2 ^ ((152 - ((((blen y : Nat)) : Int) - 1)).toNat))) (K := K) (S := S) (k := 29) (m := 31) (hN := by omega) (hW := hW98) (hk := (by decide)) (hm := (by decide)) (x := b) (hx := ((va_up_ne _ _ (by decide)).trans h29)) (y := x * 2 ^ ((152 - ((((blen y : Nat)) : Int) - 1)).toNat)) (hy := (va_up_self ..)) (hd := (by decide)) (ht := by omega)) (fun  F102 hq => ?_)
    obtain ⟨hW100, eF101⟩ := hq
    refine J_eqF (F2 := cF ad g F0 (va_up (va_up W 31 (x * 2 ^ ((152 - ((((blen y : Nat)) : Int) - 1)).toNat))) 29 (b + (x * 2 ^ ((152 - ((((blen y : Nat)) : Int) - 1)).toNat)))) K S) eF101 ?_
    refine J_vret rfl d_D_addToSum_63 ⟨by decide, by decide⟩ ?_
    exact ⟨rfl, rfl, rfl, _, hW100, fun j j1 j2 j3 => (show (va_up (va_up W 31 (x * 2 ^ ((152 - ((((blen y : Nat)) : Int) - 1)).toNat))) 29 (b + (x * 2 ^ ((152 - ((((blen y : Nat)) : Int) - 1)).toNat)))) j = W j from by rw [va_up_ne _ _ (by omega), va_up_ne _ _ (by omega)]), by first | (rw [if_pos (by omega)]; exact ((va_up_ne _ _ (by decide)).trans ((va_up_ne _ _ (by decide)).trans h27))) | (rw [if_neg (by omega)]; exact ((va_up_ne _ _ (by decide)).trans ((va_up_ne _ _ (by decide)).trans h27))), by first | (rw [if_pos (by omega)]; exact (va_up_self ..)) | (rw [if_neg (by omega)]; exact (va_up_self ..)), rfl⟩
  · refine J_aload_n 0 d_D_addToSum_38 rfl rfl ?_
    refine gf_D_31 (by omega) ((cF_0 (by decide)).trans hDk) rfl d_D_addToSum_39 ?_
    refine J_aload_n 0 d_D_addToSum_42 rfl rfl ?_
    refine gf_D_37 (by omega) ((cF_0 (by decide)).trans hDk) rfl d_D_addToSum_43 ?_
    refine J_callVv cw_D_104 nh_N_add pn_N_add rfl rfl (by omega) (cF_N (by decide) ((va_up_ne _ _ (by decide)).trans h27)) (As := [.ref (ad 31)]) (rest := []) rfl (Nat.le_of_ble_eq_true rfl) ⟨by decide, by decide⟩ rfl ⟨by decide, by decide⟩ d_D_addToSum_46 (n_add hfl (F0 := F0) (W := va_up W 31 (x * 2 ^ ((152 - ((((blen y : Nat)) : Int) - 1)).toNat))) (K := K) (S := S) (k := 27) (m := 31) (hN := by omega) (hW := hW98) (hk := (by decide)) (hm := (by decide)) (x := a) (hx := ((va_up_ne _ _ (by decide)).trans h27)) (y := x * 2 ^ ((152 - ((((blen y : Nat)) : Int) - 1)).toNat)) (hy := (va_up_self ..)) (hd := (by decide)) (ht := by omega)) (fun  F106 hq => ?_)
    obtain ⟨hW104, eF105⟩ := hq
    refine J_eqF (F2 := cF ad g F0 (va_up (va_up W 31 (x * 2 ^ ((152 - ((((blen y : Nat)) : Int) - 1)).toNat))) 27 (a + (x * 2 ^ ((152 - ((((blen y : Nat)) : Int) - 1)).toNat)))) K S) eF105 ?_
    refine J_goto (tgt := 63) d_D_addToSum_49 (by decide) ?_
    refine J_vret rfl d_D_addToSum_63 ⟨by decide, by decide⟩ ?_
    exact ⟨rfl, rfl, rfl, _, hW104, fun j j1 j2 j3 => (show (va_up (va_up W 31 (x * 2 ^ ((152 - ((((blen y : Nat)) : Int) - 1)).toNat))) 27 (a + (x * 2 ^ ((152 - ((((blen y : Nat)) : Int) - 1)).toNat)))) j = W j from by rw [va_up_ne _ _ (by omega), va_up_ne _ _ (by omega)]), by first | (rw [if_pos (by omega)]; exact (va_up_self ..)) | (rw [if_neg (by omega)]; exact (va_up_self ..)), by first | (rw [if_pos (by omega)]; exact ((va_up_ne _ _ (by decide)).trans ((va_up_ne _ _ (by decide)).trans h29))) | (rw [if_neg (by omega)]; exact ((va_up_ne _ _ (by decide)).trans ((va_up_ne _ _ (by decide)).trans h29))), rfl⟩
set_option maxRecDepth 100000 in
set_option maxHeartbeats 4000000 in
theorem c_D_orderOf {l : Launch} (hfl : l.flags = flags0) {D : va_G} {g : Nat → ClassId} {ad : Nat → Nat} {N : Nat} {F0 : Nat → va_E} {W : Nat → Nat} {K S : Nat → Int} {p q xp yp xq yq : Nat}
    (hN : 109 ≤ N) (hW : bW W) (hDk : F0 9 = oD ad) (hp : isU p) (hp2 : p = 2 ∨ 58 ≤ p) (hq : isU q) (hq2 : q = 2 ∨ 58 ≤ q) (h1 : W (p + 1) = xp) (h2 : W (p + 3) = yp) (h3 : W (q + 1) = xq) (h4 : W (q + 3) = yq) (hs : -1 ≤ S p ∧ S p ≤ 1) (hs2 : -1 ≤ S q ∧ S q ≤ 1) (ht : xp * yq < 2 ^ 480) (ht2 : xq * yp < 2 ^ 480) :
    JC l y_D_orderOf b_D_orderOf 3 (Option.some Jvm.ClassFile.FieldType.int) rm_D_orderOf (0, 0) D jCl (jTys g) ad N (cF ad g F0 W K S) [.ref (ad 9), .ref (ad p), .ref (ad q)] (ji ad N (fun z F' => z = (if S p = S q then cmpN (xp * yq) (xq * yp) * S p else if S p < S q then -1 else 1) ∧ ∃ W' : Nat → Nat, bW W' ∧ (∀ j, j ≠ 27 → j ≠ 29 → W' j = W j) ∧ F' = cF ad g F0 W' K S)) := by
  have hp4 := (isU_1 hp).1
  have hq4 := (isU_1 hq).1
  refine JC.go hfl (own := "NumberTower$Desk") (lv := [(0, .ref (ad 9)), (1, .ref (ad p)), (2, .ref (ad q))]) rfl (by decide +kernel) (Nat.le_of_ble_eq_true rfl) rfl (fun A => ?_)
  refine J_aload_n 1 d_D_orderOf_0 rfl rfl ?_
  refine gf_D_69 (by omega) (cF_U hp rfl rfl) rfl d_D_orderOf_1 ?_
  refine J_aload_n 2 d_D_orderOf_4 rfl rfl ?_
  refine gf_D_69 (by omega) (cF_U hq rfl rfl) rfl d_D_orderOf_5 ?_
  refine J_if_icmpeq (tgt := 28) d_D_orderOf_8 (by decide) ⟨by omega, by omega⟩ ⟨by omega, by omega⟩ (fun c8 => ?_) (fun c8 => ?_)
  · refine J_aload_n 0 d_D_orderOf_28 rfl rfl ?_
    refine gf_D_31 (by omega) ((cF_0 (by decide)).trans hDk) rfl d_D_orderOf_29 ?_
    refine J_aload_n 1 d_D_orderOf_32 rfl rfl ?_
    refine gf_D_76 (by omega) (cF_U hp rfl rfl) rfl d_D_orderOf_33 ?_
    refine J_aload_n 2 d_D_orderOf_36 rfl rfl ?_
    refine gf_D_79 (by omega) (cF_U hq rfl rfl) rfl d_D_orderOf_37 ?_
    refine J_callVv cw_D_97 nh_N_setProduct pn_N_setProduct rfl rfl (by omega) (cF_N (by decide) rfl) (As := [.ref (ad (p + 1)), .ref (ad (q + 3))]) (rest := []) rfl (Nat.le_of_ble_eq_true rfl) ⟨by decide, by decide⟩ rfl ⟨by decide, by decide⟩ d_D_orderOf_40 (n_setProduct hfl (F0 := F0) (W := W) (K := K) (S := S) (k := 27) (m := p + 1) (p := q + 3) (hN := by omega) (hW := hW) (hk := (by decide)) (hm := (isU_1 hp).2.1) (hp := (isU_1 hq).2.2) (x := xp) (hx := h1) (y := yq) (hy := h4) (hd := (by omega)) (hd2 := (by omega)) (ht := ht)) (fun  F110 hq => ?_)
    obtain ⟨hW108, eF109⟩ := hq
    refine J_eqF (F2 := cF ad g F0 (va_up W 27 (xp * yq)) K S) eF109 ?_
    refine J_aload_n 0 d_D_orderOf_43 rfl rfl ?_
    refine gf_D_34 (by omega) ((cF_0 (by decide)).trans hDk) rfl d_D_orderOf_44 ?_
    refine J_aload_n 2 d_D_orderOf_47 rfl rfl ?_
    refine gf_D_76 (by omega) (cF_U hq rfl rfl) rfl d_D_orderOf_48 ?_
    refine J_aload_n 1 d_D_orderOf_51 rfl rfl ?_
    refine gf_D_79 (by omega) (cF_U hp rfl rfl) rfl d_D_orderOf_52 ?_
    refine J_callVv cw_D_97 nh_N_setProduct pn_N_setProduct rfl rfl (by omega) (cF_N (by decide) (va_up_ne _ _ (by decide))) (As := [.ref (ad (q + 1)), .ref (ad (p + 3))]) (rest := []) rfl (Nat.le_of_ble_eq_true rfl) ⟨by decide, by decide⟩ rfl ⟨by decide, by decide⟩ d_D_orderOf_55 (n_setProduct hfl (F0 := F0) (W := va_up W 27 (xp * yq)) (K := K) (S := S) (k := 29) (m := q + 1) (p := p + 3) (hN := by omega) (hW := hW108) (hk := (by decide)) (hm := (isU_1 hq).2.1) (hp := (isU_1 hp).2.2) (x := xq) (hx := ((va_up_ne _ _ (by omega)).trans h3)) (y := yp) (hy := ((va_up_ne _ _ (by omega)).trans h2)) (hd := (by omega)) (hd2 := (by omega)) (ht := ht2)) (fun  F114 hq => ?_)
    obtain ⟨hW112, eF113⟩ := hq
    refine J_eqF (F2 := cF ad g F0 (va_up (va_up W 27 (xp * yq)) 29 (xq * yp)) K S) eF113 ?_
    refine J_aload_n 0 d_D_orderOf_58 rfl rfl ?_
    refine gf_D_31 (by omega) ((cF_0 (by decide)).trans hDk) rfl d_D_orderOf_59 ?_
    refine J_aload_n 0 d_D_orderOf_62 rfl rfl ?_
    refine gf_D_34 (by omega) ((cF_0 (by decide)).trans hDk) rfl d_D_orderOf_63 ?_
    refine J_callVi cw_D_110 nh_N_order pn_N_order rfl rfl (by omega) (cF_N (by decide) ((va_up_ne _ _ (by decide)).trans (va_up_self ..))) (As := [.ref (ad 29)]) (rest := []) rfl (Nat.le_of_ble_eq_true rfl) ⟨by decide, by decide⟩ rfl ⟨by decide, by decide⟩ d_D_orderOf_66 (n_order hfl (F0 := F0) (W := va_up (va_up W 27 (xp * yq)) 29 (xq * yp)) (K := K) (S := S) (k := 27) (m := 29) (hN := by omega) (hW := hW112) (hk := (by decide)) (hm := (by decide)) (x := xp * yq) (hx := ((va_up_ne _ _ (by decide)).trans (va_up_self ..))) (y := xq * yp) (hy := (va_up_self ..))) (fun z115 F1 hq => ?_)
    obtain ⟨hz115, eF1⟩ := hq
    refine J_eqF eF1 ?_
    refine J_topi (r := cmpN (xp * yq) (xq * yp)) (congrArg iI hz115) ?_
    refine J_aload_n 1 d_D_orderOf_69 rfl rfl ?_
    refine gf_D_69 (by omega) (cF_U hp rfl rfl) rfl d_D_orderOf_70 ?_
    refine J_imul d_D_orderOf_73 ?_
    refine J_iret rfl rfl d_D_orderOf_74 ⟨by decide, by decide⟩ ?_
    exact ⟨_, rfl, rfl, rfl, by rw [if_pos (by omega)], _, hW112, fun j j1 j2 => (show (va_up (va_up W 27 (xp * yq)) 29 (xq * yp)) j = W j from by rw [va_up_ne _ _ (by omega), va_up_ne _ _ (by omega)]), rfl⟩
  · refine J_aload_n 1 d_D_orderOf_11 rfl rfl ?_
    refine gf_D_69 (by omega) (cF_U hp rfl rfl) rfl d_D_orderOf_12 ?_
    refine J_aload_n 2 d_D_orderOf_15 rfl rfl ?_
    refine gf_D_69 (by omega) (cF_U hq rfl rfl) rfl d_D_orderOf_16 ?_
    refine J_if_icmpge (tgt := 26) d_D_orderOf_19 (by decide) ⟨by omega, by omega⟩ ⟨by omega, by omega⟩ (fun c19 => ?_) (fun c19 => ?_)
    · refine J_iconst d_D_orderOf_26 ?_
      refine J_iret rfl rfl d_D_orderOf_27 ⟨by decide, by decide⟩ ?_
      first
      | exact ⟨_, rfl, rfl, rfl, by rw [if_neg (by omega), if_pos (by omega)], W, hW, fun _ _ _ => rfl, rfl⟩
      | exact ⟨_, rfl, rfl, rfl, by rw [if_neg (by omega), if_neg (by omega)], W, hW, fun _ _ _ => rfl, rfl⟩
    · refine J_iconst d_D_orderOf_22 ?_
      refine J_goto (tgt := 27) d_D_orderOf_23 (by decide) ?_
      refine J_iret rfl rfl d_D_orderOf_27 ⟨by decide, by decide⟩ ?_
      first
      | exact ⟨_, rfl, rfl, rfl, by rw [if_neg (by omega), if_pos (by omega)], W, hW, fun _ _ _ => rfl, rfl⟩
      | exact ⟨_, rfl, rfl, rfl, by rw [if_neg (by omega), if_neg (by omega)], W, hW, fun _ _ _ => rfl, rfl⟩
set_option maxRecDepth 100000 in
set_option maxHeartbeats 4000000 in
theorem c_D_multiplyModulo {l : Launch} (hfl : l.flags = flags0) {D : va_G} {g : Nat → ClassId} {ad : Nat → Nat} {N : Nat} {F0 : Nat → va_E} {W : Nat → Nat} {K S : Nat → Int} {f x y m : Nat}
    (hN : 109 ≤ N) (hW : bW W) (hDk : F0 9 = oD ad) (hf : isN f) (hf2 : f = 11 ∨ f = 37) (hx : W 11 = x) (hy : W f = y) (hm : W 39 = m) (hm0 : 0 < m) (hmb : m < 2 ^ 200) (hxm : x < m ∧ y < m) :
    JC l y_D_multiplyModulo b_D_multiplyModulo 2 (Option.none : Option Jvm.ClassFile.FieldType) rm_D_multiplyModulo (0, 0) D jCl (jTys g) ad N (cF ad g F0 W K S) [.ref (ad 9), .ref (ad f)] (jv ad N (fun F' => ∃ W' : Nat → Nat, bW W' ∧ (∀ j, j ≠ 11 → j ≠ 25 → j ≠ 27 → W' j = W j) ∧ W' 11 = x * y % m ∧ F' = cF ad g F0 W' K S)) := by
  have hxy : x * y < 2 ^ 400 := Nat.lt_of_lt_of_le (Nat.mul_lt_mul'' (Nat.lt_trans hxm.1 hmb) (Nat.lt_trans hxm.2 hmb)) (by decide)
  refine JC.go hfl (own := "NumberTower$Desk") (lv := [(0, .ref (ad 9)), (1, .ref (ad f))]) rfl (by decide +kernel) (Nat.le_of_ble_eq_true rfl) rfl (fun A => ?_)
  refine J_aload_n 0 d_D_multiplyModulo_0 rfl rfl ?_
  refine gf_D_31 (by omega) ((cF_0 (by decide)).trans hDk) rfl d_D_multiplyModulo_1 ?_
  refine J_aload_n 0 d_D_multiplyModulo_4 rfl rfl ?_
  refine gf_D_12 (by omega) ((cF_0 (by decide)).trans hDk) rfl d_D_multiplyModulo_5 ?_
  refine gf_D_76 (by omega) (cF_U (by decide) rfl rfl) rfl d_D_multiplyModulo_8 ?_
  refine J_aload_n 1 d_D_multiplyModulo_11 rfl rfl ?_
  refine J_callVv cw_D_97 nh_N_setProduct pn_N_setProduct rfl rfl (by omega) (cF_N (by decide) rfl) (As := [.ref (ad 11), .ref (ad f)]) (rest := []) rfl (Nat.le_of_ble_eq_true rfl) ⟨by decide, by decide⟩ rfl ⟨by decide, by decide⟩ d_D_multiplyModulo_12 (n_setProduct hfl (F0 := F0) (W := W) (K := K) (S := S) (k := 27) (m := 11) (p := f) (hN := by omega) (hW := hW) (hk := (by decide)) (hm := (by decide)) (hp := hf) (x := x) (hx := hx) (y := y) (hy := hy) (hd := (by decide)) (hd2 := (by omega)) (ht := Nat.lt_trans hxy (by decide))) (fun  F119 hq => ?_)
  obtain ⟨hW117, eF118⟩ := hq
  refine J_eqF (F2 := cF ad g F0 (va_up W 27 (x * y)) K S) eF118 ?_
  refine J_aload_n 0 d_D_multiplyModulo_15 rfl rfl ?_
  refine gf_D_31 (by omega) ((cF_0 (by decide)).trans hDk) rfl d_D_multiplyModulo_16 ?_
  refine J_aload_n 0 d_D_multiplyModulo_19 rfl rfl ?_
  refine gf_D_49 (by omega) ((cF_0 (by decide)).trans hDk) rfl d_D_multiplyModulo_20 ?_
  refine J_aload_n 0 d_D_multiplyModulo_23 rfl rfl ?_
  refine gf_D_27 (by omega) ((cF_0 (by decide)).trans hDk) rfl d_D_multiplyModulo_24 ?_
  refine J_callVv cw_D_117 nh_N_divide pn_N_divide rfl rfl (by omega) (cF_N (by decide) (va_up_self ..)) (As := [.ref (ad 39), .ref (ad 25)]) (rest := []) rfl (Nat.le_of_ble_eq_true rfl) ⟨by decide, by decide⟩ rfl ⟨by decide, by decide⟩ d_D_multiplyModulo_27 (n_divide hfl (F0 := F0) (W := va_up W 27 (x * y)) (K := K) (S := S) (k := 27) (m := 39) (p := 25) (hN := by omega) (hW := hW117) (hk := (by decide)) (hm := (by decide)) (hp := (by decide)) (x := x * y) (hx := (va_up_self ..)) (y := m) (hy := ((va_up_ne _ _ (by decide)).trans hm)) (hd := (by decide)) (hd1 := (by decide)) (hd2 := (by decide)) (hx4 := Nat.lt_trans hxy (by decide)) (hy4 := Nat.lt_trans hmb (by decide))) (fun  F123 hq => ?_)
  obtain ⟨hW121, eF122⟩ := hq
  have hW124 := (congrArg bW (up_in1 (by decide))).mp hW121
  refine J_eqF (F2 := cF ad g F0 (va_up (va_up W 27 ((x * y) % m)) 25 ((x * y) / m)) K S) (eF122.trans (congrArg (fun qq => cF ad g F0 qq K S) (up_in1 (by decide)))) ?_
  refine J_aload_n 0 d_D_multiplyModulo_30 rfl rfl ?_
  refine gf_D_12 (by omega) ((cF_0 (by decide)).trans hDk) rfl d_D_multiplyModulo_31 ?_
  refine gf_D_76 (by omega) (cF_U (by decide) rfl rfl) rfl d_D_multiplyModulo_34 ?_
  refine J_aload_n 0 d_D_multiplyModulo_37 rfl rfl ?_
  refine gf_D_31 (by omega) ((cF_0 (by decide)).trans hDk) rfl d_D_multiplyModulo_38 ?_
  refine J_callVv cw_D_89 nh_N_copyFrom pn_N_copyFrom rfl rfl (by omega) (cF_N (by decide) ((va_up_ne _ _ (by decide)).trans ((va_up_ne _ _ (by decide)).trans hx))) (As := [.ref (ad 27)]) (rest := []) rfl (Nat.le_of_ble_eq_true rfl) ⟨by decide, by decide⟩ rfl ⟨by decide, by decide⟩ d_D_multiplyModulo_41 (n_copyFrom hfl (F0 := F0) (W := va_up (va_up W 27 ((x * y) % m)) 25 ((x * y) / m)) (K := K) (S := S) (k := 11) (m := 27) (hN := by omega) (hW := hW124) (hk := (by decide)) (hm := (by decide)) (x := (x * y) % m) (hx := ((va_up_ne _ _ (by decide)).trans (va_up_self ..))) (hd := (by decide))) (fun  F128 hq => ?_)
  obtain ⟨hW126, eF127⟩ := hq
  refine J_eqF (F2 := cF ad g F0 (va_up (va_up (va_up W 27 ((x * y) % m)) 25 ((x * y) / m)) 11 ((x * y) % m)) K S) eF127 ?_
  refine J_vret rfl d_D_multiplyModulo_44 ⟨by decide, by decide⟩ ?_
  exact ⟨rfl, rfl, rfl, _, hW126, fun j j1 j2 j3 => (show (va_up (va_up (va_up W 27 ((x * y) % m)) 25 ((x * y) / m)) 11 ((x * y) % m)) j = W j from by rw [va_up_ne _ _ (by omega), va_up_ne _ _ (by omega), va_up_ne _ _ (by omega)]), (va_up_self ..), rfl⟩
