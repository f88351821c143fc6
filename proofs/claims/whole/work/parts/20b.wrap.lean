/-! the law's wrappers: an answer laid into the array, or a number for what was thrown -/
set_option maxRecDepth 100000 in
set_option maxHeartbeats 4000000 in
theorem c_L_read {l : Launch} (hfl : l.flags = flags0) {D : va_G} {g : Nat → ClassId} {ad : Nat → Nat} {N : Nat} {F : Nat → va_E} {p0 : Int} {A : Int → (Nat → va_E) → Prop} {B : Nat → (Nat → va_E) → Prop} {h0 : Nat → Int64} {fs : List Value} (hN : 109 ≤ N) (hF0 : F 0 = .inr (0, fs)) (hA : ∀ z F1, A z F1 → F1 108 = .inl (g 5, 1, .inr (.inl h0))) (hB : ∀ k F1, B k F1 → k = 0 ∨ k = 1 ∨ k = 2)
    (hC : JC l y_X_read b_X_read 3 (Option.some Jvm.ClassFile.FieldType.int) rm_X_read (0, 0) D jCl (jTys g) ad N F [.ref (ad 0), .int (iI p0)] (jix ad N A B)) :
    JG l y_L_read (Cond.codeWith y_L_read b_L_read 4 (Option.some FieldType.int) [(0, 9, 12, 13), (0, 9, 15, 15), (0, 9, 18, 17)]) rm_L_read (1, 6) D jCl (jTys g) ad N F [.ref (ad 0), .int (iI p0), .ref (ad 108)] (fun _ => True) (ji ad N (fun z F' => (z = 0 ∧ ∃ z1 F1, A z1 F1 ∧ F' = va_up F1 108 (.inl (g 5, 1, .inr (.inl (va_up h0 0 (lI (iI z1).toInt)))))) ∨ ∃ k : Nat, B k F' ∧ z = (k : Int) + 1)) := by
  refine JG.introW hfl (own := "NumberTowerLaw") (lv := [(0, .ref (ad 0)), (1, .int (iI p0)), (2, .ref (ad 108))]) rfl (by decide +kernel) (Nat.le_of_ble_eq_true rfl) rfl (fun A9 => ?_)
  refine JW_aload_n 2 d_L_read_0 rfl rfl ?_
  refine JW_iconst d_L_read_1 ?_
  refine JW_aload_n 0 d_L_read_2 rfl rfl ?_
  refine JW_iload_n 1 d_L_read_3 rfl rfl ?_
  refine JW_callV cw_L_7 nh_X_read pn_X_read rfl rfl (by omega) hF0 (As := [.int (iI p0)]) (rest := [.int (iI 0), .ref (ad 108)]) rfl (Nat.le_of_ble_eq_true rfl) ⟨by decide, by decide⟩ ⟨by decide, by decide⟩ d_L_read_4 hC (fun v a2 N2 F2 hq => ?_) (fun k a2 N2 F2 hq => ?_)
  · rcases hq with ⟨z, hz, rfl, rfl, hq⟩ | ⟨k, hz, -⟩
    · cases hz
      have h108 := hA _ _ hq
      refine JW_topi (iI_of (iI z)).symm ?_
      refine JW_i2l d_L_read_7 (iI_rng (iI z)) ?_
      refine JW_lastore 5 rfl (by omega) h108 ⟨by decide, by decide, by decide⟩ d_L_read_8 ?_
      refine JW_goto (tgt := 21) d_L_read_9 (by decide) ?_
      refine JW_iconst d_L_read_21 ?_
      refine JW_iret rfl rfl d_L_read_22 ⟨by decide, by decide⟩ ?_
      exact ⟨0, rfl, rfl, rfl, Or.inl ⟨rfl, _, _, hq, rfl⟩⟩
    · cases hz
  · rcases hq with ⟨z, hz, -⟩ | ⟨k2, hz, ha2, hn2, hq⟩
    · cases hz
    · cases hz
      replace ha2 := ha2.symm
      replace hn2 := hn2.symm
      subst ha2
      subst hn2
      rcases hB _ _ hq with rfl | rfl | rfl
      · refine ⟨12, ⟨[], (0, 9, 12, 13), [(0, 9, 15, 15), (0, 9, 18, 17)], rfl, rfl, fun _ h => absurd h List.not_mem_nil, ⟨by decide, by decide⟩, by decide, wd_492, List.mem_of_getElem? (i := 0) rfl⟩, fun x => ?_⟩
        refine JW_astore_n (lv' := [(3, .ref x), (0, .ref (ad 0)), (1, .int (iI p0)), (2, .ref (ad 108))]) d_L_read_12 rfl (by decide) rfl ?_
        refine JW_iconst d_L_read_13 ?_
        refine JW_iret rfl rfl d_L_read_14 ⟨by decide, by decide⟩ ?_
        exact ⟨_, rfl, rfl, rfl, Or.inr ⟨0, hq, rfl⟩⟩
      · refine ⟨15, ⟨[(0, 9, 12, 13)], (0, 9, 15, 15), [(0, 9, 18, 17)], rfl, rfl, List.forall_mem_cons.mpr ⟨⟨⟨by decide, by decide⟩, by decide, 0, wd_492, List.mem_of_getElem? (i := 0) rfl⟩, fun _ h => absurd h List.not_mem_nil⟩, ⟨by decide, by decide⟩, by decide, wd_493, List.mem_of_getElem? (i := 1) rfl⟩, fun x => ?_⟩
        refine JW_astore_n (lv' := [(3, .ref x), (0, .ref (ad 0)), (1, .int (iI p0)), (2, .ref (ad 108))]) d_L_read_15 rfl (by decide) rfl ?_
        refine JW_iconst d_L_read_16 ?_
        refine JW_iret rfl rfl d_L_read_17 ⟨by decide, by decide⟩ ?_
        exact ⟨_, rfl, rfl, rfl, Or.inr ⟨1, hq, rfl⟩⟩
      · refine ⟨18, ⟨[(0, 9, 12, 13), (0, 9, 15, 15)], (0, 9, 18, 17), [], rfl, rfl, List.forall_mem_cons.mpr ⟨⟨⟨by decide, by decide⟩, by decide, 0, wd_492, List.mem_of_getElem? (i := 1) rfl⟩, List.forall_mem_cons.mpr ⟨⟨⟨by decide, by decide⟩, by decide, 1, wd_493, List.mem_of_getElem? (i := 2) rfl⟩, fun _ h => absurd h List.not_mem_nil⟩⟩, ⟨by decide, by decide⟩, by decide, wd_494, List.mem_of_getElem? (i := 2) rfl⟩, fun x => ?_⟩
        refine JW_astore_n (lv' := [(3, .ref x), (0, .ref (ad 0)), (1, .int (iI p0)), (2, .ref (ad 108))]) d_L_read_18 rfl (by decide) rfl ?_
        refine JW_iconst d_L_read_19 ?_
        refine JW_iret rfl rfl d_L_read_20 ⟨by decide, by decide⟩ ?_
        exact ⟨_, rfl, rfl, rfl, Or.inr ⟨2, hq, rfl⟩⟩
set_option maxRecDepth 100000 in
set_option maxHeartbeats 4000000 in
theorem c_L_combine {l : Launch} (hfl : l.flags = flags0) {D : va_G} {g : Nat → ClassId} {ad : Nat → Nat} {N : Nat} {F : Nat → va_E} {p0 p1 p2 p3 : Int} {A : Int → (Nat → va_E) → Prop} {B : Nat → (Nat → va_E) → Prop} {h0 : Nat → Int64} {fs : List Value} (hN : 109 ≤ N) (hF0 : F 0 = .inr (0, fs)) (hA : ∀ z F1, A z F1 → F1 108 = .inl (g 5, 1, .inr (.inl h0))) (hB : ∀ k F1, B k F1 → k = 0 ∨ k = 1 ∨ k = 2)
    (hC : JC l y_X_combine b_X_combine 7 (Option.some Jvm.ClassFile.FieldType.int) rm_X_combine (0, 0) D jCl (jTys g) ad N F [.ref (ad 0), .int (iI p0), .int (iI p1), .int (iI p2), .int (iI p3)] (jix ad N A B)) :
    JG l y_L_combine (Cond.codeWith y_L_combine b_L_combine 7 (Option.some FieldType.int) [(0, 14, 17, 13), (0, 14, 21, 15), (0, 14, 25, 17)]) rm_L_combine (1, 6) D jCl (jTys g) ad N F [.ref (ad 0), .int (iI p0), .int (iI p1), .int (iI p2), .int (iI p3), .ref (ad 108)] (fun _ => True) (ji ad N (fun z F' => (z = 0 ∧ ∃ z1 F1, A z1 F1 ∧ F' = va_up F1 108 (.inl (g 5, 1, .inr (.inl (va_up h0 0 (lI (iI z1).toInt)))))) ∨ ∃ k : Nat, B k F' ∧ z = (k : Int) + 1)) := by
  refine JG.introW hfl (own := "NumberTowerLaw") (lv := [(0, .ref (ad 0)), (1, .int (iI p0)), (2, .int (iI p1)), (3, .int (iI p2)), (4, .int (iI p3)), (5, .ref (ad 108))]) rfl (by decide +kernel) (Nat.le_of_ble_eq_true rfl) rfl (fun A9 => ?_)
  refine JW_aload 5 d_L_combine_0 rfl ?_
  refine JW_iconst d_L_combine_2 ?_
  refine JW_aload_n 0 d_L_combine_3 rfl rfl ?_
  refine JW_iload_n 1 d_L_combine_4 rfl rfl ?_
  refine JW_iload_n 2 d_L_combine_5 rfl rfl ?_
  refine JW_iload_n 3 d_L_combine_6 rfl rfl ?_
  refine JW_iload 4 d_L_combine_7 rfl ?_
  refine JW_callV cw_L_19 nh_X_combine pn_X_combine rfl rfl (by omega) hF0 (As := [.int (iI p0), .int (iI p1), .int (iI p2), .int (iI p3)]) (rest := [.int (iI 0), .ref (ad 108)]) rfl (Nat.le_of_ble_eq_true rfl) ⟨by decide, by decide⟩ ⟨by decide, by decide⟩ d_L_combine_9 hC (fun v a2 N2 F2 hq => ?_) (fun k a2 N2 F2 hq => ?_)
  · rcases hq with ⟨z, hz, rfl, rfl, hq⟩ | ⟨k, hz, -⟩
    · cases hz
      have h108 := hA _ _ hq
      refine JW_topi (iI_of (iI z)).symm ?_
      refine JW_i2l d_L_combine_12 (iI_rng (iI z)) ?_
      refine JW_lastore 5 rfl (by omega) h108 ⟨by decide, by decide, by decide⟩ d_L_combine_13 ?_
      refine JW_goto (tgt := 29) d_L_combine_14 (by decide) ?_
      refine JW_iconst d_L_combine_29 ?_
      refine JW_iret rfl rfl d_L_combine_30 ⟨by decide, by decide⟩ ?_
      exact ⟨0, rfl, rfl, rfl, Or.inl ⟨rfl, _, _, hq, rfl⟩⟩
    · cases hz
  · rcases hq with ⟨z, hz, -⟩ | ⟨k2, hz, ha2, hn2, hq⟩
    · cases hz
    · cases hz
      replace ha2 := ha2.symm
      replace hn2 := hn2.symm
      subst ha2
      subst hn2
      rcases hB _ _ hq with rfl | rfl | rfl
      · refine ⟨17, ⟨[], (0, 14, 17, 13), [(0, 14, 21, 15), (0, 14, 25, 17)], rfl, rfl, fun _ h => absurd h List.not_mem_nil, ⟨by decide, by decide⟩, by decide, wd_492, List.mem_of_getElem? (i := 0) rfl⟩, fun x => ?_⟩
        refine JW_astore (lv' := [(6, .ref x), (0, .ref (ad 0)), (1, .int (iI p0)), (2, .int (iI p1)), (3, .int (iI p2)), (4, .int (iI p3)), (5, .ref (ad 108))]) d_L_combine_17 (by decide) rfl ?_
        refine JW_iconst d_L_combine_19 ?_
        refine JW_iret rfl rfl d_L_combine_20 ⟨by decide, by decide⟩ ?_
        exact ⟨_, rfl, rfl, rfl, Or.inr ⟨0, hq, rfl⟩⟩
      · refine ⟨21, ⟨[(0, 14, 17, 13)], (0, 14, 21, 15), [(0, 14, 25, 17)], rfl, rfl, List.forall_mem_cons.mpr ⟨⟨⟨by decide, by decide⟩, by decide, 0, wd_492, List.mem_of_getElem? (i := 0) rfl⟩, fun _ h => absurd h List.not_mem_nil⟩, ⟨by decide, by decide⟩, by decide, wd_493, List.mem_of_getElem? (i := 1) rfl⟩, fun x => ?_⟩
        refine JW_astore (lv' := [(6, .ref x), (0, .ref (ad 0)), (1, .int (iI p0)), (2, .int (iI p1)), (3, .int (iI p2)), (4, .int (iI p3)), (5, .ref (ad 108))]) d_L_combine_21 (by decide) rfl ?_
        refine JW_iconst d_L_combine_23 ?_
        refine JW_iret rfl rfl d_L_combine_24 ⟨by decide, by decide⟩ ?_
        exact ⟨_, rfl, rfl, rfl, Or.inr ⟨1, hq, rfl⟩⟩
      · refine ⟨25, ⟨[(0, 14, 17, 13), (0, 14, 21, 15)], (0, 14, 25, 17), [], rfl, rfl, List.forall_mem_cons.mpr ⟨⟨⟨by decide, by decide⟩, by decide, 0, wd_492, List.mem_of_getElem? (i := 1) rfl⟩, List.forall_mem_cons.mpr ⟨⟨⟨by decide, by decide⟩, by decide, 1, wd_493, List.mem_of_getElem? (i := 2) rfl⟩, fun _ h => absurd h List.not_mem_nil⟩⟩, ⟨by decide, by decide⟩, by decide, wd_494, List.mem_of_getElem? (i := 2) rfl⟩, fun x => ?_⟩
        refine JW_astore (lv' := [(6, .ref x), (0, .ref (ad 0)), (1, .int (iI p0)), (2, .int (iI p1)), (3, .int (iI p2)), (4, .int (iI p3)), (5, .ref (ad 108))]) d_L_combine_25 (by decide) rfl ?_
        refine JW_iconst d_L_combine_27 ?_
        refine JW_iret rfl rfl d_L_combine_28 ⟨by decide, by decide⟩ ?_
        exact ⟨_, rfl, rfl, rfl, Or.inr ⟨2, hq, rfl⟩⟩
set_option maxRecDepth 100000 in
set_option maxHeartbeats 4000000 in
theorem c_L_power {l : Launch} (hfl : l.flags = flags0) {D : va_G} {g : Nat → ClassId} {ad : Nat → Nat} {N : Nat} {F : Nat → va_E} {p0 p1 p2 p3 : Int} {A : Int → (Nat → va_E) → Prop} {B : Nat → (Nat → va_E) → Prop} {h0 : Nat → Int64} {fs : List Value} (hN : 109 ≤ N) (hF0 : F 0 = .inr (0, fs)) (hA : ∀ z F1, A z F1 → F1 108 = .inl (g 5, 1, .inr (.inl h0))) (hB : ∀ k F1, B k F1 → k = 0 ∨ k = 1)
    (hC : JC l y_X_power b_X_power 9 (Option.some Jvm.ClassFile.FieldType.int) rm_X_power (0, 0) D jCl (jTys g) ad N F [.ref (ad 0), .int (iI p0), .int (iI p1), .int (iI p2), .int (iI p3)] (jix ad N A B)) :
    JG l y_L_power (Cond.codeWith y_L_power b_L_power 7 (Option.some FieldType.int) [(0, 14, 17, 13), (0, 14, 21, 15)]) rm_L_power (1, 6) D jCl (jTys g) ad N F [.ref (ad 0), .int (iI p0), .int (iI p1), .int (iI p2), .int (iI p3), .ref (ad 108)] (fun _ => True) (ji ad N (fun z F' => (z = 0 ∧ ∃ z1 F1, A z1 F1 ∧ F' = va_up F1 108 (.inl (g 5, 1, .inr (.inl (va_up h0 0 (lI (iI z1).toInt)))))) ∨ ∃ k : Nat, B k F' ∧ z = (k : Int) + 1)) := by
  refine JG.introW hfl (own := "NumberTowerLaw") (lv := [(0, .ref (ad 0)), (1, .int (iI p0)), (2, .int (iI p1)), (3, .int (iI p2)), (4, .int (iI p3)), (5, .ref (ad 108))]) rfl (by decide +kernel) (Nat.le_of_ble_eq_true rfl) rfl (fun A9 => ?_)
  refine JW_aload 5 d_L_power_0 rfl ?_
  refine JW_iconst d_L_power_2 ?_
  refine JW_aload_n 0 d_L_power_3 rfl rfl ?_
  refine JW_iload_n 1 d_L_power_4 rfl rfl ?_
  refine JW_iload_n 2 d_L_power_5 rfl rfl ?_
  refine JW_iload_n 3 d_L_power_6 rfl rfl ?_
  refine JW_iload 4 d_L_power_7 rfl ?_
  refine JW_callV cw_L_23 nh_X_power pn_X_power rfl rfl (by omega) hF0 (As := [.int (iI p0), .int (iI p1), .int (iI p2), .int (iI p3)]) (rest := [.int (iI 0), .ref (ad 108)]) rfl (Nat.le_of_ble_eq_true rfl) ⟨by decide, by decide⟩ ⟨by decide, by decide⟩ d_L_power_9 hC (fun v a2 N2 F2 hq => ?_) (fun k a2 N2 F2 hq => ?_)
  · rcases hq with ⟨z, hz, rfl, rfl, hq⟩ | ⟨k, hz, -⟩
    · cases hz
      have h108 := hA _ _ hq
      refine JW_topi (iI_of (iI z)).symm ?_
      refine JW_i2l d_L_power_12 (iI_rng (iI z)) ?_
      refine JW_lastore 5 rfl (by omega) h108 ⟨by decide, by decide, by decide⟩ d_L_power_13 ?_
      refine JW_goto (tgt := 25) d_L_power_14 (by decide) ?_
      refine JW_iconst d_L_power_25 ?_
      refine JW_iret rfl rfl d_L_power_26 ⟨by decide, by decide⟩ ?_
      exact ⟨0, rfl, rfl, rfl, Or.inl ⟨rfl, _, _, hq, rfl⟩⟩
    · cases hz
  · rcases hq with ⟨z, hz, -⟩ | ⟨k2, hz, ha2, hn2, hq⟩
    · cases hz
    · cases hz
      replace ha2 := ha2.symm
      replace hn2 := hn2.symm
      subst ha2
      subst hn2
      rcases hB _ _ hq with rfl | rfl
      · refine ⟨17, ⟨[], (0, 14, 17, 13), [(0, 14, 21, 15)], rfl, rfl, fun _ h => absurd h List.not_mem_nil, ⟨by decide, by decide⟩, by decide, wd_492, List.mem_of_getElem? (i := 0) rfl⟩, fun x => ?_⟩
        refine JW_astore (lv' := [(6, .ref x), (0, .ref (ad 0)), (1, .int (iI p0)), (2, .int (iI p1)), (3, .int (iI p2)), (4, .int (iI p3)), (5, .ref (ad 108))]) d_L_power_17 (by decide) rfl ?_
        refine JW_iconst d_L_power_19 ?_
        refine JW_iret rfl rfl d_L_power_20 ⟨by decide, by decide⟩ ?_
        exact ⟨_, rfl, rfl, rfl, Or.inr ⟨0, hq, rfl⟩⟩
      · refine ⟨21, ⟨[(0, 14, 17, 13)], (0, 14, 21, 15), [], rfl, rfl, List.forall_mem_cons.mpr ⟨⟨⟨by decide, by decide⟩, by decide, 0, wd_492, List.mem_of_getElem? (i := 0) rfl⟩, fun _ h => absurd h List.not_mem_nil⟩, ⟨by decide, by decide⟩, by decide, wd_493, List.mem_of_getElem? (i := 1) rfl⟩, fun x => ?_⟩
        refine JW_astore (lv' := [(6, .ref x), (0, .ref (ad 0)), (1, .int (iI p0)), (2, .int (iI p1)), (3, .int (iI p2)), (4, .int (iI p3)), (5, .ref (ad 108))]) d_L_power_21 (by decide) rfl ?_
        refine JW_iconst d_L_power_23 ?_
        refine JW_iret rfl rfl d_L_power_24 ⟨by decide, by decide⟩ ?_
        exact ⟨_, rfl, rfl, rfl, Or.inr ⟨1, hq, rfl⟩⟩
set_option maxRecDepth 100000 in
set_option maxHeartbeats 4000000 in
theorem c_L_turn {l : Launch} (hfl : l.flags = flags0) {D : va_G} {g : Nat → ClassId} {ad : Nat → Nat} {N : Nat} {F : Nat → va_E} {p0 p1 p2 : Int} {A : Int → (Nat → va_E) → Prop} {B : Nat → (Nat → va_E) → Prop} {h0 : Nat → Int64} {fs : List Value} (hN : 109 ≤ N) (hF0 : F 0 = .inr (0, fs)) (hA : ∀ z F1, A z F1 → F1 108 = .inl (g 5, 1, .inr (.inl h0))) (hB : ∀ k F1, B k F1 → k = 0 ∨ k = 2)
    (hC : JC l y_X_turn b_X_turn 5 (Option.some Jvm.ClassFile.FieldType.int) rm_X_turn (0, 0) D jCl (jTys g) ad N F [.ref (ad 0), .int (iI p0), .int (iI p1), .int (iI p2)] (jix ad N A B)) :
    JG l y_L_turn (Cond.codeWith y_L_turn b_L_turn 6 (Option.some FieldType.int) [(0, 12, 15, 13), (0, 12, 19, 17)]) rm_L_turn (1, 6) D jCl (jTys g) ad N F [.ref (ad 0), .int (iI p0), .int (iI p1), .int (iI p2), .ref (ad 108)] (fun _ => True) (ji ad N (fun z F' => (z = 0 ∧ ∃ z1 F1, A z1 F1 ∧ F' = va_up F1 108 (.inl (g 5, 1, .inr (.inl (va_up h0 0 (lI (iI z1).toInt)))))) ∨ ∃ k : Nat, B k F' ∧ z = (if (k : Int) = 0 then 1 else 2))) := by
  refine JG.introW hfl (own := "NumberTowerLaw") (lv := [(0, .ref (ad 0)), (1, .int (iI p0)), (2, .int (iI p1)), (3, .int (iI p2)), (4, .ref (ad 108))]) rfl (by decide +kernel) (Nat.le_of_ble_eq_true rfl) rfl (fun A9 => ?_)
  refine JW_aload 4 d_L_turn_0 rfl ?_
  refine JW_iconst d_L_turn_2 ?_
  refine JW_aload_n 0 d_L_turn_3 rfl rfl ?_
  refine JW_iload_n 1 d_L_turn_4 rfl rfl ?_
  refine JW_iload_n 2 d_L_turn_5 rfl rfl ?_
  refine JW_iload_n 3 d_L_turn_6 rfl rfl ?_
  refine JW_callV cw_L_26 nh_X_turn pn_X_turn rfl rfl (by omega) hF0 (As := [.int (iI p0), .int (iI p1), .int (iI p2)]) (rest := [.int (iI 0), .ref (ad 108)]) rfl (Nat.le_of_ble_eq_true rfl) ⟨by decide, by decide⟩ ⟨by decide, by decide⟩ d_L_turn_7 hC (fun v a2 N2 F2 hq => ?_) (fun k a2 N2 F2 hq => ?_)
  · rcases hq with ⟨z, hz, rfl, rfl, hq⟩ | ⟨k, hz, -⟩
    · cases hz
      have h108 := hA _ _ hq
      refine JW_topi (iI_of (iI z)).symm ?_
      refine JW_i2l d_L_turn_10 (iI_rng (iI z)) ?_
      refine JW_lastore 5 rfl (by omega) h108 ⟨by decide, by decide, by decide⟩ d_L_turn_11 ?_
      refine JW_goto (tgt := 23) d_L_turn_12 (by decide) ?_
      refine JW_iconst d_L_turn_23 ?_
      refine JW_iret rfl rfl d_L_turn_24 ⟨by decide, by decide⟩ ?_
      exact ⟨0, rfl, rfl, rfl, Or.inl ⟨rfl, _, _, hq, rfl⟩⟩
    · cases hz
  · rcases hq with ⟨z, hz, -⟩ | ⟨k2, hz, ha2, hn2, hq⟩
    · cases hz
    · cases hz
      replace ha2 := ha2.symm
      replace hn2 := hn2.symm
      subst ha2
      subst hn2
      rcases hB _ _ hq with rfl | rfl
      · refine ⟨15, ⟨[], (0, 12, 15, 13), [(0, 12, 19, 17)], rfl, rfl, fun _ h => absurd h List.not_mem_nil, ⟨by decide, by decide⟩, by decide, wd_492, List.mem_of_getElem? (i := 0) rfl⟩, fun x => ?_⟩
        refine JW_astore (lv' := [(5, .ref x), (0, .ref (ad 0)), (1, .int (iI p0)), (2, .int (iI p1)), (3, .int (iI p2)), (4, .ref (ad 108))]) d_L_turn_15 (by decide) rfl ?_
        refine JW_iconst d_L_turn_17 ?_
        refine JW_iret rfl rfl d_L_turn_18 ⟨by decide, by decide⟩ ?_
        exact ⟨_, rfl, rfl, rfl, Or.inr ⟨0, hq, rfl⟩⟩
      · refine ⟨19, ⟨[(0, 12, 15, 13)], (0, 12, 19, 17), [], rfl, rfl, List.forall_mem_cons.mpr ⟨⟨⟨by decide, by decide⟩, by decide, 0, wd_492, List.mem_of_getElem? (i := 1) rfl⟩, fun _ h => absurd h List.not_mem_nil⟩, ⟨by decide, by decide⟩, by decide, wd_494, List.mem_of_getElem? (i := 2) rfl⟩, fun x => ?_⟩
        refine JW_astore (lv' := [(5, .ref x), (0, .ref (ad 0)), (1, .int (iI p0)), (2, .int (iI p1)), (3, .int (iI p2)), (4, .ref (ad 108))]) d_L_turn_19 (by decide) rfl ?_
        refine JW_iconst d_L_turn_21 ?_
        refine JW_iret rfl rfl d_L_turn_22 ⟨by decide, by decide⟩ ?_
        exact ⟨_, rfl, rfl, rfl, Or.inr ⟨2, hq, rfl⟩⟩
set_option maxRecDepth 100000 in
set_option maxHeartbeats 4000000 in
theorem c_L_round {l : Launch} (hfl : l.flags = flags0) {D : va_G} {g : Nat → ClassId} {ad : Nat → Nat} {N : Nat} {F : Nat → va_E} {p0 p1 p2 : Int} {A : Int → (Nat → va_E) → Prop} {B : Nat → (Nat → va_E) → Prop} {h0 : Nat → Int64} {fs : List Value} (hN : 109 ≤ N) (hF0 : F 0 = .inr (0, fs)) (hA : ∀ z F1, A z F1 → F1 108 = .inl (g 5, 1, .inr (.inl h0))) (hB : ∀ k F1, B k F1 → k = 0 ∨ k = 2)
    (hC : JC l y_X_round b_X_round 5 (Option.some Jvm.ClassFile.FieldType.int) rm_X_round (0, 0) D jCl (jTys g) ad N F [.ref (ad 0), .int (iI p0), .int (iI p1), .int (iI p2)] (jix ad N A B)) :
    JG l y_L_round (Cond.codeWith y_L_round b_L_round 6 (Option.some FieldType.int) [(0, 12, 15, 13), (0, 12, 19, 17)]) rm_L_round (1, 6) D jCl (jTys g) ad N F [.ref (ad 0), .int (iI p0), .int (iI p1), .int (iI p2), .ref (ad 108)] (fun _ => True) (ji ad N (fun z F' => (z = 0 ∧ ∃ z1 F1, A z1 F1 ∧ F' = va_up F1 108 (.inl (g 5, 1, .inr (.inl (va_up h0 0 (lI (iI z1).toInt)))))) ∨ ∃ k : Nat, B k F' ∧ z = (if (k : Int) = 0 then 1 else 2))) := by
  refine JG.introW hfl (own := "NumberTowerLaw") (lv := [(0, .ref (ad 0)), (1, .int (iI p0)), (2, .int (iI p1)), (3, .int (iI p2)), (4, .ref (ad 108))]) rfl (by decide +kernel) (Nat.le_of_ble_eq_true rfl) rfl (fun A9 => ?_)
  refine JW_aload 4 d_L_round_0 rfl ?_
  refine JW_iconst d_L_round_2 ?_
  refine JW_aload_n 0 d_L_round_3 rfl rfl ?_
  refine JW_iload_n 1 d_L_round_4 rfl rfl ?_
  refine JW_iload_n 2 d_L_round_5 rfl rfl ?_
  refine JW_iload_n 3 d_L_round_6 rfl rfl ?_
  refine JW_callV cw_L_30 nh_X_round pn_X_round rfl rfl (by omega) hF0 (As := [.int (iI p0), .int (iI p1), .int (iI p2)]) (rest := [.int (iI 0), .ref (ad 108)]) rfl (Nat.le_of_ble_eq_true rfl) ⟨by decide, by decide⟩ ⟨by decide, by decide⟩ d_L_round_7 hC (fun v a2 N2 F2 hq => ?_) (fun k a2 N2 F2 hq => ?_)
  · rcases hq with ⟨z, hz, rfl, rfl, hq⟩ | ⟨k, hz, -⟩
    · cases hz
      have h108 := hA _ _ hq
      refine JW_topi (iI_of (iI z)).symm ?_
      refine JW_i2l d_L_round_10 (iI_rng (iI z)) ?_
      refine JW_lastore 5 rfl (by omega) h108 ⟨by decide, by decide, by decide⟩ d_L_round_11 ?_
      refine JW_goto (tgt := 23) d_L_round_12 (by decide) ?_
      refine JW_iconst d_L_round_23 ?_
      refine JW_iret rfl rfl d_L_round_24 ⟨by decide, by decide⟩ ?_
      exact ⟨0, rfl, rfl, rfl, Or.inl ⟨rfl, _, _, hq, rfl⟩⟩
    · cases hz
  · rcases hq with ⟨z, hz, -⟩ | ⟨k2, hz, ha2, hn2, hq⟩
    · cases hz
    · cases hz
      replace ha2 := ha2.symm
      replace hn2 := hn2.symm
      subst ha2
      subst hn2
      rcases hB _ _ hq with rfl | rfl
      · refine ⟨15, ⟨[], (0, 12, 15, 13), [(0, 12, 19, 17)], rfl, rfl, fun _ h => absurd h List.not_mem_nil, ⟨by decide, by decide⟩, by decide, wd_492, List.mem_of_getElem? (i := 0) rfl⟩, fun x => ?_⟩
        refine JW_astore (lv' := [(5, .ref x), (0, .ref (ad 0)), (1, .int (iI p0)), (2, .int (iI p1)), (3, .int (iI p2)), (4, .ref (ad 108))]) d_L_round_15 (by decide) rfl ?_
        refine JW_iconst d_L_round_17 ?_
        refine JW_iret rfl rfl d_L_round_18 ⟨by decide, by decide⟩ ?_
        exact ⟨_, rfl, rfl, rfl, Or.inr ⟨0, hq, rfl⟩⟩
      · refine ⟨19, ⟨[(0, 12, 15, 13)], (0, 12, 19, 17), [], rfl, rfl, List.forall_mem_cons.mpr ⟨⟨⟨by decide, by decide⟩, by decide, 0, wd_492, List.mem_of_getElem? (i := 1) rfl⟩, fun _ h => absurd h List.not_mem_nil⟩, ⟨by decide, by decide⟩, by decide, wd_494, List.mem_of_getElem? (i := 2) rfl⟩, fun x => ?_⟩
        refine JW_astore (lv' := [(5, .ref x), (0, .ref (ad 0)), (1, .int (iI p0)), (2, .int (iI p1)), (3, .int (iI p2)), (4, .ref (ad 108))]) d_L_round_19 (by decide) rfl ?_
        refine JW_iconst d_L_round_21 ?_
        refine JW_iret rfl rfl d_L_round_22 ⟨by decide, by decide⟩ ?_
        exact ⟨_, rfl, rfl, rfl, Or.inr ⟨2, hq, rfl⟩⟩
set_option maxRecDepth 100000 in
set_option maxHeartbeats 4000000 in
theorem c_L_sum {l : Launch} (hfl : l.flags = flags0) {D : va_G} {g : Nat → ClassId} {ad : Nat → Nat} {N : Nat} {F : Nat → va_E} {p0 p1 : Int} {A : Int → (Nat → va_E) → Prop} {B : Nat → (Nat → va_E) → Prop} {h0 : Nat → Int64} {fs : List Value} (hN : 109 ≤ N) (hF0 : F 0 = .inr (0, fs)) (hA : ∀ z F1, A z F1 → F1 108 = .inl (g 5, 1, .inr (.inl h0))) (hB : ∀ k F1, B k F1 → k = 0 ∨ k = 2)
    (hC : JC l y_X_sum b_X_sum 4 (Option.some Jvm.ClassFile.FieldType.int) rm_X_sum (0, 0) D jCl (jTys g) ad N F [.ref (ad 0), .int (iI p0), .int (iI p1)] (jix ad N A B)) :
    JG l y_L_sum (Cond.codeWith y_L_sum b_L_sum 5 (Option.some FieldType.int) [(0, 10, 13, 13), (0, 10, 17, 17)]) rm_L_sum (1, 6) D jCl (jTys g) ad N F [.ref (ad 0), .int (iI p0), .int (iI p1), .ref (ad 108)] (fun _ => True) (ji ad N (fun z F' => (z = 0 ∧ ∃ z1 F1, A z1 F1 ∧ F' = va_up F1 108 (.inl (g 5, 1, .inr (.inl (va_up h0 0 (lI (iI z1).toInt)))))) ∨ ∃ k : Nat, B k F' ∧ z = (if (k : Int) = 0 then 1 else 2))) := by
  refine JG.introW hfl (own := "NumberTowerLaw") (lv := [(0, .ref (ad 0)), (1, .int (iI p0)), (2, .int (iI p1)), (3, .ref (ad 108))]) rfl (by decide +kernel) (Nat.le_of_ble_eq_true rfl) rfl (fun A9 => ?_)
  refine JW_aload_n 3 d_L_sum_0 rfl rfl ?_
  refine JW_iconst d_L_sum_1 ?_
  refine JW_aload_n 0 d_L_sum_2 rfl rfl ?_
  refine JW_iload_n 1 d_L_sum_3 rfl rfl ?_
  refine JW_iload_n 2 d_L_sum_4 rfl rfl ?_
  refine JW_callV cw_L_33 nh_X_sum pn_X_sum rfl rfl (by omega) hF0 (As := [.int (iI p0), .int (iI p1)]) (rest := [.int (iI 0), .ref (ad 108)]) rfl (Nat.le_of_ble_eq_true rfl) ⟨by decide, by decide⟩ ⟨by decide, by decide⟩ d_L_sum_5 hC (fun v a2 N2 F2 hq => ?_) (fun k a2 N2 F2 hq => ?_)
  · rcases hq with ⟨z, hz, rfl, rfl, hq⟩ | ⟨k, hz, -⟩
    · cases hz
      have h108 := hA _ _ hq
      refine JW_topi (iI_of (iI z)).symm ?_
      refine JW_i2l d_L_sum_8 (iI_rng (iI z)) ?_
      refine JW_lastore 5 rfl (by omega) h108 ⟨by decide, by decide, by decide⟩ d_L_sum_9 ?_
      refine JW_goto (tgt := 21) d_L_sum_10 (by decide) ?_
      refine JW_iconst d_L_sum_21 ?_
      refine JW_iret rfl rfl d_L_sum_22 ⟨by decide, by decide⟩ ?_
      exact ⟨0, rfl, rfl, rfl, Or.inl ⟨rfl, _, _, hq, rfl⟩⟩
    · cases hz
  · rcases hq with ⟨z, hz, -⟩ | ⟨k2, hz, ha2, hn2, hq⟩
    · cases hz
    · cases hz
      replace ha2 := ha2.symm
      replace hn2 := hn2.symm
      subst ha2
      subst hn2
      rcases hB _ _ hq with rfl | rfl
      · refine ⟨13, ⟨[], (0, 10, 13, 13), [(0, 10, 17, 17)], rfl, rfl, fun _ h => absurd h List.not_mem_nil, ⟨by decide, by decide⟩, by decide, wd_492, List.mem_of_getElem? (i := 0) rfl⟩, fun x => ?_⟩
        refine JW_astore (lv' := [(4, .ref x), (0, .ref (ad 0)), (1, .int (iI p0)), (2, .int (iI p1)), (3, .ref (ad 108))]) d_L_sum_13 (by decide) rfl ?_
        refine JW_iconst d_L_sum_15 ?_
        refine JW_iret rfl rfl d_L_sum_16 ⟨by decide, by decide⟩ ?_
        exact ⟨_, rfl, rfl, rfl, Or.inr ⟨0, hq, rfl⟩⟩
      · refine ⟨17, ⟨[(0, 10, 13, 13)], (0, 10, 17, 17), [], rfl, rfl, List.forall_mem_cons.mpr ⟨⟨⟨by decide, by decide⟩, by decide, 0, wd_492, List.mem_of_getElem? (i := 1) rfl⟩, fun _ h => absurd h List.not_mem_nil⟩, ⟨by decide, by decide⟩, by decide, wd_494, List.mem_of_getElem? (i := 2) rfl⟩, fun x => ?_⟩
        refine JW_astore (lv' := [(4, .ref x), (0, .ref (ad 0)), (1, .int (iI p0)), (2, .int (iI p1)), (3, .ref (ad 108))]) d_L_sum_17 (by decide) rfl ?_
        refine JW_iconst d_L_sum_19 ?_
        refine JW_iret rfl rfl d_L_sum_20 ⟨by decide, by decide⟩ ?_
        exact ⟨_, rfl, rfl, rfl, Or.inr ⟨2, hq, rfl⟩⟩
set_option maxRecDepth 100000 in
set_option maxHeartbeats 4000000 in
theorem c_L_show {l : Launch} (hfl : l.flags = flags0) {D : va_G} {g : Nat → ClassId} {ad : Nat → Nat} {N : Nat} {F : Nat → va_E} {p0 : Int} {A : Int → (Nat → va_E) → Prop} {B : Nat → (Nat → va_E) → Prop} {h0 : Nat → Int64} {fs : List Value} (hN : 109 ≤ N) (hF0 : F 0 = .inr (0, fs)) (hA : ∀ z F1, A z F1 → F1 108 = .inl (g 5, 1, .inr (.inl h0))) (hB : ∀ k F1, B k F1 → k = 0)
    (hC : JC l y_X_show b_X_show 3 (Option.some Jvm.ClassFile.FieldType.int) rm_X_show (0, 0) D jCl (jTys g) ad N F [.ref (ad 0), .int (iI p0)] (jix ad N A B)) :
    JG l y_L_show (Cond.codeWith y_L_show b_L_show 4 (Option.some FieldType.int) [(0, 9, 12, 13)]) rm_L_show (1, 6) D jCl (jTys g) ad N F [.ref (ad 0), .int (iI p0), .ref (ad 108)] (fun _ => True) (ji ad N (fun z F' => (z = 0 ∧ ∃ z1 F1, A z1 F1 ∧ F' = va_up F1 108 (.inl (g 5, 1, .inr (.inl (va_up h0 0 (lI (iI z1).toInt)))))) ∨ ∃ k : Nat, B k F' ∧ z = (k : Int) + 1)) := by
  refine JG.introW hfl (own := "NumberTowerLaw") (lv := [(0, .ref (ad 0)), (1, .int (iI p0)), (2, .ref (ad 108))]) rfl (by decide +kernel) (Nat.le_of_ble_eq_true rfl) rfl (fun A9 => ?_)
  refine JW_aload_n 2 d_L_show_0 rfl rfl ?_
  refine JW_iconst d_L_show_1 ?_
  refine JW_aload_n 0 d_L_show_2 rfl rfl ?_
  refine JW_iload_n 1 d_L_show_3 rfl rfl ?_
  refine JW_callV cw_L_37 nh_X_show pn_X_show rfl rfl (by omega) hF0 (As := [.int (iI p0)]) (rest := [.int (iI 0), .ref (ad 108)]) rfl (Nat.le_of_ble_eq_true rfl) ⟨by decide, by decide⟩ ⟨by decide, by decide⟩ d_L_show_4 hC (fun v a2 N2 F2 hq => ?_) (fun k a2 N2 F2 hq => ?_)
  · rcases hq with ⟨z, hz, rfl, rfl, hq⟩ | ⟨k, hz, -⟩
    · cases hz
      have h108 := hA _ _ hq
      refine JW_topi (iI_of (iI z)).symm ?_
      refine JW_i2l d_L_show_7 (iI_rng (iI z)) ?_
      refine JW_lastore 5 rfl (by omega) h108 ⟨by decide, by decide, by decide⟩ d_L_show_8 ?_
      refine JW_goto (tgt := 15) d_L_show_9 (by decide) ?_
      refine JW_iconst d_L_show_15 ?_
      refine JW_iret rfl rfl d_L_show_16 ⟨by decide, by decide⟩ ?_
      exact ⟨0, rfl, rfl, rfl, Or.inl ⟨rfl, _, _, hq, rfl⟩⟩
    · cases hz
  · rcases hq with ⟨z, hz, -⟩ | ⟨k2, hz, ha2, hn2, hq⟩
    · cases hz
    · cases hz
      replace ha2 := ha2.symm
      replace hn2 := hn2.symm
      subst ha2
      subst hn2
      obtain rfl := hB _ _ hq
      refine ⟨12, ⟨[], (0, 9, 12, 13), [], rfl, rfl, fun _ h => absurd h List.not_mem_nil, ⟨by decide, by decide⟩, by decide, wd_492, List.mem_of_getElem? (i := 0) rfl⟩, fun x => ?_⟩
      refine JW_astore_n (lv' := [(3, .ref x), (0, .ref (ad 0)), (1, .int (iI p0)), (2, .ref (ad 108))]) d_L_show_12 rfl (by decide) rfl ?_
      refine JW_iconst d_L_show_13 ?_
      refine JW_iret rfl rfl d_L_show_14 ⟨by decide, by decide⟩ ?_
      exact ⟨_, rfl, rfl, rfl, Or.inr ⟨0, hq, rfl⟩⟩
set_option maxRecDepth 100000 in
set_option maxHeartbeats 4000000 in
theorem c_L_format {l : Launch} (hfl : l.flags = flags0) {D : va_G} {g : Nat → ClassId} {ad : Nat → Nat} {N : Nat} {F : Nat → va_E} {p0 : Int} {A : Int → (Nat → va_E) → Prop} {B : Nat → (Nat → va_E) → Prop} {h0 : Nat → Int64} {fs : List Value} (hN : 109 ≤ N) (hF0 : F 0 = .inr (0, fs)) (hA : ∀ z F1, A z F1 → F1 108 = .inl (g 5, 1, .inr (.inl h0))) (hB : ∀ k F1, B k F1 → k = 0)
    (hC : JC l y_X_format b_X_format 4 (Option.some Jvm.ClassFile.FieldType.int) rm_X_format (0, 0) D jCl (jTys g) ad N F [.ref (ad 0), .int (iI p0)] (jix ad N A B)) :
    JG l y_L_format (Cond.codeWith y_L_format b_L_format 4 (Option.some FieldType.int) [(0, 9, 12, 13)]) rm_L_format (1, 6) D jCl (jTys g) ad N F [.ref (ad 0), .int (iI p0), .ref (ad 108)] (fun _ => True) (ji ad N (fun z F' => (z = 0 ∧ ∃ z1 F1, A z1 F1 ∧ F' = va_up F1 108 (.inl (g 5, 1, .inr (.inl (va_up h0 0 (lI (iI z1).toInt)))))) ∨ ∃ k : Nat, B k F' ∧ z = (k : Int) + 1)) := by
  refine JG.introW hfl (own := "NumberTowerLaw") (lv := [(0, .ref (ad 0)), (1, .int (iI p0)), (2, .ref (ad 108))]) rfl (by decide +kernel) (Nat.le_of_ble_eq_true rfl) rfl (fun A9 => ?_)
  refine JW_aload_n 2 d_L_format_0 rfl rfl ?_
  refine JW_iconst d_L_format_1 ?_
  refine JW_aload_n 0 d_L_format_2 rfl rfl ?_
  refine JW_iload_n 1 d_L_format_3 rfl rfl ?_
  refine JW_callV cw_L_40 nh_X_format pn_X_format rfl rfl (by omega) hF0 (As := [.int (iI p0)]) (rest := [.int (iI 0), .ref (ad 108)]) rfl (Nat.le_of_ble_eq_true rfl) ⟨by decide, by decide⟩ ⟨by decide, by decide⟩ d_L_format_4 hC (fun v a2 N2 F2 hq => ?_) (fun k a2 N2 F2 hq => ?_)
  · rcases hq with ⟨z, hz, rfl, rfl, hq⟩ | ⟨k, hz, -⟩
    · cases hz
      have h108 := hA _ _ hq
      refine JW_topi (iI_of (iI z)).symm ?_
      refine JW_i2l d_L_format_7 (iI_rng (iI z)) ?_
      refine JW_lastore 5 rfl (by omega) h108 ⟨by decide, by decide, by decide⟩ d_L_format_8 ?_
      refine JW_goto (tgt := 15) d_L_format_9 (by decide) ?_
      refine JW_iconst d_L_format_15 ?_
      refine JW_iret rfl rfl d_L_format_16 ⟨by decide, by decide⟩ ?_
      exact ⟨0, rfl, rfl, rfl, Or.inl ⟨rfl, _, _, hq, rfl⟩⟩
    · cases hz
  · rcases hq with ⟨z, hz, -⟩ | ⟨k2, hz, ha2, hn2, hq⟩
    · cases hz
    · cases hz
      replace ha2 := ha2.symm
      replace hn2 := hn2.symm
      subst ha2
      subst hn2
      obtain rfl := hB _ _ hq
      refine ⟨12, ⟨[], (0, 9, 12, 13), [], rfl, rfl, fun _ h => absurd h List.not_mem_nil, ⟨by decide, by decide⟩, by decide, wd_492, List.mem_of_getElem? (i := 0) rfl⟩, fun x => ?_⟩
      refine JW_astore_n (lv' := [(3, .ref x), (0, .ref (ad 0)), (1, .int (iI p0)), (2, .ref (ad 108))]) d_L_format_12 rfl (by decide) rfl ?_
      refine JW_iconst d_L_format_13 ?_
      refine JW_iret rfl rfl d_L_format_14 ⟨by decide, by decide⟩ ?_
      exact ⟨_, rfl, rfl, rfl, Or.inr ⟨0, hq, rfl⟩⟩
