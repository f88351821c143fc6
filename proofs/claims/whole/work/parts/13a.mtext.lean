/-! reading texts -/
/-- the character at a place; 0 behind the end -/
def chr (w : List Nat) (k : Nat) : Nat := w.getD k 0
theorem chr_out {w : List Nat} {k : Nat} (h : w.length ≤ k) : chr w k = 0 := by
  unfold chr
  rw [List.getD_eq_getElem?_getD, List.getElem?_eq_none h]; rfl
theorem chr_mem {w : List Nat} {k : Nat} (h : k < w.length) : chr w k ∈ w := by
  unfold chr
  rw [List.getD_eq_getElem?_getD, List.getElem?_eq_getElem h]
  exact List.getElem_mem h
theorem chr_b {w : List Nat} (hc : ∀ c, c ∈ w → 32 ≤ c ∧ c ≤ 126) (k : Nat) : chr w k = 0 ∧ w.length ≤ k ∨ (32 ≤ chr w k ∧ chr w k ≤ 126 ∧ k < w.length) := by
  by_cases h : k < w.length
  · have := hc _ (chr_mem h)
    exact Or.inr ⟨this.1, this.2, h⟩
  · exact Or.inl ⟨chr_out (by omega), by omega⟩
/-- the value of a digit; -1: none -/
def dgc (c : Int) : Int := if 48 ≤ c ∧ c ≤ 57 then c - 48 else if 97 ≤ c ∧ c ≤ 102 then c - 87 else if 65 ≤ c ∧ c ≤ 70 then c - 55 else -1
def dgr (c r : Int) : Int := if dgc c < r then dgc c else -1
theorem dgr_b {c r : Int} : -1 ≤ dgr c r ∧ dgr c r ≤ 15 ∧ (dgr c r < r ∨ dgr c r = -1) ∧ (0 ≤ dgr c r → 48 ≤ c) := by
  unfold dgr dgc
  split <;> split <;> (try split) <;> (try split) <;> omega
def isAl (c : Int) : Prop := c = 60 ∨ c = 62 ∨ c = 61 ∨ c = 94
set_option maxRecDepth 100000 in
set_option maxHeartbeats 4000000 in
theorem c_M_here {l : Launch} (hfl : l.flags = flags0) {D : va_G} {g : Nat → ClassId} {ad : Nat → Nat} {N : Nat} {F : Nat → va_E} {f : Nat → Int} {v : UInt64} {lh : Nat → Int} {ln : List Nat} {k : Nat}
    (hN : 109 ≤ N) (hO : F 98 = oM ad f v) (h104 : F 104 = .inl (g 0, 40, .inl (aI lh))) (hml : mtx lh ln) (hf12 : f 12 = (ln.length : Int)) (hl40 : ln.length ≤ 40) (hch : ∀ c, c ∈ ln → 32 ≤ c ∧ c ≤ 126) (hk : k < 1000) :
    JC l y_M_here b_M_here 2 (Option.some Jvm.ClassFile.FieldType.int) rm_M_here (0, 0) D jCl (jTys g) ad N F [.ref (ad 98), .int (iI (k : Int))] (ji ad N (fun z F' => z = (chr ln k : Int) ∧ F' = F)) := by
  refine JC.go hfl (own := "NumberTowerModel") (lv := [(0, .ref (ad 98)), (1, .int (iI (k : Int)))]) rfl (by decide +kernel) (Nat.le_of_ble_eq_true rfl) rfl (fun A => ?_)
  refine J_iload_n 1 d_M_here_0 rfl rfl ?_
  refine J_aload_n 0 d_M_here_1 rfl rfl ?_
  refine gf_M_241 (by omega) hO rfl d_M_here_2 ?_
  refine J_topi (r := (ln.length : Int)) (congrArg iI hf12) ?_
  refine J_if_icmpge (tgt := 17) d_M_here_5 (by decide) ⟨by omega, by omega⟩ ⟨by omega, by omega⟩ (fun c5 => ?_) (fun c5 => ?_)
  · refine J_iconst d_M_here_17 ?_
    refine J_iret rfl rfl d_M_here_18 ⟨by decide, by decide⟩ ?_
    exact ⟨_, rfl, rfl, rfl, by rw [chr_out (by omega)]; rfl, rfl⟩
  · refine J_aload_n 0 d_M_here_8 rfl rfl ?_
    refine gf_M_27 (by omega) hO rfl d_M_here_9 ?_
    refine J_iload_n 1 d_M_here_12 rfl rfl ?_
    refine J_iaload 0 rfl (by omega) h104 (by omega) d_M_here_13 ?_
    refine J_topi (r := lh k) (congrArg (fun q => iI (lh q)) (by omega)) ?_
    refine J_goto (tgt := 18) d_M_here_14 (by decide) ?_
    refine J_iret rfl rfl d_M_here_18 ⟨by decide, by decide⟩ ?_
    exact ⟨_, rfl, rfl, rfl, hml k (by omega), rfl⟩
set_option maxRecDepth 100000 in
set_option maxHeartbeats 4000000 in
theorem c_M_digitOf {l : Launch} (hfl : l.flags = flags0) {D : va_G} {g : Nat → ClassId} {ad : Nat → Nat} {N : Nat} {F : Nat → va_E} {c r : Int}
    (hc : inI c) (hr : 2 ≤ r ∧ r ≤ 16) :
    JC l y_M_digitOf b_M_digitOf 3 (Option.some Jvm.ClassFile.FieldType.int) rm_M_digitOf (0, 0) D jCl (jTys g) ad N F [.int (iI c), .int (iI r)] (ji ad N (fun z F' => z = dgr c r ∧ F' = F)) := by
  refine JC.go hfl (own := "NumberTowerModel") (lv := [(0, .int (iI c)), (1, .int (iI r))]) rfl (by decide +kernel) (Nat.le_of_ble_eq_true rfl) rfl (fun A => ?_)
  refine J_iload_n 0 d_M_digitOf_0 rfl rfl ?_
  refine J_bipush d_M_digitOf_1 (i8_ok (by decide)) ?_
  refine J_bipush d_M_digitOf_3 (i8_ok (by decide)) ?_
  refine J_callSi cw_M_138 nh_M_in pn_M_in rfl (As := [.int (iI c), .int (iI 48), .int (iI 57)]) (rest := []) rfl (Nat.le_of_ble_eq_true rfl) ⟨by decide, by decide⟩ rfl ⟨by decide, by decide⟩ d_M_digitOf_5 (c_M_in hfl (a := c) (b := 48) (c := 57) hc (by decide) (by decide)) (fun za F1 hq => ?_)
  obtain ⟨hza, eF1⟩ := hq
  refine J_eqF eF1 ?_
  refine J_ifeq (tgt := 18) d_M_digitOf_8 (by decide) ⟨by omega, by omega⟩ (fun c8 => ?_) (fun c8 => ?_)
  · refine J_iload_n 0 d_M_digitOf_18 rfl rfl ?_
    refine J_bipush d_M_digitOf_19 (i8_ok (by decide)) ?_
    refine J_bipush d_M_digitOf_21 (i8_ok (by decide)) ?_
    refine J_callSi cw_M_138 nh_M_in pn_M_in rfl (As := [.int (iI c), .int (iI 97), .int (iI 102)]) (rest := []) rfl (Nat.le_of_ble_eq_true rfl) ⟨by decide, by decide⟩ rfl ⟨by decide, by decide⟩ d_M_digitOf_23 (c_M_in hfl (a := c) (b := 97) (c := 102) hc (by decide) (by decide)) (fun zb F2 hq => ?_)
    obtain ⟨hzb, eF2⟩ := hq
    refine J_eqF eF2 ?_
    refine J_ifeq (tgt := 39) d_M_digitOf_26 (by decide) ⟨by omega, by omega⟩ (fun c26 => ?_) (fun c26 => ?_)
    · refine J_iload_n 0 d_M_digitOf_39 rfl rfl ?_
      refine J_bipush d_M_digitOf_40 (i8_ok (by decide)) ?_
      refine J_bipush d_M_digitOf_42 (i8_ok (by decide)) ?_
      refine J_callSi cw_M_138 nh_M_in pn_M_in rfl (As := [.int (iI c), .int (iI 65), .int (iI 70)]) (rest := []) rfl (Nat.le_of_ble_eq_true rfl) ⟨by decide, by decide⟩ rfl ⟨by decide, by decide⟩ d_M_digitOf_44 (c_M_in hfl (a := c) (b := 65) (c := 70) hc (by decide) (by decide)) (fun zc F3 hq => ?_)
      obtain ⟨hzc, eF3⟩ := hq
      refine J_eqF eF3 ?_
      refine J_ifeq (tgt := 60) d_M_digitOf_47 (by decide) ⟨by omega, by omega⟩ (fun c47 => ?_) (fun c47 => ?_)
      · refine J_iconst d_M_digitOf_60 ?_
        refine J_istore_n (lv' := [(2, .int (iI (-1))), (0, .int (iI c)), (1, .int (iI r))]) d_M_digitOf_61 rfl (by decide) rfl ?_
        refine J_iload_n 0 d_M_digitOf_62 rfl rfl ?_
        refine J_iload_n 2 d_M_digitOf_63 rfl rfl ?_
        refine J_if_icmpge (tgt := 71) d_M_digitOf_64 (by decide) ⟨by omega, by omega⟩ ⟨by omega, by omega⟩ (fun c64 => ?_) (fun c64 => ?_)
        · refine J_iconst d_M_digitOf_71 ?_
          refine J_iret rfl rfl d_M_digitOf_72 ⟨by decide, by decide⟩ ?_
          refine ⟨_, rfl, rfl, rfl, ?_, rfl⟩
          unfold dgr dgc
          (repeat' split) <;> omega
        · refine J_iload_n 0 d_M_digitOf_67 rfl rfl ?_
          refine J_goto (tgt := 72) d_M_digitOf_68 (by decide) ?_
          refine J_iret rfl rfl d_M_digitOf_72 ⟨by decide, by decide⟩ ?_
          refine ⟨_, rfl, rfl, rfl, ?_, rfl⟩
          unfold dgr dgc
          (repeat' split) <;> omega
      · refine J_iload_n 0 d_M_digitOf_50 rfl rfl ?_
        refine J_bipush d_M_digitOf_51 (i8_ok (by decide)) ?_
        refine J_isub d_M_digitOf_53 ?_
        refine J_bipush d_M_digitOf_54 (i8_ok (by decide)) ?_
        refine J_iadd d_M_digitOf_56 ?_
        refine J_topi (r := c - 55) (congrArg iI (by omega)) ?_
        refine J_goto (tgt := 61) d_M_digitOf_57 (by decide) ?_
        refine J_istore_n (lv' := [(2, .int (iI (c - 55))), (0, .int (iI c)), (1, .int (iI r))]) d_M_digitOf_61 rfl (by decide) rfl ?_
        refine J_iload_n 0 d_M_digitOf_62 rfl rfl ?_
        refine J_iload_n 2 d_M_digitOf_63 rfl rfl ?_
        refine J_if_icmpge (tgt := 71) d_M_digitOf_64 (by decide) ⟨by omega, by omega⟩ ⟨by omega, by omega⟩ (fun c64 => ?_) (fun c64 => ?_)
        · refine J_iconst d_M_digitOf_71 ?_
          refine J_iret rfl rfl d_M_digitOf_72 ⟨by decide, by decide⟩ ?_
          refine ⟨_, rfl, rfl, rfl, ?_, rfl⟩
          unfold dgr dgc
          (repeat' split) <;> omega
        · refine J_iload_n 0 d_M_digitOf_67 rfl rfl ?_
          refine J_goto (tgt := 72) d_M_digitOf_68 (by decide) ?_
          refine J_iret rfl rfl d_M_digitOf_72 ⟨by decide, by decide⟩ ?_
          refine ⟨_, rfl, rfl, rfl, ?_, rfl⟩
          unfold dgr dgc
          (repeat' split) <;> omega
    · refine J_iload_n 0 d_M_digitOf_29 rfl rfl ?_
      refine J_bipush d_M_digitOf_30 (i8_ok (by decide)) ?_
      refine J_isub d_M_digitOf_32 ?_
      refine J_bipush d_M_digitOf_33 (i8_ok (by decide)) ?_
      refine J_iadd d_M_digitOf_35 ?_
      refine J_topi (r := c - 87) (congrArg iI (by omega)) ?_
      refine J_goto (tgt := 61) d_M_digitOf_36 (by decide) ?_
      refine J_istore_n (lv' := [(2, .int (iI (c - 87))), (0, .int (iI c)), (1, .int (iI r))]) d_M_digitOf_61 rfl (by decide) rfl ?_
      refine J_iload_n 0 d_M_digitOf_62 rfl rfl ?_
      refine J_iload_n 2 d_M_digitOf_63 rfl rfl ?_
      refine J_if_icmpge (tgt := 71) d_M_digitOf_64 (by decide) ⟨by omega, by omega⟩ ⟨by omega, by omega⟩ (fun c64 => ?_) (fun c64 => ?_)
      · refine J_iconst d_M_digitOf_71 ?_
        refine J_iret rfl rfl d_M_digitOf_72 ⟨by decide, by decide⟩ ?_
        refine ⟨_, rfl, rfl, rfl, ?_, rfl⟩
        unfold dgr dgc
        (repeat' split) <;> omega
      · refine J_iload_n 0 d_M_digitOf_67 rfl rfl ?_
        refine J_goto (tgt := 72) d_M_digitOf_68 (by decide) ?_
        refine J_iret rfl rfl d_M_digitOf_72 ⟨by decide, by decide⟩ ?_
        refine ⟨_, rfl, rfl, rfl, ?_, rfl⟩
        unfold dgr dgc
        (repeat' split) <;> omega
  · refine J_iload_n 0 d_M_digitOf_11 rfl rfl ?_
    refine J_bipush d_M_digitOf_12 (i8_ok (by decide)) ?_
    refine J_isub d_M_digitOf_14 ?_
    refine J_goto (tgt := 61) d_M_digitOf_15 (by decide) ?_
    refine J_istore_n (lv' := [(2, .int (iI (c - 48))), (0, .int (iI c)), (1, .int (iI r))]) d_M_digitOf_61 rfl (by decide) rfl ?_
    refine J_iload_n 0 d_M_digitOf_62 rfl rfl ?_
    refine J_iload_n 2 d_M_digitOf_63 rfl rfl ?_
    refine J_if_icmpge (tgt := 71) d_M_digitOf_64 (by decide) ⟨by omega, by omega⟩ ⟨by omega, by omega⟩ (fun c64 => ?_) (fun c64 => ?_)
    · refine J_iconst d_M_digitOf_71 ?_
      refine J_iret rfl rfl d_M_digitOf_72 ⟨by decide, by decide⟩ ?_
      refine ⟨_, rfl, rfl, rfl, ?_, rfl⟩
      unfold dgr dgc
      (repeat' split) <;> omega
    · refine J_iload_n 0 d_M_digitOf_67 rfl rfl ?_
      refine J_goto (tgt := 72) d_M_digitOf_68 (by decide) ?_
      refine J_iret rfl rfl d_M_digitOf_72 ⟨by decide, by decide⟩ ?_
      refine ⟨_, rfl, rfl, rfl, ?_, rfl⟩
      unfold dgr dgc
      (repeat' split) <;> omega
set_option maxRecDepth 100000 in
set_option maxHeartbeats 4000000 in
theorem c_M_isAlign {l : Launch} (hfl : l.flags = flags0) {D : va_G} {g : Nat → ClassId} {ad : Nat → Nat} {N : Nat} {F : Nat → va_E} {c : Int}
    (hc : inI c) :
    JC l y_M_isAlign b_M_isAlign 1 (Option.some Jvm.ClassFile.FieldType.boolean) rm_M_isAlign (0, 0) D jCl (jTys g) ad N F [.int (iI c)] (ji ad N (fun z F' => ((z = 1 ∧ isAl c) ∨ (z = 0 ∧ ¬ isAl c)) ∧ F' = F)) := by
  refine JC.go hfl (own := "NumberTowerModel") (lv := [(0, .int (iI c))]) rfl (by decide +kernel) (Nat.le_of_ble_eq_true rfl) rfl (fun A => ?_)
  refine J_iload_n 0 d_M_isAlign_0 rfl rfl ?_
  refine J_bipush d_M_isAlign_1 (i8_ok (by decide)) ?_
  refine J_if_icmpeq (tgt := 24) d_M_isAlign_3 (by decide) ⟨by omega, by omega⟩ ⟨by omega, by omega⟩ (fun c3 => ?_) (fun c3 => ?_)
  · refine J_iconst d_M_isAlign_24 ?_
    refine J_goto (tgt := 29) d_M_isAlign_25 (by decide) ?_
    refine J_iret rfl (nb01 (by omega)).1 d_M_isAlign_29 ⟨by decide, by decide⟩ ?_
    exact ⟨_, rfl, rfl, rfl, by unfold isAl; omega, rfl⟩
  · refine J_iload_n 0 d_M_isAlign_6 rfl rfl ?_
    refine J_bipush d_M_isAlign_7 (i8_ok (by decide)) ?_
    refine J_if_icmpeq (tgt := 24) d_M_isAlign_9 (by decide) ⟨by omega, by omega⟩ ⟨by omega, by omega⟩ (fun c9 => ?_) (fun c9 => ?_)
    · refine J_iconst d_M_isAlign_24 ?_
      refine J_goto (tgt := 29) d_M_isAlign_25 (by decide) ?_
      refine J_iret rfl (nb01 (by omega)).1 d_M_isAlign_29 ⟨by decide, by decide⟩ ?_
      exact ⟨_, rfl, rfl, rfl, by unfold isAl; omega, rfl⟩
    · refine J_iload_n 0 d_M_isAlign_12 rfl rfl ?_
      refine J_bipush d_M_isAlign_13 (i8_ok (by decide)) ?_
      refine J_if_icmpeq (tgt := 24) d_M_isAlign_15 (by decide) ⟨by omega, by omega⟩ ⟨by omega, by omega⟩ (fun c15 => ?_) (fun c15 => ?_)
      · refine J_iconst d_M_isAlign_24 ?_
        refine J_goto (tgt := 29) d_M_isAlign_25 (by decide) ?_
        refine J_iret rfl (nb01 (by omega)).1 d_M_isAlign_29 ⟨by decide, by decide⟩ ?_
        exact ⟨_, rfl, rfl, rfl, by unfold isAl; omega, rfl⟩
      · refine J_iload_n 0 d_M_isAlign_18 rfl rfl ?_
        refine J_bipush d_M_isAlign_19 (i8_ok (by decide)) ?_
        refine J_if_icmpne (tgt := 28) d_M_isAlign_21 (by decide) ⟨by omega, by omega⟩ ⟨by omega, by omega⟩ (fun c21 => ?_) (fun c21 => ?_)
        · refine J_iconst d_M_isAlign_28 ?_
          refine J_iret rfl (nb01 (by omega)).1 d_M_isAlign_29 ⟨by decide, by decide⟩ ?_
          exact ⟨_, rfl, rfl, rfl, by unfold isAl; omega, rfl⟩
        · refine J_iconst d_M_isAlign_24 ?_
          refine J_goto (tgt := 29) d_M_isAlign_25 (by decide) ?_
          refine J_iret rfl (nb01 (by omega)).1 d_M_isAlign_29 ⟨by decide, by decide⟩ ?_
          exact ⟨_, rfl, rfl, rfl, by unfold isAl; omega, rfl⟩
