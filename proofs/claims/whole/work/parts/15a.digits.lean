/-! the class reads a number -/

abbrev oR (ad : Nat → Nat) (a t : Int) : va_E := .inr (5, [.ref (ad 7), .int (iI a), .int (iI t)])
theorem mdg_f {w : List Nat} {r : Nat} : ∀ f1 f2 p n v, w.length + 1 ≤ p + f1 → w.length + 1 ≤ p + f2 → mdg w r f1 p n v = mdg w r f2 p n v := by
  intro f1
  induction f1 with
  | zero =>
    intro f2 p n v h1 h2
    have h3 : ¬ 0 ≤ dgr (chr w p) r := fun h => by have := dgr_pos h; omega
    have h4 : ¬(0 < n ∧ chr w p = 95 ∧ 0 ≤ dgr (chr w (p + 1)) r) := fun h => by have := dgr_pos h.2.2; omega
    cases f2 with
    | zero => rfl
    | succ f2 => rw [mdg_e h3 h4]; rfl
  | succ f1 ih =>
    intro f2 p n v h1 h2
    by_cases h3 : 0 ≤ dgr (chr w p) r
    · have := dgr_pos h3
      cases f2 with
      | zero => omega
      | succ f2 => rw [mdg_d h3, mdg_d h3]; exact ih _ _ _ _ (by omega) (by omega)
    · by_cases h4 : 0 < n ∧ chr w p = 95 ∧ 0 ≤ dgr (chr w (p + 1)) r
      · have := dgr_pos h4.2.2
        cases f2 with
        | zero => omega
        | succ f2 => rw [mdg_u h3 h4, mdg_u h3 h4]; exact ih _ _ _ _ (by omega) (by omega)
      · cases f2 with
        | zero => rw [mdg_e h3 h4]; rfl
        | succ f2 => rw [mdg_e h3 h4, mdg_e h3 h4]
/-- as many digits as places at most, and the value is below the radix to their number -/
theorem mdg_p {w : List Nat} {r : Nat} : ∀ f p n v, (mdg w r f p n v).2.1 + p ≤ (mdg w r f p n v).1 + n ∧ n ≤ (mdg w r f p n v).2.1 := by
  intro f
  induction f with
  | zero => intro p n v; exact ⟨Nat.le_of_eq (Nat.add_comm _ _), Nat.le_refl _⟩
  | succ f ih =>
    intro p n v
    by_cases h : 0 ≤ dgr (chr w p) r
    · rw [mdg_d h]; have := ih (p + 1) (n + 1) (v * r + (dgr (chr w p) r).toNat); omega
    · by_cases h2 : 0 < n ∧ chr w p = 95 ∧ 0 ≤ dgr (chr w (p + 1)) r
      · rw [mdg_u h h2]; have := ih (p + 1) n v; omega
      · rw [mdg_e h h2]; exact ⟨Nat.le_of_eq (Nat.add_comm _ _), Nat.le_refl _⟩
theorem mdg_v {w : List Nat} {r m : Nat} (hr : 0 < r) : ∀ f p n v, v < r ^ (m + n) → (mdg w r f p n v).2.2 < r ^ (m + (mdg w r f p n v).2.1) := by
  intro f
  induction f with
  | zero => intro p n v h; exact h
  | succ f ih =>
    intro p n v hv
    by_cases h : 0 ≤ dgr (chr w p) r
    · rw [mdg_d h]
      refine ih _ _ _ ?_
      have hd : (dgr (chr w p) r).toNat < r := by have := (dgr_b (c := (chr w p : Int)) (r := r)).2.2.1; omega
      have h1 : (v + 1) * r ≤ r ^ (m + n) * r := Nat.mul_le_mul_right _ hv
      rw [← Nat.add_assoc, Nat.pow_succ]
      rw [Nat.add_mul, Nat.one_mul] at h1
      omega
    · by_cases h2 : 0 < n ∧ chr w p = 95 ∧ 0 ≤ dgr (chr w (p + 1)) r
      · rw [mdg_u h h2]; exact ih _ _ _ hv
      · rw [mdg_e h h2]; exact hv
theorem tchr {w : List Nat} (hc : ∀ c, c ∈ w → 32 ≤ c ∧ c ≤ 126) (k : Nat) : (chr w k = 0 ∧ w.length ≤ k ∧ tat w (k : Int) = -1) ∨ (32 ≤ chr w k ∧ chr w k ≤ 126 ∧ k < w.length ∧ tat w (k : Int) = (chr w k : Int)) := by
  rcases chr_b hc k with h | h
  · exact Or.inl ⟨h.1, h.2, tat_out (by omega)⟩
  · refine Or.inr ⟨h.1, h.2.1, h.2.2, ?_⟩
    rw [tat_v (by omega) (by omega)]; rfl
theorem dgr_tat {w : List Nat} (hc : ∀ c, c ∈ w → 32 ≤ c ∧ c ≤ 126) (k : Nat) {r : Int} (hr : 0 ≤ r) : dgr (tat w (k : Int)) r = dgr (chr w k : Int) r := by
  rcases tchr hc k with h | h
  · rw [h.2.2, h.1]
    have e1 : dgc (-1) = -1 := by decide
    have e2 : dgc ((0 : Nat) : Int) = -1 := by decide
    unfold dgr
    rw [e1, e2]
  · rw [h.2.2.2]
/-- what a class's reader answers -/
def prC (o : Pr) (z : Int) (k' : Int) (u' d' : Nat) (t' : Int) : Prop := (z = 1 ∧ o = some (k', u', d', t')) ∨ (z = 0 ∧ o = none)
set_option maxRecDepth 100000 in
set_option maxHeartbeats 4000000 in
theorem c_R_digitOf {l : Launch} (hfl : l.flags = flags0) {D : va_G} {g : Nat → ClassId} {ad : Nat → Nat} {N : Nat} {F : Nat → va_E} {c r : Int}
    (hc : inI c) (hr : 2 ≤ r ∧ r ≤ 16) :
    JC l y_R_digitOf b_R_digitOf 3 (Option.some Jvm.ClassFile.FieldType.int) rm_R_digitOf (0, 0) D jCl (jTys g) ad N F [.int (iI c), .int (iI r)] (ji ad N (fun z F' => z = dgr c r ∧ F' = F)) := by
  refine JC.go hfl (own := "NumberTower$Reader") (lv := [(0, .int (iI c)), (1, .int (iI r))]) rfl (by decide +kernel) (Nat.le_of_ble_eq_true rfl) rfl (fun A => ?_)
  refine J_iconst d_R_digitOf_0 ?_
  refine J_istore_n (lv' := [(2, .int (iI (-1))), (0, .int (iI c)), (1, .int (iI r))]) d_R_digitOf_1 rfl (by decide) rfl ?_
  refine J_iload_n 1 d_R_digitOf_2 rfl rfl ?_
  refine J_bipush d_R_digitOf_3 (i8_ok (by decide)) ?_
  refine J_if_icmplt (tgt := 22) d_R_digitOf_5 (by decide) ⟨by omega, by omega⟩ ⟨by omega, by omega⟩ (fun c5 => ?_) (fun c5 => ?_)
  · refine J_iload_n 1 d_R_digitOf_22 rfl rfl ?_
    refine J_bipush d_R_digitOf_23 (i8_ok (by decide)) ?_
    refine J_if_icmplt (tgt := 45) d_R_digitOf_25 (by decide) ⟨by omega, by omega⟩ ⟨by omega, by omega⟩ (fun c25 => ?_) (fun c25 => ?_)
    · refine J_iload_n 1 d_R_digitOf_45 rfl rfl ?_
      refine J_bipush d_R_digitOf_46 (i8_ok (by decide)) ?_
      refine J_if_icmplt (tgt := 65) d_R_digitOf_48 (by decide) ⟨by omega, by omega⟩ ⟨by omega, by omega⟩ (fun c48 => ?_) (fun c48 => ?_)
      · refine J_iload_n 0 d_R_digitOf_65 rfl rfl ?_
        refine J_iload_n 2 d_R_digitOf_66 rfl rfl ?_
        refine J_if_icmpge (tgt := 74) d_R_digitOf_67 (by decide) ⟨by omega, by omega⟩ ⟨by omega, by omega⟩ (fun c67 => ?_) (fun c67 => ?_)
        · refine J_iconst d_R_digitOf_74 ?_
          refine J_iret rfl rfl d_R_digitOf_75 ⟨by decide, by decide⟩ ?_
          refine ⟨_, rfl, rfl, rfl, ?_, rfl⟩
          unfold dgr dgc
          (repeat' split) <;> omega
        · refine J_iload_n 0 d_R_digitOf_70 rfl rfl ?_
          refine J_goto (tgt := 75) d_R_digitOf_71 (by decide) ?_
          refine J_iret rfl rfl d_R_digitOf_75 ⟨by decide, by decide⟩ ?_
          refine ⟨_, rfl, rfl, rfl, ?_, rfl⟩
          unfold dgr dgc
          (repeat' split) <;> omega
      · refine J_iload_n 1 d_R_digitOf_51 rfl rfl ?_
        refine J_bipush d_R_digitOf_52 (i8_ok (by decide)) ?_
        refine J_if_icmpgt (tgt := 65) d_R_digitOf_54 (by decide) ⟨by omega, by omega⟩ ⟨by omega, by omega⟩ (fun c54 => ?_) (fun c54 => ?_)
        · refine J_iload_n 0 d_R_digitOf_65 rfl rfl ?_
          refine J_iload_n 2 d_R_digitOf_66 rfl rfl ?_
          refine J_if_icmpge (tgt := 74) d_R_digitOf_67 (by decide) ⟨by omega, by omega⟩ ⟨by omega, by omega⟩ (fun c67 => ?_) (fun c67 => ?_)
          · refine J_iconst d_R_digitOf_74 ?_
            refine J_iret rfl rfl d_R_digitOf_75 ⟨by decide, by decide⟩ ?_
            refine ⟨_, rfl, rfl, rfl, ?_, rfl⟩
            unfold dgr dgc
            (repeat' split) <;> omega
          · refine J_iload_n 0 d_R_digitOf_70 rfl rfl ?_
            refine J_goto (tgt := 75) d_R_digitOf_71 (by decide) ?_
            refine J_iret rfl rfl d_R_digitOf_75 ⟨by decide, by decide⟩ ?_
            refine ⟨_, rfl, rfl, rfl, ?_, rfl⟩
            unfold dgr dgc
            (repeat' split) <;> omega
        · refine J_iload_n 1 d_R_digitOf_57 rfl rfl ?_
          refine J_bipush d_R_digitOf_58 (i8_ok (by decide)) ?_
          refine J_isub d_R_digitOf_60 ?_
          refine J_bipush d_R_digitOf_61 (i8_ok (by decide)) ?_
          refine J_iadd d_R_digitOf_63 ?_
          refine J_topi (r := c - 55) (congrArg iI (by omega)) ?_
          refine J_istore_n (lv' := [(2, .int (iI (c - 55))), (0, .int (iI c)), (1, .int (iI r))]) d_R_digitOf_64 rfl (by decide) rfl ?_
          refine J_iload_n 0 d_R_digitOf_65 rfl rfl ?_
          refine J_iload_n 2 d_R_digitOf_66 rfl rfl ?_
          refine J_if_icmpge (tgt := 74) d_R_digitOf_67 (by decide) ⟨by omega, by omega⟩ ⟨by omega, by omega⟩ (fun c67 => ?_) (fun c67 => ?_)
          · refine J_iconst d_R_digitOf_74 ?_
            refine J_iret rfl rfl d_R_digitOf_75 ⟨by decide, by decide⟩ ?_
            refine ⟨_, rfl, rfl, rfl, ?_, rfl⟩
            unfold dgr dgc
            (repeat' split) <;> omega
          · refine J_iload_n 0 d_R_digitOf_70 rfl rfl ?_
            refine J_goto (tgt := 75) d_R_digitOf_71 (by decide) ?_
            refine J_iret rfl rfl d_R_digitOf_75 ⟨by decide, by decide⟩ ?_
            refine ⟨_, rfl, rfl, rfl, ?_, rfl⟩
            unfold dgr dgc
            (repeat' split) <;> omega
    · refine J_iload_n 1 d_R_digitOf_28 rfl rfl ?_
      refine J_bipush d_R_digitOf_29 (i8_ok (by decide)) ?_
      refine J_if_icmpgt (tgt := 45) d_R_digitOf_31 (by decide) ⟨by omega, by omega⟩ ⟨by omega, by omega⟩ (fun c31 => ?_) (fun c31 => ?_)
      · refine J_iload_n 1 d_R_digitOf_45 rfl rfl ?_
        refine J_bipush d_R_digitOf_46 (i8_ok (by decide)) ?_
        refine J_if_icmplt (tgt := 65) d_R_digitOf_48 (by decide) ⟨by omega, by omega⟩ ⟨by omega, by omega⟩ (fun c48 => ?_) (fun c48 => ?_)
        · refine J_iload_n 0 d_R_digitOf_65 rfl rfl ?_
          refine J_iload_n 2 d_R_digitOf_66 rfl rfl ?_
          refine J_if_icmpge (tgt := 74) d_R_digitOf_67 (by decide) ⟨by omega, by omega⟩ ⟨by omega, by omega⟩ (fun c67 => ?_) (fun c67 => ?_)
          · refine J_iconst d_R_digitOf_74 ?_
            refine J_iret rfl rfl d_R_digitOf_75 ⟨by decide, by decide⟩ ?_
            refine ⟨_, rfl, rfl, rfl, ?_, rfl⟩
            unfold dgr dgc
            (repeat' split) <;> omega
          · refine J_iload_n 0 d_R_digitOf_70 rfl rfl ?_
            refine J_goto (tgt := 75) d_R_digitOf_71 (by decide) ?_
            refine J_iret rfl rfl d_R_digitOf_75 ⟨by decide, by decide⟩ ?_
            refine ⟨_, rfl, rfl, rfl, ?_, rfl⟩
            unfold dgr dgc
            (repeat' split) <;> omega
        · refine J_iload_n 1 d_R_digitOf_51 rfl rfl ?_
          refine J_bipush d_R_digitOf_52 (i8_ok (by decide)) ?_
          refine J_if_icmpgt (tgt := 65) d_R_digitOf_54 (by decide) ⟨by omega, by omega⟩ ⟨by omega, by omega⟩ (fun c54 => ?_) (fun c54 => ?_)
          · refine J_iload_n 0 d_R_digitOf_65 rfl rfl ?_
            refine J_iload_n 2 d_R_digitOf_66 rfl rfl ?_
            refine J_if_icmpge (tgt := 74) d_R_digitOf_67 (by decide) ⟨by omega, by omega⟩ ⟨by omega, by omega⟩ (fun c67 => ?_) (fun c67 => ?_)
            · refine J_iconst d_R_digitOf_74 ?_
              refine J_iret rfl rfl d_R_digitOf_75 ⟨by decide, by decide⟩ ?_
              refine ⟨_, rfl, rfl, rfl, ?_, rfl⟩
              unfold dgr dgc
              (repeat' split) <;> omega
            · refine J_iload_n 0 d_R_digitOf_70 rfl rfl ?_
              refine J_goto (tgt := 75) d_R_digitOf_71 (by decide) ?_
              refine J_iret rfl rfl d_R_digitOf_75 ⟨by decide, by decide⟩ ?_
              refine ⟨_, rfl, rfl, rfl, ?_, rfl⟩
              unfold dgr dgc
              (repeat' split) <;> omega
          · refine J_iload_n 1 d_R_digitOf_57 rfl rfl ?_
            refine J_bipush d_R_digitOf_58 (i8_ok (by decide)) ?_
            refine J_isub d_R_digitOf_60 ?_
            refine J_bipush d_R_digitOf_61 (i8_ok (by decide)) ?_
            refine J_iadd d_R_digitOf_63 ?_
            refine J_topi (r := c - 55) (congrArg iI (by omega)) ?_
            refine J_istore_n (lv' := [(2, .int (iI (c - 55))), (0, .int (iI c)), (1, .int (iI r))]) d_R_digitOf_64 rfl (by decide) rfl ?_
            refine J_iload_n 0 d_R_digitOf_65 rfl rfl ?_
            refine J_iload_n 2 d_R_digitOf_66 rfl rfl ?_
            refine J_if_icmpge (tgt := 74) d_R_digitOf_67 (by decide) ⟨by omega, by omega⟩ ⟨by omega, by omega⟩ (fun c67 => ?_) (fun c67 => ?_)
            · refine J_iconst d_R_digitOf_74 ?_
              refine J_iret rfl rfl d_R_digitOf_75 ⟨by decide, by decide⟩ ?_
              refine ⟨_, rfl, rfl, rfl, ?_, rfl⟩
              unfold dgr dgc
              (repeat' split) <;> omega
            · refine J_iload_n 0 d_R_digitOf_70 rfl rfl ?_
              refine J_goto (tgt := 75) d_R_digitOf_71 (by decide) ?_
              refine J_iret rfl rfl d_R_digitOf_75 ⟨by decide, by decide⟩ ?_
              refine ⟨_, rfl, rfl, rfl, ?_, rfl⟩
              unfold dgr dgc
              (repeat' split) <;> omega
      · refine J_iload_n 1 d_R_digitOf_34 rfl rfl ?_
        refine J_bipush d_R_digitOf_35 (i8_ok (by decide)) ?_
        refine J_isub d_R_digitOf_37 ?_
        refine J_bipush d_R_digitOf_38 (i8_ok (by decide)) ?_
        refine J_iadd d_R_digitOf_40 ?_
        refine J_topi (r := c - 87) (congrArg iI (by omega)) ?_
        refine J_istore_n (lv' := [(2, .int (iI (c - 87))), (0, .int (iI c)), (1, .int (iI r))]) d_R_digitOf_41 rfl (by decide) rfl ?_
        refine J_goto (tgt := 65) d_R_digitOf_42 (by decide) ?_
        refine J_iload_n 0 d_R_digitOf_65 rfl rfl ?_
        refine J_iload_n 2 d_R_digitOf_66 rfl rfl ?_
        refine J_if_icmpge (tgt := 74) d_R_digitOf_67 (by decide) ⟨by omega, by omega⟩ ⟨by omega, by omega⟩ (fun c67 => ?_) (fun c67 => ?_)
        · refine J_iconst d_R_digitOf_74 ?_
          refine J_iret rfl rfl d_R_digitOf_75 ⟨by decide, by decide⟩ ?_
          refine ⟨_, rfl, rfl, rfl, ?_, rfl⟩
          unfold dgr dgc
          (repeat' split) <;> omega
        · refine J_iload_n 0 d_R_digitOf_70 rfl rfl ?_
          refine J_goto (tgt := 75) d_R_digitOf_71 (by decide) ?_
          refine J_iret rfl rfl d_R_digitOf_75 ⟨by decide, by decide⟩ ?_
          refine ⟨_, rfl, rfl, rfl, ?_, rfl⟩
          unfold dgr dgc
          (repeat' split) <;> omega
  · refine J_iload_n 1 d_R_digitOf_8 rfl rfl ?_
    refine J_bipush d_R_digitOf_9 (i8_ok (by decide)) ?_
    refine J_if_icmpgt (tgt := 22) d_R_digitOf_11 (by decide) ⟨by omega, by omega⟩ ⟨by omega, by omega⟩ (fun c11 => ?_) (fun c11 => ?_)
    · refine J_iload_n 1 d_R_digitOf_22 rfl rfl ?_
      refine J_bipush d_R_digitOf_23 (i8_ok (by decide)) ?_
      refine J_if_icmplt (tgt := 45) d_R_digitOf_25 (by decide) ⟨by omega, by omega⟩ ⟨by omega, by omega⟩ (fun c25 => ?_) (fun c25 => ?_)
      · refine J_iload_n 1 d_R_digitOf_45 rfl rfl ?_
        refine J_bipush d_R_digitOf_46 (i8_ok (by decide)) ?_
        refine J_if_icmplt (tgt := 65) d_R_digitOf_48 (by decide) ⟨by omega, by omega⟩ ⟨by omega, by omega⟩ (fun c48 => ?_) (fun c48 => ?_)
        · refine J_iload_n 0 d_R_digitOf_65 rfl rfl ?_
          refine J_iload_n 2 d_R_digitOf_66 rfl rfl ?_
          refine J_if_icmpge (tgt := 74) d_R_digitOf_67 (by decide) ⟨by omega, by omega⟩ ⟨by omega, by omega⟩ (fun c67 => ?_) (fun c67 => ?_)
          · refine J_iconst d_R_digitOf_74 ?_
            refine J_iret rfl rfl d_R_digitOf_75 ⟨by decide, by decide⟩ ?_
            refine ⟨_, rfl, rfl, rfl, ?_, rfl⟩
            unfold dgr dgc
            (repeat' split) <;> omega
          · refine J_iload_n 0 d_R_digitOf_70 rfl rfl ?_
            refine J_goto (tgt := 75) d_R_digitOf_71 (by decide) ?_
            refine J_iret rfl rfl d_R_digitOf_75 ⟨by decide, by decide⟩ ?_
            refine ⟨_, rfl, rfl, rfl, ?_, rfl⟩
            unfold dgr dgc
            (repeat' split) <;> omega
        · refine J_iload_n 1 d_R_digitOf_51 rfl rfl ?_
          refine J_bipush d_R_digitOf_52 (i8_ok (by decide)) ?_
          refine J_if_icmpgt (tgt := 65) d_R_digitOf_54 (by decide) ⟨by omega, by omega⟩ ⟨by omega, by omega⟩ (fun c54 => ?_) (fun c54 => ?_)
          · refine J_iload_n 0 d_R_digitOf_65 rfl rfl ?_
            refine J_iload_n 2 d_R_digitOf_66 rfl rfl ?_
            refine J_if_icmpge (tgt := 74) d_R_digitOf_67 (by decide) ⟨by omega, by omega⟩ ⟨by omega, by omega⟩ (fun c67 => ?_) (fun c67 => ?_)
            · refine J_iconst d_R_digitOf_74 ?_
              refine J_iret rfl rfl d_R_digitOf_75 ⟨by decide, by decide⟩ ?_
              refine ⟨_, rfl, rfl, rfl, ?_, rfl⟩
              unfold dgr dgc
              (repeat' split) <;> omega
            · refine J_iload_n 0 d_R_digitOf_70 rfl rfl ?_
              refine J_goto (tgt := 75) d_R_digitOf_71 (by decide) ?_
              refine J_iret rfl rfl d_R_digitOf_75 ⟨by decide, by decide⟩ ?_
              refine ⟨_, rfl, rfl, rfl, ?_, rfl⟩
              unfold dgr dgc
              (repeat' split) <;> omega
          · refine J_iload_n 1 d_R_digitOf_57 rfl rfl ?_
            refine J_bipush d_R_digitOf_58 (i8_ok (by decide)) ?_
            refine J_isub d_R_digitOf_60 ?_
            refine J_bipush d_R_digitOf_61 (i8_ok (by decide)) ?_
            refine J_iadd d_R_digitOf_63 ?_
            refine J_topi (r := c - 55) (congrArg iI (by omega)) ?_
            refine J_istore_n (lv' := [(2, .int (iI (c - 55))), (0, .int (iI c)), (1, .int (iI r))]) d_R_digitOf_64 rfl (by decide) rfl ?_
            refine J_iload_n 0 d_R_digitOf_65 rfl rfl ?_
            refine J_iload_n 2 d_R_digitOf_66 rfl rfl ?_
            refine J_if_icmpge (tgt := 74) d_R_digitOf_67 (by decide) ⟨by omega, by omega⟩ ⟨by omega, by omega⟩ (fun c67 => ?_) (fun c67 => ?_)
            · refine J_iconst d_R_digitOf_74 ?_
              refine J_iret rfl rfl d_R_digitOf_75 ⟨by decide, by decide⟩ ?_
              refine ⟨_, rfl, rfl, rfl, ?_, rfl⟩
              unfold dgr dgc
              (repeat' split) <;> omega
            · refine J_iload_n 0 d_R_digitOf_70 rfl rfl ?_
              refine J_goto (tgt := 75) d_R_digitOf_71 (by decide) ?_
              refine J_iret rfl rfl d_R_digitOf_75 ⟨by decide, by decide⟩ ?_
              refine ⟨_, rfl, rfl, rfl, ?_, rfl⟩
              unfold dgr dgc
              (repeat' split) <;> omega
      · refine J_iload_n 1 d_R_digitOf_28 rfl rfl ?_
        refine J_bipush d_R_digitOf_29 (i8_ok (by decide)) ?_
        refine J_if_icmpgt (tgt := 45) d_R_digitOf_31 (by decide) ⟨by omega, by omega⟩ ⟨by omega, by omega⟩ (fun c31 => ?_) (fun c31 => ?_)
        · refine J_iload_n 1 d_R_digitOf_45 rfl rfl ?_
          refine J_bipush d_R_digitOf_46 (i8_ok (by decide)) ?_
          refine J_if_icmplt (tgt := 65) d_R_digitOf_48 (by decide) ⟨by omega, by omega⟩ ⟨by omega, by omega⟩ (fun c48 => ?_) (fun c48 => ?_)
          · refine J_iload_n 0 d_R_digitOf_65 rfl rfl ?_
            refine J_iload_n 2 d_R_digitOf_66 rfl rfl ?_
            refine J_if_icmpge (tgt := 74) d_R_digitOf_67 (by decide) ⟨by omega, by omega⟩ ⟨by omega, by omega⟩ (fun c67 => ?_) (fun c67 => ?_)
            · refine J_iconst d_R_digitOf_74 ?_
              refine J_iret rfl rfl d_R_digitOf_75 ⟨by decide, by decide⟩ ?_
              refine ⟨_, rfl, rfl, rfl, ?_, rfl⟩
              unfold dgr dgc
              (repeat' split) <;> omega
            · refine J_iload_n 0 d_R_digitOf_70 rfl rfl ?_
              refine J_goto (tgt := 75) d_R_digitOf_71 (by decide) ?_
              refine J_iret rfl rfl d_R_digitOf_75 ⟨by decide, by decide⟩ ?_
              refine ⟨_, rfl, rfl, rfl, ?_, rfl⟩
              unfold dgr dgc
              (repeat' split) <;> omega
          · refine J_iload_n 1 d_R_digitOf_51 rfl rfl ?_
            refine J_bipush d_R_digitOf_52 (i8_ok (by decide)) ?_
            refine J_if_icmpgt (tgt := 65) d_R_digitOf_54 (by decide) ⟨by omega, by omega⟩ ⟨by omega, by omega⟩ (fun c54 => ?_) (fun c54 => ?_)
            · refine J_iload_n 0 d_R_digitOf_65 rfl rfl ?_
              refine J_iload_n 2 d_R_digitOf_66 rfl rfl ?_
              refine J_if_icmpge (tgt := 74) d_R_digitOf_67 (by decide) ⟨by omega, by omega⟩ ⟨by omega, by omega⟩ (fun c67 => ?_) (fun c67 => ?_)
              · refine J_iconst d_R_digitOf_74 ?_
                refine J_iret rfl rfl d_R_digitOf_75 ⟨by decide, by decide⟩ ?_
                refine ⟨_, rfl, rfl, rfl, ?_, rfl⟩
                unfold dgr dgc
                (repeat' split) <;> omega
              · refine J_iload_n 0 d_R_digitOf_70 rfl rfl ?_
                refine J_goto (tgt := 75) d_R_digitOf_71 (by decide) ?_
                refine J_iret rfl rfl d_R_digitOf_75 ⟨by decide, by decide⟩ ?_
                refine ⟨_, rfl, rfl, rfl, ?_, rfl⟩
                unfold dgr dgc
                (repeat' split) <;> omega
            · refine J_iload_n 1 d_R_digitOf_57 rfl rfl ?_
              refine J_bipush d_R_digitOf_58 (i8_ok (by decide)) ?_
              refine J_isub d_R_digitOf_60 ?_
              refine J_bipush d_R_digitOf_61 (i8_ok (by decide)) ?_
              refine J_iadd d_R_digitOf_63 ?_
              refine J_topi (r := c - 55) (congrArg iI (by omega)) ?_
              refine J_istore_n (lv' := [(2, .int (iI (c - 55))), (0, .int (iI c)), (1, .int (iI r))]) d_R_digitOf_64 rfl (by decide) rfl ?_
              refine J_iload_n 0 d_R_digitOf_65 rfl rfl ?_
              refine J_iload_n 2 d_R_digitOf_66 rfl rfl ?_
              refine J_if_icmpge (tgt := 74) d_R_digitOf_67 (by decide) ⟨by omega, by omega⟩ ⟨by omega, by omega⟩ (fun c67 => ?_) (fun c67 => ?_)
              · refine J_iconst d_R_digitOf_74 ?_
                refine J_iret rfl rfl d_R_digitOf_75 ⟨by decide, by decide⟩ ?_
                refine ⟨_, rfl, rfl, rfl, ?_, rfl⟩
                unfold dgr dgc
                (repeat' split) <;> omega
              · refine J_iload_n 0 d_R_digitOf_70 rfl rfl ?_
                refine J_goto (tgt := 75) d_R_digitOf_71 (by decide) ?_
                refine J_iret rfl rfl d_R_digitOf_75 ⟨by decide, by decide⟩ ?_
                refine ⟨_, rfl, rfl, rfl, ?_, rfl⟩
                unfold dgr dgc
                (repeat' split) <;> omega
        · refine J_iload_n 1 d_R_digitOf_34 rfl rfl ?_
          refine J_bipush d_R_digitOf_35 (i8_ok (by decide)) ?_
          refine J_isub d_R_digitOf_37 ?_
          refine J_bipush d_R_digitOf_38 (i8_ok (by decide)) ?_
          refine J_iadd d_R_digitOf_40 ?_
          refine J_topi (r := c - 87) (congrArg iI (by omega)) ?_
          refine J_istore_n (lv' := [(2, .int (iI (c - 87))), (0, .int (iI c)), (1, .int (iI r))]) d_R_digitOf_41 rfl (by decide) rfl ?_
          refine J_goto (tgt := 65) d_R_digitOf_42 (by decide) ?_
          refine J_iload_n 0 d_R_digitOf_65 rfl rfl ?_
          refine J_iload_n 2 d_R_digitOf_66 rfl rfl ?_
          refine J_if_icmpge (tgt := 74) d_R_digitOf_67 (by decide) ⟨by omega, by omega⟩ ⟨by omega, by omega⟩ (fun c67 => ?_) (fun c67 => ?_)
          · refine J_iconst d_R_digitOf_74 ?_
            refine J_iret rfl rfl d_R_digitOf_75 ⟨by decide, by decide⟩ ?_
            refine ⟨_, rfl, rfl, rfl, ?_, rfl⟩
            unfold dgr dgc
            (repeat' split) <;> omega
          · refine J_iload_n 0 d_R_digitOf_70 rfl rfl ?_
            refine J_goto (tgt := 75) d_R_digitOf_71 (by decide) ?_
            refine J_iret rfl rfl d_R_digitOf_75 ⟨by decide, by decide⟩ ?_
            refine ⟨_, rfl, rfl, rfl, ?_, rfl⟩
            unfold dgr dgc
            (repeat' split) <;> omega
    · refine J_iload_n 1 d_R_digitOf_14 rfl rfl ?_
      refine J_bipush d_R_digitOf_15 (i8_ok (by decide)) ?_
      refine J_isub d_R_digitOf_17 ?_
      refine J_istore_n (lv' := [(2, .int (iI (c - 48))), (0, .int (iI c)), (1, .int (iI r))]) d_R_digitOf_18 rfl (by decide) rfl ?_
      refine J_goto (tgt := 65) d_R_digitOf_19 (by decide) ?_
      refine J_iload_n 0 d_R_digitOf_65 rfl rfl ?_
      refine J_iload_n 2 d_R_digitOf_66 rfl rfl ?_
      refine J_if_icmpge (tgt := 74) d_R_digitOf_67 (by decide) ⟨by omega, by omega⟩ ⟨by omega, by omega⟩ (fun c67 => ?_) (fun c67 => ?_)
      · refine J_iconst d_R_digitOf_74 ?_
        refine J_iret rfl rfl d_R_digitOf_75 ⟨by decide, by decide⟩ ?_
        refine ⟨_, rfl, rfl, rfl, ?_, rfl⟩
        unfold dgr dgc
        (repeat' split) <;> omega
      · refine J_iload_n 0 d_R_digitOf_70 rfl rfl ?_
        refine J_goto (tgt := 75) d_R_digitOf_71 (by decide) ?_
        refine J_iret rfl rfl d_R_digitOf_75 ⟨by decide, by decide⟩ ?_
        refine ⟨_, rfl, rfl, rfl, ?_, rfl⟩
        unfold dgr dgc
        (repeat' split) <;> omega
set_option maxRecDepth 100000 in
set_option maxHeartbeats 4000000 in
theorem c_R_parseDigits {l : Launch} (hfl : l.flags = flags0) {D : va_G} {g : Nat → ClassId} {ad : Nat → Nat} {N : Nat} {F0 : Nat → va_E} {W : Nat → Nat} {K S : Nat → Int} {lh : Nat → Int} {ln : List Nat} {a0 : Nat} {t0 : Int} {q v0 r m0 pe ne ve : Nat}
    (hN : 109 ≤ N) (hW : bW W) (hT7 : F0 7 = oT ad 7 (ln.length : Int)) (hT8 : F0 8 = aT g lh) (htx : tx lh ln) (hl40 : ln.length ≤ 40) (hch : ∀ c, c ∈ ln → 32 ≤ c ∧ c ≤ 126) (hRd : F0 41 = oR ad (a0 : Int) t0) (hq : isN q) (hv0 : W q = v0) (hr : 2 ≤ r ∧ r ≤ 16) (ha0 : a0 ≤ ln.length) (hvb : v0 < r ^ m0) (hm0 : m0 ≤ 40) (hres : mdg ln r 41 a0 0 v0 = (pe, ne, ve)) :
    JC l y_R_parseDigits b_R_parseDigits 6 (Option.some Jvm.ClassFile.FieldType.int) rm_R_parseDigits (0, 0) D jCl (jTys g) ad N (cF ad g F0 W K S) [.ref (ad 41), .int (iI (r : Int)), .ref (ad q)] (ji ad N (fun z F' => z = (ne : Int) ∧ bW (va_up W q ve) ∧ F' = cF ad g (va_up F0 41 (oR ad (pe : Int) t0)) (va_up W q ve) K S)) := by
  have hq97 := nMask_lt hq
  have hq1 := isN_1 hq
  refine JC.go hfl (own := "NumberTower$Reader") (lv := [(0, .ref (ad 41)), (1, .int (iI (r : Int))), (2, .ref (ad q))]) rfl (by decide +kernel) (Nat.le_of_ble_eq_true rfl) rfl (fun A => ?_)
  refine J_iconst d_R_parseDigits_0 ?_
  refine J_istore_n (lv' := [(3, .int (iI 0)), (0, .ref (ad 41)), (1, .int (iI (r : Int))), (2, .ref (ad q))]) d_R_parseDigits_1 rfl (by decide) rfl ?_
  refine J_iconst d_R_parseDigits_2 ?_
  refine J_istore (lv' := [(4, .int (iI 0)), (3, .int (iI 0)), (0, .ref (ad 41)), (1, .int (iI (r : Int))), (2, .ref (ad q))]) d_R_parseDigits_3 (by decide) rfl ?_
  refine J_pick (lv' := [(0, .ref (ad 41)), (1, .int (iI (r : Int))), (2, .ref (ad q)), (3, .int (iI 0)), (4, .int (iI 0))]) [2, 3, 4, 1, 0] rfl ?_
  refine J_eqF (F2 := cF ad g (va_up F0 41 (.inr (5, [.ref (ad 7), .int (iI (a0 : Int)), .int (iI t0)]))) W K S) (congrArg (fun qq : Nat → va_E => cF ad g qq W K S) (up_same1 (i := 41) (a := ((.inr (5, [.ref (ad 7), .int (iI (a0 : Int)), .int (iI t0)])) : va_E)) (hRd))) ?_
  have hW1 := (congrArg bW (up_same1 (i := q) (a := v0) (show (W) q = v0 from hv0))).mp hW
  refine J_eqF (F2 := cF ad g (va_up F0 41 (.inr (5, [.ref (ad 7), .int (iI (a0 : Int)), .int (iI t0)]))) (va_up W q v0) K S) (congrArg (fun qq => cF ad g (va_up F0 41 (.inr (5, [.ref (ad 7), .int (iI (a0 : Int)), .int (iI t0)]))) qq K S) (up_same1 (i := q) (a := v0) (show (W) q = v0 from hv0))) ?_
  have loop5 : ∀ (fuel : Nat) (p : Nat) (v : Nat) (i : Nat) (hp : p ≤ ln.length ∧ a0 + i ≤ p) (hi : i ≤ 40) (hW1 : bW (va_up W q v)) (hv : v < r ^ (m0 + i)) (hmr : mdg ln r (42 - p) p i v = (pe, ne, ve)) (hfu : 41 - i < fuel), J l rm_R_parseDigits (0, 0) "NumberTower$Reader" b_R_parseDigits 6 (Option.some Jvm.ClassFile.FieldType.int) D jCl (jTys g) A (fun _ me => me.name = y_R_parseDigits.name) (ji ad N (fun z F' => z = (ne : Int) ∧ bW (va_up W q ve) ∧ F' = cF ad g (va_up F0 41 (oR ad (pe : Int) t0)) (va_up W q ve) K S)) ad N 0 0 5 [(0, .ref (ad 41)), (1, .int (iI (r : Int))), (2, .ref (ad q)), (3, .int (iI (i : Int))), (4, .int (iI (i : Int)))] [] (cF ad g (va_up F0 41 (.inr (5, [.ref (ad 7), .int (iI (p : Int)), .int (iI t0)]))) (va_up W q v) K S) := by
    intro fuel
    induction fuel with
    | zero => intro p v i hp hi hW1 hv hmr hfu; exact absurd hfu (Nat.not_lt_zero _)
    | succ fuel ih =>
      intro p v i hp hi hW1 hv hmr hfu
      have hcp := tchr hch p
      have hcq := tchr hch (p + 1)
      have hpl : p ≤ 41 := by omega
      refine J_iload 4 d_R_parseDigits_5 rfl ?_
      refine J_bipush d_R_parseDigits_7 (i8_ok (by decide)) ?_
      refine J_if_icmpge (tgt := 112) d_R_parseDigits_9 (by decide) ⟨by omega, by omega⟩ ⟨by omega, by omega⟩ (fun c9 => ?_) (fun c9 => ?_)
      · refine J_iload_n 3 d_R_parseDigits_112 rfl rfl ?_
        refine J_iret rfl rfl d_R_parseDigits_113 ⟨by decide, by decide⟩ ?_
        have hi40 : i = 40 := by omega
        have hend : mdg ln r (42 - p) p i v = (p, i, v) := by
          rw [show 42 - p = 41 - p + 1 by omega]; exact mdg_e (fun h => by have := dgr_pos h; omega) (fun h => by have := dgr_pos h.2.2; omega)
        rw [hmr] at hend
        injection hend with e1 hend
        injection hend with e2 e3
        refine ⟨_, rfl, rfl, rfl, by rw [e2], ?_, ?_⟩
        · rw [e3]; exact hW1
        · rw [e1, e3]
      · have lab62 : ∀ (b : Nat) (hb : (b = p + 1 ∧ 0 < i ∧ chr ln p = 95 ∧ 0 ≤ dgr (chr ln (p + 1)) r) ∨ (b = p ∧ ¬(0 < i ∧ chr ln p = 95 ∧ 0 ≤ dgr (chr ln (p + 1)) r))) , J l rm_R_parseDigits (0, 0) "NumberTower$Reader" b_R_parseDigits 6 (Option.some Jvm.ClassFile.FieldType.int) D jCl (jTys g) A (fun _ me => me.name = y_R_parseDigits.name) (ji ad N (fun z F' => z = (ne : Int) ∧ bW (va_up W q ve) ∧ F' = cF ad g (va_up F0 41 (oR ad (pe : Int) t0)) (va_up W q ve) K S)) ad N 0 0 62 [(0, .ref (ad 41)), (1, .int (iI (r : Int))), (2, .ref (ad q)), (3, .int (iI (i : Int))), (4, .int (iI (i : Int)))] [] (cF ad g (va_up F0 41 (.inr (5, [.ref (ad 7), .int (iI (b : Int)), .int (iI t0)]))) (va_up W q v) K S) := by
          intro b hb
          have hcb := tchr hch b
          have hbp : b ≤ p + 1 ∧ p ≤ b := by omega
          replace hb : hold _ := hb
          refine J_aload_n 0 d_R_parseDigits_62 rfl rfl ?_
          refine gf_R_9 (by omega) ((cF_0 (by decide)).trans (by rw [va_up_self])) rfl d_R_parseDigits_63 ?_
          refine J_aload_n 0 d_R_parseDigits_66 rfl rfl ?_
          refine gf_R_15 (by omega) ((cF_0 (by decide)).trans (by rw [va_up_self])) rfl d_R_parseDigits_67 ?_
          refine J_callVi cw_R_28 nh_T_at pn_T_at rfl rfl (by omega) ((cF_0 (by decide)).trans (by rw [va_up_ne _ _ (by decide)]; exact hT7)) (As := [.int (iI (b : Int))]) (rest := []) rfl (Nat.le_of_ble_eq_true rfl) ⟨by decide, by decide⟩ rfl ⟨by decide, by decide⟩ d_R_parseDigits_70 (c_T_at hfl (k := 7) (w := ln) (hh := lh) (n := (b : Int)) (by omega) ((cF_0 (by decide)).trans (by rw [va_up_ne _ _ (by decide)]; exact hT7)) ((cF_0 (by decide)).trans (by rw [va_up_ne _ _ (by decide)]; exact hT8)) htx (by omega) ⟨by omega, by omega⟩) (fun ta2 F1 hq => ?_)
          obtain ⟨hta2, eF1⟩ := hq
          refine J_eqF eF1 ?_
          refine J_topi (r := tat ln (b : Int)) (congrArg iI hta2) ?_
          refine J_iload_n 1 d_R_parseDigits_73 rfl rfl ?_
          refine J_callSi cw_R_66 nh_R_digitOf pn_R_digitOf rfl (As := [.int (iI (tat ln (b : Int))), .int (iI (r : Int))]) (rest := []) rfl (Nat.le_of_ble_eq_true rfl) ⟨by decide, by decide⟩ rfl ⟨by decide, by decide⟩ d_R_parseDigits_74 (c_R_digitOf hfl (c := tat ln (b : Int)) (r := (r : Int)) ⟨by omega, by omega⟩ ⟨by omega, by omega⟩) (fun z3 F2 hq => ?_)
          obtain ⟨hz3, eF2⟩ := hq
          refine J_eqF eF2 ?_
          have hdbz3 := dgr_b (c := (chr ln b : Int)) (r := (r : Int))
          refine J_topi (r := dgr (chr ln b : Int) (r : Int)) (congrArg iI (by rw [hz3]; exact dgr_tat hch b (by omega))) ?_
          refine J_istore (lv' := [(5, .int (iI (dgr (chr ln b : Int) (r : Int)))), (0, .ref (ad 41)), (1, .int (iI (r : Int))), (2, .ref (ad q)), (3, .int (iI (i : Int))), (4, .int (iI (i : Int)))]) d_R_parseDigits_77 (by decide) rfl ?_
          refine J_iload 0 d_R_parseDigits_79 rfl ?_
          refine J_ifge (tgt := 86) d_R_parseDigits_81 (by decide) ⟨by omega, by omega⟩ (fun c81 => ?_) (fun c81 => ?_)
          · have hdl : (dgr (chr ln b : Int) (r : Int)).toNat < r := by omega
            have hbl : b < ln.length := by omega
            have hvn : v * r + (dgr (chr ln b : Int) (r : Int)).toNat < r ^ (m0 + (i + 1)) := by
              have h1 : (v + 1) * r ≤ r ^ (m0 + i) * r := Nat.mul_le_mul_right _ hv
              rw [← Nat.add_assoc, Nat.pow_succ]
              rw [Nat.add_mul, Nat.one_mul] at h1
              omega
            have hv480 : v * r + (dgr (chr ln b : Int) (r : Int)).toNat < 2 ^ 480 := by
              refine Nat.lt_of_lt_of_le hvn (Nat.le_trans (Nat.pow_le_pow_left hr.2 _) (Nat.le_trans (Nat.pow_le_pow_right (by decide) (show m0 + (i + 1) ≤ 81 by omega)) (by decide)))
            have hmn : mdg ln r (42 - (b + 1)) (b + 1) (i + 1) (v * r + (dgr (chr ln b : Int) (r : Int)).toNat) = (pe, ne, ve) := by
              rw [← hmr]
              rcases (show _ ∨ _ from hb) with w | w
              · have hnd : ¬ 0 ≤ dgr (chr ln p) r := by
                  rw [w.2.2.1]
                  have e1 : dgc ((95 : Nat) : Int) = -1 := by decide
                  unfold dgr
                  rw [e1]
                  split <;> omega
                rw [w.1, show 42 - p = 40 - p + 1 + 1 by omega, mdg_u hnd w.2, mdg_d w.2.2.2, show 42 - (p + 1 + 1) = 40 - p by omega]
              · rw [w.1, show 42 - p = 41 - p + 1 by omega, mdg_d (by rw [← w.1]; omega), show 42 - (p + 1) = 41 - p by omega]
            refine J_aload_n 3 d_R_parseDigits_86 rfl rfl ?_
            refine J_iload_n 2 d_R_parseDigits_87 rfl rfl ?_
            refine J_iload 0 d_R_parseDigits_88 rfl ?_
            refine J_topi (r := (((dgr (chr ln b : Int) (r : Int)).toNat : Nat) : Int)) (congrArg iI (by omega)) ?_
            refine J_callVv cw_R_70 nh_N_scale pn_N_scale rfl rfl (by omega) (cF_N hq (va_up_self ..)) (As := [.int (iI (r : Int)), .int (iI (((dgr (chr ln b : Int) (r : Int)).toNat : Nat) : Int))]) (rest := []) rfl (Nat.le_of_ble_eq_true rfl) ⟨by decide, by decide⟩ rfl ⟨by decide, by decide⟩ d_R_parseDigits_90 (n_scale hfl (F0 := va_up F0 41 (.inr (5, [.ref (ad 7), .int (iI (b : Int)), .int (iI t0)]))) (W := va_up W q v) (K := K) (S := S) (k := q) (n := r) (t := (dgr (chr ln b : Int) (r : Int)).toNat) (hN := by omega) (hW := hW1) (hk := hq) (x := v) (hx := (va_up_self ..)) (hn := by omega) (hm := by omega) (ht := hv480)) (fun  F7 hq => ?_)
            obtain ⟨hW5, eF6⟩ := hq
            have hW8 := (congrArg bW (up_in0)).mp hW5
            refine J_eqF (F2 := cF ad g (va_up F0 41 (.inr (5, [.ref (ad 7), .int (iI (b : Int)), .int (iI t0)]))) (va_up W q (v * r + ((dgr (chr ln b : Int) (r : Int)).toNat))) K S) (eF6.trans (congrArg (fun qq => cF ad g (va_up F0 41 (.inr (5, [.ref (ad 7), .int (iI (b : Int)), .int (iI t0)]))) qq K S) (up_in0))) ?_
            refine J_iinc (j := 4) (b := (i : Int) + 1) (lv' := [(3, .int (iI ((i : Int) + 1))), (5, .int (iI (dgr (chr ln b : Int) (r : Int)))), (0, .ref (ad 41)), (1, .int (iI (r : Int))), (2, .ref (ad q)), (4, .int (iI (i : Int)))]) d_R_parseDigits_93 rfl (by omega) (by decide) rfl ?_
            refine J_aload_n 2 d_R_parseDigits_96 rfl rfl ?_
            refine J_dup d_R_parseDigits_97 rfl ?_
            refine gf_R_15 (by omega) ((cF_0 (by decide)).trans (by rw [va_up_self])) rfl d_R_parseDigits_98 ?_
            refine J_iconst d_R_parseDigits_101 ?_
            refine J_iadd d_R_parseDigits_102 ?_
            refine pf_R_15 (by omega) ((cF_0 (by decide)).trans (by rw [va_up_self])) (Nat.le_of_ble_eq_true rfl) d_R_parseDigits_103 ?_
            refine J_eqF (F2 := cF ad g (va_up F0 41 (.inr (5, [.ref (ad 7), .int (iI ((b : Int) + 1)), .int (iI t0)]))) (va_up W q (v * r + ((dgr (chr ln b : Int) (r : Int)).toNat))) K S) ((cF_up0 (by decide)).trans (congrArg (fun qq => cF ad g qq (va_up W q (v * r + ((dgr (chr ln b : Int) (r : Int)).toNat))) K S) (up_in0))) ?_
            refine J_eqF (F2 := cF ad g (va_up F0 41 (.inr (5, [.ref (ad 7), .int (iI (((b + 1 : Nat)) : Int)), .int (iI t0)]))) (va_up W q (v * r + ((dgr (chr ln b : Int) (r : Int)).toNat))) K S) (congrArg (fun qq : Int => cF ad g (va_up F0 41 (.inr (5, [.ref (ad 7), .int (iI qq), .int (iI t0)]))) (va_up W q (v * r + ((dgr (chr ln b : Int) (r : Int)).toNat))) K S) (show (b : Int) + 1 = (((b + 1 : Nat)) : Int) from (by omega))) ?_
            refine J_iinc (j := 5) (b := (i : Int) + 1) (lv' := [(4, .int (iI ((i : Int) + 1))), (3, .int (iI ((i : Int) + 1))), (5, .int (iI (dgr (chr ln b : Int) (r : Int)))), (0, .ref (ad 41)), (1, .int (iI (r : Int))), (2, .ref (ad q))]) d_R_parseDigits_106 rfl (by omega) (by decide) rfl ?_
            refine J_goto (tgt := 5) d_R_parseDigits_109 (by decide) ?_
            refine J_pick (lv' := [(0, .ref (ad 41)), (1, .int (iI (r : Int))), (2, .ref (ad q)), (3, .int (iI ((i : Int) + 1))), (4, .int (iI ((i : Int) + 1)))]) [3, 4, 5, 1, 0] rfl ?_
            refine ih ((b + 1 : Nat)) (v * r + ((dgr (chr ln b : Int) (r : Int)).toNat)) (i + 1) ?_ ?_ hW8 hvn hmn (by omega)
            · omega
            · omega
          · have hend : mdg ln r (42 - p) p i v = (b, i, v) := by
              rcases (show _ ∨ _ from hb) with w | w
              · have w2 := w.2.2.2
                rw [← w.1] at w2
                omega
              · rw [w.1]
                by_cases e : 42 - p = 0
                · omega
                · rw [show 42 - p = 41 - p + 1 by omega]; exact mdg_e (by rw [← w.1]; omega) w.2
            rw [hmr] at hend
            injection hend with e1 hend
            injection hend with e2 e3
            refine J_iload_n 4 d_R_parseDigits_84 rfl rfl ?_
            refine J_iret rfl rfl d_R_parseDigits_85 ⟨by decide, by decide⟩ ?_
            refine ⟨_, rfl, rfl, rfl, by rw [e2], ?_, ?_⟩
            · rw [e3]; exact hW1
            · rw [e1, e3]
        refine J_iload_n 3 d_R_parseDigits_12 rfl rfl ?_
        refine J_ifle (tgt := 62) d_R_parseDigits_13 (by decide) ⟨by omega, by omega⟩ (fun c13 => ?_) (fun c13 => ?_)
        · exact lab62 p (Or.inr ⟨rfl, fun w => by have w1 := w.1; have w2 := w.2.1; have w3 := w.2.2; omega⟩)
        · refine J_aload_n 0 d_R_parseDigits_16 rfl rfl ?_
          refine gf_R_9 (by omega) ((cF_0 (by decide)).trans (by rw [va_up_self])) rfl d_R_parseDigits_17 ?_
          refine J_aload_n 0 d_R_parseDigits_20 rfl rfl ?_
          refine gf_R_15 (by omega) ((cF_0 (by decide)).trans (by rw [va_up_self])) rfl d_R_parseDigits_21 ?_
          refine J_callVi cw_R_28 nh_T_at pn_T_at rfl rfl (by omega) ((cF_0 (by decide)).trans (by rw [va_up_ne _ _ (by decide)]; exact hT7)) (As := [.int (iI (p : Int))]) (rest := []) rfl (Nat.le_of_ble_eq_true rfl) ⟨by decide, by decide⟩ rfl ⟨by decide, by decide⟩ d_R_parseDigits_24 (c_T_at hfl (k := 7) (w := ln) (hh := lh) (n := (p : Int)) (by omega) ((cF_0 (by decide)).trans (by rw [va_up_ne _ _ (by decide)]; exact hT7)) ((cF_0 (by decide)).trans (by rw [va_up_ne _ _ (by decide)]; exact hT8)) htx (by omega) ⟨by omega, by omega⟩) (fun ta9 F3 hq => ?_)
          obtain ⟨hta9, eF3⟩ := hq
          refine J_eqF eF3 ?_
          refine J_topi (r := tat ln (p : Int)) (congrArg iI hta9) ?_
          refine J_bipush d_R_parseDigits_27 (i8_ok (by decide)) ?_
          refine J_if_icmpne (tgt := 62) d_R_parseDigits_29 (by decide) ⟨by omega, by omega⟩ ⟨by omega, by omega⟩ (fun c29 => ?_) (fun c29 => ?_)
          · exact lab62 p (Or.inr ⟨rfl, fun w => by have w1 := w.1; have w2 := w.2.1; have w3 := w.2.2; omega⟩)
          · refine J_aload_n 0 d_R_parseDigits_32 rfl rfl ?_
            refine gf_R_9 (by omega) ((cF_0 (by decide)).trans (by rw [va_up_self])) rfl d_R_parseDigits_33 ?_
            refine J_aload_n 0 d_R_parseDigits_36 rfl rfl ?_
            refine gf_R_15 (by omega) ((cF_0 (by decide)).trans (by rw [va_up_self])) rfl d_R_parseDigits_37 ?_
            refine J_iconst d_R_parseDigits_40 ?_
            refine J_iadd d_R_parseDigits_41 ?_
            refine J_topi (r := ((p + 1 : Nat) : Int)) (congrArg iI (by omega)) ?_
            refine J_callVi cw_R_28 nh_T_at pn_T_at rfl rfl (by omega) ((cF_0 (by decide)).trans (by rw [va_up_ne _ _ (by decide)]; exact hT7)) (As := [.int (iI ((p + 1 : Nat) : Int))]) (rest := []) rfl (Nat.le_of_ble_eq_true rfl) ⟨by decide, by decide⟩ rfl ⟨by decide, by decide⟩ d_R_parseDigits_42 (c_T_at hfl (k := 7) (w := ln) (hh := lh) (n := ((p + 1 : Nat) : Int)) (by omega) ((cF_0 (by decide)).trans (by rw [va_up_ne _ _ (by decide)]; exact hT7)) ((cF_0 (by decide)).trans (by rw [va_up_ne _ _ (by decide)]; exact hT8)) htx (by omega) ⟨by omega, by omega⟩) (fun ta10 F4 hq => ?_)
            obtain ⟨hta10, eF4⟩ := hq
            refine J_eqF eF4 ?_
            refine J_topi (r := tat ln ((p + 1 : Nat) : Int)) (congrArg iI hta10) ?_
            refine J_iload_n 1 d_R_parseDigits_45 rfl rfl ?_
            refine J_callSi cw_R_66 nh_R_digitOf pn_R_digitOf rfl (As := [.int (iI (tat ln ((p + 1 : Nat) : Int))), .int (iI (r : Int))]) (rest := []) rfl (Nat.le_of_ble_eq_true rfl) ⟨by decide, by decide⟩ rfl ⟨by decide, by decide⟩ d_R_parseDigits_46 (c_R_digitOf hfl (c := tat ln ((p + 1 : Nat) : Int)) (r := (r : Int)) ⟨by omega, by omega⟩ ⟨by omega, by omega⟩) (fun z11 F5 hq => ?_)
            obtain ⟨hz11, eF5⟩ := hq
            refine J_eqF eF5 ?_
            have hdbz11 := dgr_b (c := (chr ln (p + 1) : Int)) (r := (r : Int))
            refine J_topi (r := dgr (chr ln (p + 1) : Int) (r : Int)) (congrArg iI (by rw [hz11]; exact dgr_tat hch (p + 1) (by omega))) ?_
            refine J_iflt (tgt := 62) d_R_parseDigits_49 (by decide) ⟨by omega, by omega⟩ (fun c49 => ?_) (fun c49 => ?_)
            · exact lab62 p (Or.inr ⟨rfl, fun w => by have w1 := w.1; have w2 := w.2.1; have w3 := w.2.2; omega⟩)
            · refine J_aload_n 0 d_R_parseDigits_52 rfl rfl ?_
              refine J_dup d_R_parseDigits_53 rfl ?_
              refine gf_R_15 (by omega) ((cF_0 (by decide)).trans (by rw [va_up_self])) rfl d_R_parseDigits_54 ?_
              refine J_iconst d_R_parseDigits_57 ?_
              refine J_iadd d_R_parseDigits_58 ?_
              refine pf_R_15 (by omega) ((cF_0 (by decide)).trans (by rw [va_up_self])) (Nat.le_of_ble_eq_true rfl) d_R_parseDigits_59 ?_
              refine J_eqF (F2 := cF ad g (va_up F0 41 (.inr (5, [.ref (ad 7), .int (iI ((p : Int) + 1)), .int (iI t0)]))) (va_up W q v) K S) ((cF_up0 (by decide)).trans (congrArg (fun qq => cF ad g qq (va_up W q v) K S) (up_in0))) ?_
              refine J_eqF (F2 := cF ad g (va_up F0 41 (.inr (5, [.ref (ad 7), .int (iI (((p + 1 : Nat)) : Int)), .int (iI t0)]))) (va_up W q v) K S) (congrArg (fun qq : Int => cF ad g (va_up F0 41 (.inr (5, [.ref (ad 7), .int (iI qq), .int (iI t0)]))) (va_up W q v) K S) (show (p : Int) + 1 = (((p + 1 : Nat)) : Int) from (by omega))) ?_
              exact lab62 (p + 1) (Or.inl ⟨rfl, by omega, by omega, by omega⟩)
  refine loop5 ((41 - 0) + 1) a0 v0 0 ?_ (by omega) hW1 hvb (by rw [← hres]; exact mdg_f _ _ _ _ _ (by omega) (by omega)) (Nat.lt_succ_self _)
  · omega
