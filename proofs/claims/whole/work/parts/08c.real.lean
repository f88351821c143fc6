/-! the class: a real from its bits, sums of parts -/
theorem and_low {o k : Nat} (ho : o % 2 = 1) (hk : o < 2 ^ k) : o &&& (2 ^ k - o) = 1 := by
  obtain ⟨x, rfl⟩ : ∃ x, o = x + 1 := ⟨o - 1, by omega⟩
  apply Nat.eq_of_testBit_eq
  intro i
  rw [Nat.testBit_and, Nat.testBit_two_pow_sub_succ (by omega)]
  cases i with
  | zero =>
    have h0 : 0 < k := by
      apply Nat.pos_of_ne_zero
      rintro rfl
      rw [Nat.pow_zero] at hk; omega
    have h1 : Nat.testBit (x + 1) 0 = true := by rw [Nat.testBit_zero]; exact decide_eq_true ho
    have h2 : Nat.testBit x 0 = false := by rw [Nat.testBit_zero]; exact decide_eq_false (by omega)
    rw [h1, h2, decide_eq_true h0]; rfl
  | succ i =>
    have h1 : Nat.testBit (x + 1) (i + 1) = Nat.testBit x (i + 1) := by
      rw [Nat.testBit_succ, Nat.testBit_succ]; congr 1; omega
    have h2 : Nat.testBit 1 (i + 1) = false := by rw [Nat.testBit_succ]; simp
    rw [h1, h2]
    cases Nat.testBit x (i + 1) <;> simp
theorem land_low {m o t : Nat} (hm : m = o * 2 ^ t) (ho : o % 2 = 1) (hb : m < 2 ^ 62) : lI (m : Int) &&& lI (-(m : Int)) = lI ((2 ^ t : Nat) : Int) := by
  have ht : t < 62 := by
    apply Nat.lt_of_not_le
    intro q
    have h1 : 2 ^ 62 ≤ 2 ^ t := Nat.pow_le_pow_right (by decide) q
    have h2 : 1 * 2 ^ t ≤ o * 2 ^ t := Nat.mul_le_mul_right _ (by omega)
    omega
  have hm0 : 0 < m := by rw [hm]; exact Nat.mul_pos (by omega) (Nat.two_pow_pos _)
  have ho2 : o < 2 ^ (64 - t) := by
    have h1 : 2 ^ 62 ≤ 2 ^ (64 - t) * 2 ^ t := by rw [← Nat.pow_add]; exact Nat.pow_le_pow_right (by decide) (by omega)
    exact Nat.lt_of_mul_lt_mul_right (a := 2 ^ t) (by omega)
  have e : lI (-(m : Int)) = lI ((18446744073709551616 - m : Nat) : Int) := lI_congr (by omega)
  rw [e, lI_ann (by omega) (by omega)]
  congr 2
  have e2 : 18446744073709551616 - m = (2 ^ (64 - t) - o) * 2 ^ t := by
    rw [Nat.sub_mul, ← Nat.pow_add, show 64 - t + t = 64 by omega, hm]
  rw [e2, hm, ← Nat.shiftLeft_eq, ← Nat.shiftLeft_eq, ← Nat.shiftLeft_and_distrib, and_low ho ho2, Nat.shiftLeft_eq, Nat.one_mul]
set_option maxRecDepth 100000 in
set_option maxHeartbeats 4000000 in
theorem c_U_setBinary {l : Launch} (hfl : l.flags = flags0) {D : va_G} {g : Nat → ClassId} {ad : Nat → Nat} {N : Nat} {F0 : Nat → va_E} {W : Nat → Nat} {K S : Nat → Int} {k m : Nat} {ns0 e : Int}
    (hN : 109 ≤ N) (hW : bW W) (hk : isU k) (hns : -1 ≤ ns0 ∧ ns0 ≤ 1) (hm : m < 2 ^ 62) (he : -200 ≤ e ∧ e ≤ 200) :
    JC l y_U_setBinary b_U_setBinary 6 (Option.none : Option Jvm.ClassFile.FieldType) rm_U_setBinary (0, 0) D jCl (jTys g) ad N (cF ad g F0 W K S) [.ref (ad k), .int (iI ns0), .long (lI (m : Int)), .int (iI e)] (jv ad N (fun F' => bW (va_up (va_up W (k + 1) (lowu (su m e) (sd 1 e))) (k + 3) (lowd (su m e) (sd 1 e))) ∧ F' = cF ad g F0 (va_up (va_up W (k + 1) (lowu (su m e) (sd 1 e))) (k + 3) (lowd (su m e) (sd 1 e))) (va_up K k 2) (va_up S k (if m = 0 then 0 else ns0)))) := by
  obtain ⟨sn, hsn⟩ : ∃ sn : Int, sn = if m = 0 then 0 else ns0 := ⟨_, rfl⟩
  have hk4 := (isU_1 hk).1
  refine JC.go hfl (own := "NumberTower$Num") (lv := [(0, .ref (ad k)), (1, .int (iI ns0)), (2, .long (lI (m : Int))), (4, .int (iI e))]) rfl (by decide +kernel) (Nat.le_of_ble_eq_true rfl) rfl (fun A => ?_)
  refine J_aload_n 0 d_U_setBinary_0 rfl rfl ?_
  refine J_iconst d_U_setBinary_1 ?_
  refine pf_U_9 (by omega) (cF_U hk rfl rfl) (Nat.le_of_ble_eq_true rfl) d_U_setBinary_2 ?_
  refine J_eqF (F2 := cF ad g F0 W (va_up K k 2) S) ((cF_upU hk).trans (congrArg (fun qq => cF ad g F0 W (va_up K k 2) qq) (up_same1 rfl).symm)) ?_
  refine J_aload_n 0 d_U_setBinary_5 rfl rfl ?_
  have lab17 : J l rm_U_setBinary (0, 0) "NumberTower$Num" b_U_setBinary 6 (Option.none : Option Jvm.ClassFile.FieldType) D jCl (jTys g) A (fun _ me => me.name = y_U_setBinary.name) (jv ad N (fun F' => bW (va_up (va_up W (k + 1) (lowu (su m e) (sd 1 e))) (k + 3) (lowd (su m e) (sd 1 e))) ∧ F' = cF ad g F0 (va_up (va_up W (k + 1) (lowu (su m e) (sd 1 e))) (k + 3) (lowd (su m e) (sd 1 e))) (va_up K k 2) (va_up S k (if m = 0 then 0 else ns0)))) ad N 0 0 17 [(0, .ref (ad k)), (1, .int (iI ns0)), (2, .long (lI (m : Int))), (4, .int (iI e))] [.int (iI sn), .ref (ad k)] (cF ad g F0 W (va_up K k 2) S) := by
    refine pf_U_25 (by omega) (cF_U hk (by rw [va_up_self]) rfl) (Nat.le_of_ble_eq_true rfl) d_U_setBinary_17 ?_
    refine J_eqF (F2 := cF ad g F0 W (va_up K k 2) (va_up S k sn)) ((cF_upU hk).trans (congrArg (fun qq => cF ad g F0 W qq (va_up S k sn)) (up_same1 (by rw [va_up_self])).symm)) ?_
    refine J_aload_n 0 d_U_setBinary_20 rfl rfl ?_
    refine gf_U_22 (by omega) (cF_U hk (by rw [va_up_self]) (by rw [va_up_self])) rfl d_U_setBinary_21 ?_
    refine J_lconst (v := 1) d_U_setBinary_24 rfl ?_
    refine J_callVv cw_U_38 nh_N_set pn_N_set rfl rfl (by omega) (cF_N (isU_1 hk).2.2 rfl) (As := [.long (lI 1)]) (rest := []) rfl (Nat.le_of_ble_eq_true rfl) ⟨by decide, by decide⟩ rfl ⟨by decide, by decide⟩ d_U_setBinary_25 (n_set hfl (F0 := F0) (W := W) (K := va_up K k 2) (S := va_up S k sn) (k := k + 3) (n := 1) (hN := by omega) (hW := hW) (hk := (isU_1 hk).2.2) (hn := by decide)) (fun  F4 hq => ?_)
    obtain ⟨hW2, eF3⟩ := hq
    refine J_eqF (F2 := cF ad g F0 (va_up W (k + 3) 1) (va_up K k 2) (va_up S k sn)) eF3 ?_
    refine J_lload_n 2 d_U_setBinary_28 rfl rfl ?_
    refine J_lconst (v := 0) d_U_setBinary_29 rfl ?_
    refine J_lcmpne (tgt := 42) d_U_setBinary_30 d_U_setBinary_31 (by decide) ⟨by omega, by omega⟩ ⟨by omega, by omega⟩ (fun c30 => ?_) (fun c30 => ?_)
    · obtain ⟨t, o, hmo, ho⟩ := odd_part (m := m) (by omega)
      have ht : t < 62 := by
        apply Nat.lt_of_not_le
        intro q
        have h1 : 2 ^ 62 ≤ 2 ^ t := Nat.pow_le_pow_right (by decide) q
        have h2 : 1 * 2 ^ t ≤ o * 2 ^ t := Nat.mul_le_mul_right _ (by omega)
        omega
      have h2t := Nat.two_pow_pos t
      obtain ⟨hlu, hld⟩ := low_bin (e := e) hmo ho
      have hom : m / 2 ^ t = o := by rw [hmo, Nat.mul_div_cancel _ h2t]
      have hol : o ≤ m := by rw [← hom]; exact Nat.div_le_self _ _
      have hb1 : o * 2 ^ (e + (t : Int)).toNat < 2 ^ 480 := by
        have h1 : (e + (t : Int)).toNat ≤ 262 := by omega
        have h2 : 2 ^ (e + (t : Int)).toNat ≤ 2 ^ 262 := Nat.pow_le_pow_right (by decide) h1
        exact Nat.lt_of_le_of_lt (Nat.mul_le_mul (Nat.le_of_lt (Nat.lt_of_le_of_lt hol hm)) h2) (by decide)
      have hb2 : 1 * 2 ^ (-(e + (t : Int))).toNat < 2 ^ 480 := by
        rw [Nat.one_mul]
        exact Nat.lt_of_le_of_lt (Nat.pow_le_pow_right (by decide) (show (-(e + (t : Int))).toNat ≤ 262 by omega)) (by decide)
      refine J_lload_n 2 d_U_setBinary_42 rfl rfl ?_
      refine J_lload_n 2 d_U_setBinary_43 rfl rfl ?_
      refine J_lneg d_U_setBinary_44 ?_
      refine J_land (r := ((2 ^ t : Nat) : Int)) d_U_setBinary_45 (land_low hmo ho hm) ?_
      refine J_lconst (v := 1) d_U_setBinary_46 rfl ?_
      refine J_lsub d_U_setBinary_47 ?_
      refine J_topl (r := ((2 ^ t - 1 : Nat) : Int)) (congrArg lI (by omega)) ?_
      refine J_callSi cw_U_55 nh_JLong_bitCount pn_JLong_bitCount rfl (As := [.long (lI ((2 ^ t - 1 : Nat) : Int))]) (rest := []) rfl (Nat.le_of_ble_eq_true rfl) ⟨by decide, by decide⟩ rfl ⟨by decide, by decide⟩ d_U_setBinary_48 (c_JLong_bitCount hfl (b := t) (by omega)) (fun bc F1 hq => ?_)
      obtain ⟨hbc, eF1⟩ := hq
      refine J_eqF eF1 ?_
      refine J_topi (r := (t : Int)) (congrArg iI hbc) ?_
      refine J_istore (lv' := [(5, .int (iI (t : Int))), (0, .ref (ad k)), (1, .int (iI ns0)), (2, .long (lI (m : Int))), (4, .int (iI e))]) d_U_setBinary_51 (by decide) rfl ?_
      refine J_aload_n 1 d_U_setBinary_53 rfl rfl ?_
      refine gf_U_18 (by omega) (cF_U hk (by rw [va_up_self]) (by rw [va_up_self])) rfl d_U_setBinary_54 ?_
      refine J_lload_n 3 d_U_setBinary_57 rfl rfl ?_
      refine J_iload 0 d_U_setBinary_58 rfl ?_
      refine J_lshr (r := ((m / 2 ^ t : Nat) : Int)) d_U_setBinary_60 (lI_shrn (by omega) t (by omega)) ?_
      refine J_topl (r := (o : Int)) (congrArg lI (by rw [hom])) ?_
      refine J_callVv cw_U_38 nh_N_set pn_N_set rfl rfl (by omega) (cF_N (isU_1 hk).2.1 (by rw [va_up_ne _ _ (by omega)])) (As := [.long (lI (o : Int))]) (rest := []) rfl (Nat.le_of_ble_eq_true rfl) ⟨by decide, by decide⟩ rfl ⟨by decide, by decide⟩ d_U_setBinary_61 (n_set hfl (F0 := F0) (W := va_up W (k + 3) 1) (K := va_up K k 2) (S := va_up S k sn) (k := k + 1) (n := o) (hN := by omega) (hW := hW2) (hk := (isU_1 hk).2.1) (hn := by omega)) (fun  F8 hq => ?_)
      obtain ⟨hW6, eF7⟩ := hq
      refine J_eqF (F2 := cF ad g F0 (va_up (va_up W (k + 3) 1) (k + 1) o) (va_up K k 2) (va_up S k sn)) eF7 ?_
      refine J_aload_n 1 d_U_setBinary_64 rfl rfl ?_
      refine gf_U_18 (by omega) (cF_U hk (by rw [va_up_self]) (by rw [va_up_self])) rfl d_U_setBinary_65 ?_
      refine J_iload 4 d_U_setBinary_68 rfl ?_
      refine J_iload 0 d_U_setBinary_70 rfl ?_
      refine J_iadd d_U_setBinary_72 ?_
      refine J_callVv cw_U_59 nh_N_shiftUp pn_N_shiftUp rfl rfl (by omega) (cF_N (isU_1 hk).2.1 (by rw [va_up_self])) (As := [.int (iI (e + (t : Int)))]) (rest := []) rfl (Nat.le_of_ble_eq_true rfl) ⟨by decide, by decide⟩ rfl ⟨by decide, by decide⟩ d_U_setBinary_73 (n_shiftUp hfl (F0 := F0) (W := va_up (va_up W (k + 3) 1) (k + 1) o) (K := va_up K k 2) (S := va_up S k sn) (k := k + 1) (n := e + (t : Int)) (hN := by omega) (hW := hW6) (hk := (isU_1 hk).2.1) (hx := (by rw [va_up_self])) (hn := ⟨by omega, by omega⟩) (ht := hb1)) (fun  F12 hq => ?_)
      obtain ⟨hW10, eF11⟩ := hq
      have hW13 := (congrArg bW (up_in0)).mp hW10
      refine J_eqF (F2 := cF ad g F0 (va_up (va_up W (k + 3) 1) (k + 1) (o * 2 ^ ((e + (t : Int)).toNat))) (va_up K k 2) (va_up S k sn)) (eF11.trans (congrArg (fun qq => cF ad g F0 qq (va_up K k 2) (va_up S k sn)) (up_in0))) ?_
      refine J_aload_n 1 d_U_setBinary_76 rfl rfl ?_
      refine gf_U_22 (by omega) (cF_U hk (by rw [va_up_self]) (by rw [va_up_self])) rfl d_U_setBinary_77 ?_
      refine J_iload 4 d_U_setBinary_80 rfl ?_
      refine J_iload 0 d_U_setBinary_82 rfl ?_
      refine J_iadd d_U_setBinary_84 ?_
      refine J_ineg d_U_setBinary_85 ?_
      refine J_callVv cw_U_59 nh_N_shiftUp pn_N_shiftUp rfl rfl (by omega) (cF_N (isU_1 hk).2.2 (by rw [va_up_ne _ _ (by omega), va_up_self])) (As := [.int (iI (-(e + (t : Int))))]) (rest := []) rfl (Nat.le_of_ble_eq_true rfl) ⟨by decide, by decide⟩ rfl ⟨by decide, by decide⟩ d_U_setBinary_86 (n_shiftUp hfl (F0 := F0) (W := va_up (va_up W (k + 3) 1) (k + 1) (o * 2 ^ ((e + (t : Int)).toNat))) (K := va_up K k 2) (S := va_up S k sn) (k := k + 3) (n := -(e + (t : Int))) (hN := by omega) (hW := hW13) (hk := (isU_1 hk).2.2) (hx := (by rw [va_up_ne _ _ (by omega), va_up_self])) (hn := ⟨by omega, by omega⟩) (ht := hb2)) (fun  F17 hq => ?_)
      obtain ⟨hW15, eF16⟩ := hq
      have hW18 := (congrArg bW (up_in1 (by omega))).mp hW15
      refine J_eqF (F2 := cF ad g F0 (va_up (va_up W (k + 3) (1 * 2 ^ ((-(e + (t : Int))).toNat))) (k + 1) (o * 2 ^ ((e + (t : Int)).toNat))) (va_up K k 2) (va_up S k sn)) (eF16.trans (congrArg (fun qq => cF ad g F0 qq (va_up K k 2) (va_up S k sn)) (up_in1 (by omega)))) ?_
      have hW19 := (congrArg (fun qq : Nat => bW (va_up (va_up W (k + 3) qq) (k + 1) (o * 2 ^ ((e + (t : Int)).toNat)))) (show 1 * 2 ^ ((-(e + (t : Int))).toNat) = lowd (su m e) (sd 1 e) from (by rw [hld, Nat.one_mul]))).mp hW18
      refine J_eqF (F2 := cF ad g F0 (va_up (va_up W (k + 3) (lowd (su m e) (sd 1 e))) (k + 1) (o * 2 ^ ((e + (t : Int)).toNat))) (va_up K k 2) (va_up S k sn)) (congrArg (fun qq : Nat => cF ad g F0 (va_up (va_up W (k + 3) qq) (k + 1) (o * 2 ^ ((e + (t : Int)).toNat))) (va_up K k 2) (va_up S k sn)) (show 1 * 2 ^ ((-(e + (t : Int))).toNat) = lowd (su m e) (sd 1 e) from (by rw [hld, Nat.one_mul]))) ?_
      have hW20 := (congrArg (fun qq : Nat => bW (va_up (va_up W (k + 3) (lowd (su m e) (sd 1 e))) (k + 1) qq)) (show o * 2 ^ ((e + (t : Int)).toNat) = lowu (su m e) (sd 1 e) from (by rw [hlu]))).mp hW19
      refine J_eqF (F2 := cF ad g F0 (va_up (va_up W (k + 3) (lowd (su m e) (sd 1 e))) (k + 1) (lowu (su m e) (sd 1 e))) (va_up K k 2) (va_up S k sn)) (congrArg (fun qq : Nat => cF ad g F0 (va_up (va_up W (k + 3) (lowd (su m e) (sd 1 e))) (k + 1) qq) (va_up K k 2) (va_up S k sn)) (show o * 2 ^ ((e + (t : Int)).toNat) = lowu (su m e) (sd 1 e) from (by rw [hlu]))) ?_
      have hW21 := (congrArg bW (up_cm (by omega))).mp hW20
      refine J_eqF (F2 := cF ad g F0 (va_up (va_up W (k + 1) (lowu (su m e) (sd 1 e))) (k + 3) (lowd (su m e) (sd 1 e))) (va_up K k 2) (va_up S k sn)) (congrArg (fun qq : Nat → Nat => cF ad g F0 qq (va_up K k 2) (va_up S k sn)) (up_cm (by omega))) ?_
      refine J_vret rfl d_U_setBinary_89 ⟨by decide, by decide⟩ ?_
      exact ⟨rfl, rfl, rfl, hW21, by rw [hsn]⟩
    · refine J_aload_n 0 d_U_setBinary_34 rfl rfl ?_
      refine gf_U_18 (by omega) (cF_U hk (by rw [va_up_self]) (by rw [va_up_self])) rfl d_U_setBinary_35 ?_
      refine J_callVv cw_U_52 nh_N_clear pn_N_clear rfl rfl (by omega) (cF_N (isU_1 hk).2.1 (by rw [va_up_ne _ _ (by omega)])) (As := []) (rest := []) rfl (Nat.le_of_ble_eq_true rfl) ⟨by decide, by decide⟩ rfl ⟨by decide, by decide⟩ d_U_setBinary_38 (n_clear hfl (F0 := F0) (W := va_up W (k + 3) 1) (K := va_up K k 2) (S := va_up S k sn) (k := k + 1) (hN := by omega) (hW := hW2) (hk := (isU_1 hk).2.1)) (fun  F25 hq => ?_)
      obtain ⟨hW23, eF24⟩ := hq
      refine J_eqF (F2 := cF ad g F0 (va_up (va_up W (k + 3) 1) (k + 1) 0) (va_up K k 2) (va_up S k sn)) eF24 ?_
      obtain ⟨hlu, hld⟩ := low_0 (sd_pos (D := 1) (by decide) e)
      have hsm : su m e = 0 := by rw [show m = 0 by omega]; exact Nat.zero_mul _
      have hW26 := (congrArg (fun qq : Nat => bW (va_up (va_up W (k + 3) qq) (k + 1) 0)) (show 1 = lowd (su m e) (sd 1 e) from (by rw [hsm, hld]))).mp hW23
      refine J_eqF (F2 := cF ad g F0 (va_up (va_up W (k + 3) (lowd (su m e) (sd 1 e))) (k + 1) 0) (va_up K k 2) (va_up S k sn)) (congrArg (fun qq : Nat => cF ad g F0 (va_up (va_up W (k + 3) qq) (k + 1) 0) (va_up K k 2) (va_up S k sn)) (show 1 = lowd (su m e) (sd 1 e) from (by rw [hsm, hld]))) ?_
      have hW27 := (congrArg (fun qq : Nat => bW (va_up (va_up W (k + 3) (lowd (su m e) (sd 1 e))) (k + 1) qq)) (show 0 = lowu (su m e) (sd 1 e) from (by rw [hsm, hlu]))).mp hW26
      refine J_eqF (F2 := cF ad g F0 (va_up (va_up W (k + 3) (lowd (su m e) (sd 1 e))) (k + 1) (lowu (su m e) (sd 1 e))) (va_up K k 2) (va_up S k sn)) (congrArg (fun qq : Nat => cF ad g F0 (va_up (va_up W (k + 3) (lowd (su m e) (sd 1 e))) (k + 1) qq) (va_up K k 2) (va_up S k sn)) (show 0 = lowu (su m e) (sd 1 e) from (by rw [hsm, hlu]))) ?_
      have hW28 := (congrArg bW (up_cm (by omega))).mp hW27
      refine J_eqF (F2 := cF ad g F0 (va_up (va_up W (k + 1) (lowu (su m e) (sd 1 e))) (k + 3) (lowd (su m e) (sd 1 e))) (va_up K k 2) (va_up S k sn)) (congrArg (fun qq : Nat → Nat => cF ad g F0 qq (va_up K k 2) (va_up S k sn)) (up_cm (by omega))) ?_
      refine J_vret rfl d_U_setBinary_41 ⟨by decide, by decide⟩ ?_
      exact ⟨rfl, rfl, rfl, hW28, by rw [hsn]⟩
  refine J_lload_n 2 d_U_setBinary_6 rfl rfl ?_
  refine J_lconst (v := 0) d_U_setBinary_7 rfl ?_
  refine J_lcmpne (tgt := 16) d_U_setBinary_8 d_U_setBinary_9 (by decide) ⟨by omega, by omega⟩ ⟨by omega, by omega⟩ (fun c8 => ?_) (fun c8 => ?_)
  · refine J_iload_n 1 d_U_setBinary_16 rfl rfl ?_
    refine J_topi (r := sn) (congrArg iI (by rw [hsn, if_neg (by omega)])) ?_
    exact lab17  
  · refine J_iconst d_U_setBinary_12 ?_
    refine J_goto (tgt := 17) d_U_setBinary_13 (by decide) ?_
    refine J_topi (r := sn) (congrArg iI (by rw [hsn, if_pos (by omega)])) ?_
    exact lab17  
