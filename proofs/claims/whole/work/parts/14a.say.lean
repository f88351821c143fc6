/-! the Model writes -/

theorem mtx_push {h : Nat → Int} {w : List Nat} (hm : mtx h w) (c : Nat) : mtx (va_up h w.length (c : Int)) (w ++ [c]) := by
  intro j hj
  rw [List.length_append, List.length_singleton] at hj
  by_cases e : j = w.length
  · rw [e, va_up_self, List.getD_eq_getElem?_getD, List.getElem?_append_right (Nat.le_refl _), Nat.sub_self]; rfl
  · rw [va_up_ne _ _ e, hm j (by omega), List.getD_eq_getElem?_getD, List.getD_eq_getElem?_getD, List.getElem?_append_left (by omega)]
/-- the character of a digit -/
def chd (cap : Int) (d : Nat) : Nat := if d < 10 then 48 + d else if cap = 0 then 87 + d else 55 + d
theorem chd_b {cap : Int} {d : Nat} (h : d < 16) : 48 ≤ chd cap d ∧ chd cap d ≤ 102 := by unfold chd; split; omega; (split <;> omega)
/-- how many digits a number has -/
def ndF (b : Nat) : Nat → Nat → Nat
  | 0, _ => 0
  | f + 1, v => if v = 0 then 0 else ndF b f (v / b) + 1
def ndg (b v : Nat) : Nat := ndF b v v
theorem ndF_le {b : Nat} (hb : 2 ≤ b) : ∀ f v n, v ≤ f → (ndF b f v ≤ n ↔ v < b ^ n) := by
  intro f
  induction f with
  | zero =>
    intro v n hv
    have : 0 < b ^ n := Nat.pow_pos (by omega)
    exact ⟨fun _ => by omega, fun _ => Nat.zero_le _⟩
  | succ f ih =>
    intro v n hv
    show (if v = 0 then 0 else ndF b f (v / b) + 1) ≤ n ↔ _
    split
    · rename_i e
      have : 0 < b ^ n := Nat.pow_pos (by omega)
      exact ⟨fun _ => by omega, fun _ => Nat.zero_le _⟩
    · rename_i e
      cases n with
      | zero => rw [Nat.pow_zero]; omega
      | succ n =>
        have h2 : v / b ≤ v / 2 := Nat.div_le_div_left hb (by decide)
        rw [Nat.pow_succ, Nat.succ_le_succ_iff, ih (v / b) n (by omega), Nat.div_lt_iff_lt_mul (by omega)]
theorem ndg_le {b v n : Nat} (hb : 2 ≤ b) : ndg b v ≤ n ↔ v < b ^ n := ndF_le hb v v n (Nat.le_refl _)
theorem ndg_lt {b v : Nat} (hb : 2 ≤ b) : v < b ^ ndg b v := (ndg_le hb).mp (Nat.le_refl _)
/-- the digits of a number with a least count -/
def ndm (b l v : Nat) : Nat := if l ≤ ndg b v then ndg b v else l
def dgv (b v k : Nat) : Nat := v / b ^ k % b
theorem dgv_b {b v k : Nat} (hb : 2 ≤ b ∧ b ≤ 16) : dgv b v k < 16 := Nat.lt_of_lt_of_le (Nat.mod_lt _ (by omega)) hb.2
/-- digits from to + n - 1 down to to, in groups -/
def sgr (dv : Nat → Nat) (cap : Int) (grp pt to : Nat) : Nat → List Nat
  | 0 => []
  | n + 1 => chd cap (dv (to + n)) :: ((if 0 < pt ∧ 0 < n ∧ n % grp = 0 then [pt] else []) ++ sgr dv cap grp pt to n)
theorem sgr_y {dv : Nat → Nat} {cap : Int} {grp pt to n : Nat} (h : 0 < pt ∧ 0 < n ∧ n % grp = 0) : sgr dv cap grp pt to (n + 1) = chd cap (dv (to + n)) :: pt :: sgr dv cap grp pt to n := by
  show _ :: ((if _ then _ else _) ++ _) = _
  rw [if_pos h]; rfl
theorem sgr_n {dv : Nat → Nat} {cap : Int} {grp pt to n : Nat} (h : ¬(0 < pt ∧ 0 < n ∧ n % grp = 0)) : sgr dv cap grp pt to (n + 1) = chd cap (dv (to + n)) :: sgr dv cap grp pt to n := by
  show _ :: ((if _ then _ else _) ++ _) = _
  rw [if_neg h]; rfl
theorem sgr_l {dv : Nat → Nat} {cap : Int} {grp pt to : Nat} : ∀ n, (sgr dv cap grp pt to n).length ≤ 2 * n ∧ n ≤ (sgr dv cap grp pt to n).length := by
  intro n
  induction n with
  | zero => exact ⟨Nat.le_refl _, Nat.le_refl _⟩
  | succ n ih =>
    by_cases h : 0 < pt ∧ 0 < n ∧ n % grp = 0
    · rw [sgr_y h, List.length_cons, List.length_cons]; omega
    · rw [sgr_n h, List.length_cons]; omega
theorem sgr_1 {dv : Nat → Nat} {cap : Int} {grp to : Nat} : ∀ n, (sgr dv cap grp 0 to n).length = n := by
  intro n
  induction n with
  | zero => rfl
  | succ n ih => rw [sgr_n (by omega), List.length_cons, ih]
/-- an exponent with its mark -/
def expT (e : Int) (lt : Nat) : List Nat := [lt, if e < 0 then 45 else 43, 48 + e.natAbs / 10, 48 + e.natAbs % 10]
theorem ap1 (w : List Nat) (a : Nat) (s : List Nat) : w ++ [a] ++ s = w ++ a :: s := by rw [List.append_assoc]; rfl
theorem ap2 (w : List Nat) (a b : Nat) (s : List Nat) : w ++ [a] ++ [b] ++ s = w ++ a :: b :: s := by rw [ap1, List.append_assoc]; rfl
theorem spl_div (x b k : Nat) : x / b ^ k / b = x / b ^ (k + 1) := by rw [Nat.div_div_eq_div_mul, ← Nat.pow_succ]
set_option maxRecDepth 100000 in
set_option maxHeartbeats 4000000 in
theorem c_M_say {l : Launch} (hfl : l.flags = flags0) {D : va_G} {g : Nat → ClassId} {ad : Nat → Nat} {N : Nat} {F : Nat → va_E} {f : Nat → Int} {v : UInt64} {tt : Nat → Int} {w : List Nat} {c : Nat}
    (hN : 109 ≤ N) (hO : F 98 = oM ad f v) (h107 : F 107 = .inl (g 0, 260, .inl (aI tt))) (hmt : mtx tt w) (hf18 : f 18 = (w.length : Int)) (hw : w.length < 260) :
    JC l y_M_say b_M_say 2 (Option.none : Option Jvm.ClassFile.FieldType) rm_M_say (0, 0) D jCl (jTys g) ad N F [.ref (ad 98), .int (iI (c : Int))] (jv ad N (fun F' => ∃ tt' : Nat → Int, mtx tt' (w ++ [c]) ∧ F' = va_up (va_up F 107 (.inl (g 0, 260, .inl (aI tt')))) 98 (oM ad (va_up f 18 ((w ++ [c]).length : Int)) v))) := by
  refine JC.go hfl (own := "NumberTowerModel") (lv := [(0, .ref (ad 98)), (1, .int (iI (c : Int)))]) rfl (by decide +kernel) (Nat.le_of_ble_eq_true rfl) rfl (fun A => ?_)
  refine J_aload_n 0 d_M_say_0 rfl rfl ?_
  refine gf_M_36 (by omega) hO rfl d_M_say_1 ?_
  refine J_aload_n 0 d_M_say_4 rfl rfl ?_
  refine gf_M_265 (by omega) hO rfl d_M_say_5 ?_
  refine J_topi (r := (w.length : Int)) (congrArg iI hf18) ?_
  refine J_iload_n 1 d_M_say_8 rfl rfl ?_
  refine J_iastore 0 rfl (by omega) h107 (by omega) d_M_say_9 ?_
  refine J_eqF (F2 := va_up F 107 (.inl (g 0, 260, .inl (aI (va_up tt w.length (c : Int)))))) (congrArg (fun q => va_up F 107 (.inl (g 0, 260, .inl (aI (va_up tt q (c : Int)))))) (by omega : (w.length : Int).toNat = w.length)) ?_
  refine J_aload_n 0 d_M_say_10 rfl rfl ?_
  refine J_dup d_M_say_11 rfl ?_
  refine gf_M_265 (by omega) (by rw [va_up_ne _ _ (by decide)]; exact hO) rfl d_M_say_12 ?_
  refine J_topi (r := (w.length : Int)) (congrArg iI hf18) ?_
  refine J_iconst d_M_say_15 ?_
  refine J_iadd d_M_say_16 ?_
  refine pm_M_265 (by omega) (by rw [va_up_ne _ _ (by decide)]; exact hO) d_M_say_17 ?_
  refine J_vret rfl d_M_say_20 ⟨by decide, by decide⟩ ?_
  exact ⟨rfl, rfl, rfl, _, mtx_push hmt c, by rw [List.length_append, List.length_singleton]; rfl⟩
set_option maxRecDepth 100000 in
set_option maxHeartbeats 4000000 in
theorem c_M_sign {l : Launch} (hfl : l.flags = flags0) {D : va_G} {g : Nat → ClassId} {ad : Nat → Nat} {N : Nat} {F : Nat → va_E} {f : Nat → Int} {v : UInt64} {dh : Nat → Int} {k d : Nat} {cap : Int}
    (hN : 109 ≤ N) (hO : F 98 = oM ad f v) (h106 : F 106 = .inl (g 0, 200, .inl (aI dh))) (hk : k < 200) (hd : dh k = (d : Int)) (hd16 : d < 16) (hcap : cap = 0 ∨ cap = 1) :
    JC l y_M_sign b_M_sign 3 (Option.some Jvm.ClassFile.FieldType.int) rm_M_sign (0, 0) D jCl (jTys g) ad N F [.ref (ad 98), .int (iI (k : Int)), .int (iI cap)] (ji ad N (fun z F' => z = ((chd cap d : Nat) : Int) ∧ F' = F)) := by
  refine JC.go hfl (own := "NumberTowerModel") (lv := [(0, .ref (ad 98)), (1, .int (iI (k : Int))), (2, .int (iI cap))]) rfl (by decide +kernel) (Nat.le_of_ble_eq_true rfl) rfl (fun A => ?_)
  refine J_aload_n 0 d_M_sign_0 rfl rfl ?_
  refine gf_M_33 (by omega) hO rfl d_M_sign_1 ?_
  refine J_iload_n 1 d_M_sign_4 rfl rfl ?_
  refine J_iaload 0 rfl (by omega) h106 (by omega) d_M_sign_5 ?_
  refine J_topi (r := dh k) (congrArg (fun q => iI (dh q)) (by omega)) ?_
  refine J_bipush d_M_sign_6 (i8_ok (by decide)) ?_
  refine J_if_icmpge (tgt := 23) d_M_sign_8 (by decide) ⟨by omega, by omega⟩ ⟨by omega, by omega⟩ (fun c8 => ?_) (fun c8 => ?_)
  · refine J_iload_n 2 d_M_sign_23 rfl rfl ?_
    refine J_ifeq (tgt := 32) d_M_sign_24 (by decide) ⟨by omega, by omega⟩ (fun c24 => ?_) (fun c24 => ?_)
    · refine J_bipush d_M_sign_32 (i8_ok (by decide)) ?_
      refine J_aload_n 0 d_M_sign_34 rfl rfl ?_
      refine gf_M_33 (by omega) hO rfl d_M_sign_35 ?_
      refine J_iload_n 1 d_M_sign_38 rfl rfl ?_
      refine J_iaload 0 rfl (by omega) h106 (by omega) d_M_sign_39 ?_
      refine J_topi (r := dh k) (congrArg (fun q => iI (dh q)) (by omega)) ?_
      refine J_iadd d_M_sign_40 ?_
      refine J_bipush d_M_sign_41 (i8_ok (by decide)) ?_
      refine J_isub d_M_sign_43 ?_
      refine J_iret rfl rfl d_M_sign_44 ⟨by decide, by decide⟩ ?_
      refine ⟨_, rfl, rfl, rfl, ?_, rfl⟩
      unfold chd
      rw [if_neg (by omega), if_pos (by omega)]; omega
    · refine J_bipush d_M_sign_27 (i8_ok (by decide)) ?_
      refine J_goto (tgt := 34) d_M_sign_29 (by decide) ?_
      refine J_aload_n 0 d_M_sign_34 rfl rfl ?_
      refine gf_M_33 (by omega) hO rfl d_M_sign_35 ?_
      refine J_iload_n 1 d_M_sign_38 rfl rfl ?_
      refine J_iaload 0 rfl (by omega) h106 (by omega) d_M_sign_39 ?_
      refine J_topi (r := dh k) (congrArg (fun q => iI (dh q)) (by omega)) ?_
      refine J_iadd d_M_sign_40 ?_
      refine J_bipush d_M_sign_41 (i8_ok (by decide)) ?_
      refine J_isub d_M_sign_43 ?_
      refine J_iret rfl rfl d_M_sign_44 ⟨by decide, by decide⟩ ?_
      refine ⟨_, rfl, rfl, rfl, ?_, rfl⟩
      unfold chd
      rw [if_neg (by omega), if_neg (by omega)]; omega
  · refine J_bipush d_M_sign_11 (i8_ok (by decide)) ?_
    refine J_aload_n 0 d_M_sign_13 rfl rfl ?_
    refine gf_M_33 (by omega) hO rfl d_M_sign_14 ?_
    refine J_iload_n 1 d_M_sign_17 rfl rfl ?_
    refine J_iaload 0 rfl (by omega) h106 (by omega) d_M_sign_18 ?_
    refine J_topi (r := dh k) (congrArg (fun q => iI (dh q)) (by omega)) ?_
    refine J_iadd d_M_sign_19 ?_
    refine J_goto (tgt := 44) d_M_sign_20 (by decide) ?_
    refine J_iret rfl rfl d_M_sign_44 ⟨by decide, by decide⟩ ?_
    refine ⟨_, rfl, rfl, rfl, ?_, rfl⟩
    unfold chd
    rw [if_pos (by omega)]; omega
set_option maxRecDepth 100000 in
set_option maxHeartbeats 4000000 in
theorem c_M_spell {l : Launch} (hfl : l.flags = flags0) {D : va_G} {g : Nat → ClassId} {ad : Nat → Nat} {N : Nat} {F : Nat → va_E} {hh ll f : Nat → Int} {v : UInt64} {V : Nat → Nat} {br : Nat → Nat} {dh : Nat → Int} {a b lst x : Nat}
    (hN : 109 ≤ N) (hO : F 98 = oM ad f v) (hB : F 99 = aB g hh) (hL : F 100 = aL g ll) (hR : reg br hh ll V) (hzz : okB br) (h106 : F 106 = .inl (g 0, 200, .inl (aI dh))) (ha : a < 33) (ha2 : a ≠ 29) (bra : br a = 0) (hx : V a = x) (hb : 2 ≤ b ∧ b ≤ 16) (hn : ndm b lst x ≤ 200) :
    JC l y_M_spell b_M_spell 4 (Option.none : Option Jvm.ClassFile.FieldType) rm_M_spell (0, 0) D jCl (jTys g) ad N F [.ref (ad 98), .int (iI (a : Int)), .int (iI (b : Int)), .int (iI (lst : Int))] (jv ad N (fun F' => ∃ hh' ll' dh' : Nat → Int, reg br hh' ll' (va_up V 29 0) ∧ (∀ k, k < ndm b lst x → dh' k = ((dgv b x k : Nat) : Int)) ∧ F' = va_up (va_up (va_up (va_up F 98 (oM ad (va_up f 16 (ndm b lst x : Nat)) v)) 99 (aB g hh')) 100 (aL g ll')) 106 (.inl (g 0, 200, .inl (aI dh'))))) := by
  have hlst : lst ≤ 200 := by unfold ndm at hn; split at hn <;> omega
  refine JC.go hfl (own := "NumberTowerModel") (lv := [(0, .ref (ad 98)), (1, .int (iI (a : Int))), (2, .int (iI (b : Int))), (3, .int (iI (lst : Int)))]) rfl (by decide +kernel) (Nat.le_of_ble_eq_true rfl) rfl (fun A => ?_)
  refine J_aload_n 0 d_M_spell_0 rfl rfl ?_
  refine J_iload_n 1 d_M_spell_1 rfl rfl ?_
  refine J_bipush d_M_spell_2 (i8_ok (by decide)) ?_
  refine J_callVv cw_M_58 nh_M_copy pn_M_copy rfl rfl (by omega) hO (As := [.int (iI (a : Int)), .int (iI 29)]) (rest := []) rfl (Nat.le_of_ble_eq_true rfl) ⟨by decide, by decide⟩ rfl ⟨by decide, by decide⟩ d_M_spell_4 (k_M_copy hfl (a := a) (b := 29) (hh := hh) (ll := ll) (V := V) (br := br) (hN := hN) (hO := hO) (hB := hB) (hL := hL) (hR := hR) (ha := by omega) (hb := by omega) (hxa := hx) (bra := bra)) (fun  F1 hq => ?_)
  obtain ⟨bh1, bl2, hR3, eF1⟩ := hq
  refine J_eqF (F2 := va_up (va_up F 99 (.inl (g 0, 858, .inl (aI bh1)))) 100 (.inl (g 0, 33, .inl (aI bl2)))) eF1 ?_
  have hR6 := reg_w1 (hzz.1 _) hR3
  refine J_aload_n 0 d_M_spell_7 rfl rfl ?_
  refine J_iconst d_M_spell_8 ?_
  refine pm_M_268 (by omega) (by rw [va_up_ne _ _ (by decide), va_up_ne _ _ (by decide)]; exact hO) d_M_spell_9 ?_
  refine J_eqF (F2 := va_up (va_up (va_up (va_up F 99 (.inl (g 0, 858, .inl (aI bh1)))) 100 (.inl (g 0, 33, .inl (aI bl2)))) 98 (oM ad (va_up f 16 0) v)) 106 (.inl (g 0, 200, .inl (aI dh)))) (up_same1 (by rw [va_up_ne _ _ (by decide), va_up_ne _ _ (by decide), va_up_ne _ _ (by decide)]; exact h106)) ?_
  refine J_eqF (F2 := va_up (va_up (va_up (va_up F 98 (oM ad (va_up f 16 0) v)) 99 (.inl (g 0, 858, .inl (aI bh1)))) 100 (.inl (g 0, 33, .inl (aI bl2)))) 106 (.inl (g 0, 200, .inl (aI dh)))) (Eq.trans (congrArg (fun qq : Nat → va_E => va_up qq 106 (.inl (g 0, 200, .inl (aI dh)))) (up_cm (by decide))) (congrArg (fun qq : Nat → va_E => va_up (va_up qq 100 (.inl (g 0, 33, .inl (aI bl2)))) 106 (.inl (g 0, 200, .inl (aI dh)))) (up_cm (by decide)))) ?_
  have hR7 := (congrArg (fun qq : Nat => reg _ _ _ (va_up V 29 qq)) (show (x) = (x / b ^ 0) from (by rw [Nat.pow_zero, Nat.div_one]))).mp hR6
  have loop12 : ∀ (fuel : Nat) (m : Nat) (e1 : Nat → Int) (e2 : Nat → Int) (d2 : Nat → Int) (hmm : m ≤ ndm b lst x) (hdd : ∀ k, k < m → d2 k = ((dgv b x k : Nat) : Int)) (hRL12 : reg br e1 e2 (va_up V 29 (x / b ^ m))) (hfu : 201 - m < fuel), J l rm_M_spell (0, 0) "NumberTowerModel" b_M_spell 4 (Option.none : Option Jvm.ClassFile.FieldType) D jCl (jTys g) A (fun _ me => me.name = y_M_spell.name) (jv ad N (fun F' => ∃ hh' ll' dh' : Nat → Int, reg br hh' ll' (va_up V 29 0) ∧ (∀ k, k < ndm b lst x → dh' k = ((dgv b x k : Nat) : Int)) ∧ F' = va_up (va_up (va_up (va_up F 98 (oM ad (va_up f 16 (ndm b lst x : Nat)) v)) 99 (aB g hh')) 100 (aL g ll')) 106 (.inl (g 0, 200, .inl (aI dh'))))) ad N 0 0 12 [(0, .ref (ad 98)), (1, .int (iI (a : Int))), (2, .int (iI (b : Int))), (3, .int (iI (lst : Int)))] [] (va_up (va_up (va_up (va_up F 98 (oM ad (va_up f 16 (m : Int)) v)) 99 (.inl (g 0, 858, .inl (aI e1)))) 100 (.inl (g 0, 33, .inl (aI e2)))) 106 (.inl (g 0, 200, .inl (aI d2)))) := by
    intro fuel
    induction fuel with
    | zero => intro m e1 e2 d2 hmm hdd hRL12 hfu; exact absurd hfu (Nat.not_lt_zero _)
    | succ fuel ih =>
      intro m e1 e2 d2 hmm hdd hRL12 hfu
      have hstep : (x / b ^ m ≠ 0 ∨ m < lst) → m < ndm b lst x := by
        intro h
        have h2 : ndg b x ≤ m ↔ x < b ^ m := ndg_le hb.1
        have h3 : x / b ^ m ≠ 0 → ¬ x < b ^ m := fun w1 w2 => w1 (Nat.div_eq_of_lt w2)
        have h4 : x / b ^ m ≠ 0 → ¬ ndg b x ≤ m := fun w1 w2 => h3 w1 (h2.mp w2)
        unfold ndm
        rcases h with h | h
        · have := h4 h
          split <;> omega
        · split <;> omega
      replace hstep : hold _ := hstep
      refine J_aload_n 0 d_M_spell_12 rfl rfl ?_
      refine J_bipush d_M_spell_13 (i8_ok (by decide)) ?_
      refine J_callVi cw_M_75 nh_M_zero pn_M_zero rfl rfl (by omega) (by rw [va_up_ne _ _ (by decide), va_up_ne _ _ (by decide), va_up_ne _ _ (by decide), va_up_self]) (As := [.int (iI 29)]) (rest := []) rfl (Nat.le_of_ble_eq_true rfl) ⟨by decide, by decide⟩ rfl ⟨by decide, by decide⟩ d_M_spell_15 (k_M_zero hfl (a := 29) (hh := e1) (ll := e2) (V := va_up V 29 (x / b ^ m)) (br := br) (hN := hN) (hO := (by rw [va_up_ne _ _ (by decide), va_up_ne _ _ (by decide), va_up_ne _ _ (by decide), va_up_self])) (hB := (by rw [va_up_ne _ _ (by decide), va_up_ne _ _ (by decide), va_up_self])) (hL := (by rw [va_up_ne _ _ (by decide), va_up_self])) (hR := hRL12) (ha := by omega) (hxa := (va_up_self ..)) (bra := (hzz.2 29 (by decide) (by decide)))) (fun z8 F2 hq => ?_)
      obtain ⟨hz8, eF2⟩ := hq
      refine J_eqF eF2 ?_
      refine J_ifeq (tgt := 29) d_M_spell_18 (by decide) ⟨by omega, by omega⟩ (fun c18 => ?_) (fun c18 => ?_)
      · have hlt : m < ndm b lst x := (show (x / b ^ m ≠ 0 ∨ m < lst) → _ from hstep) (Or.inl (by omega))
        refine J_aload_n 0 d_M_spell_29 rfl rfl ?_
        refine gf_M_33 (by omega) (by rw [va_up_ne _ _ (by decide), va_up_ne _ _ (by decide), va_up_ne _ _ (by decide), va_up_self]) rfl d_M_spell_30 ?_
        refine J_aload_n 0 d_M_spell_33 rfl rfl ?_
        refine gf_M_268 (by omega) (by rw [va_up_ne _ _ (by decide), va_up_ne _ _ (by decide), va_up_ne _ _ (by decide), va_up_self]) rfl d_M_spell_34 ?_
        refine J_topi (r := (m : Int)) (congrArg iI (va_up_self ..)) ?_
        refine J_aload_n 0 d_M_spell_37 rfl rfl ?_
        refine J_bipush d_M_spell_38 (i8_ok (by decide)) ?_
        refine J_iload_n 2 d_M_spell_40 rfl rfl ?_
        refine J_callVi cw_M_271 nh_M_shrink pn_M_shrink rfl rfl (by omega) (by rw [va_up_ne _ _ (by decide), va_up_ne _ _ (by decide), va_up_ne _ _ (by decide), va_up_self]) (As := [.int (iI 29), .int (iI (b : Int))]) (rest := [.int (iI (m : Int)), .ref (ad 106)]) rfl (Nat.le_of_ble_eq_true rfl) ⟨by decide, by decide⟩ rfl ⟨by decide, by decide⟩ d_M_spell_41 (k_M_shrink hfl (a := 29) (d := b) (hh := e1) (ll := e2) (V := va_up V 29 (x / b ^ m)) (br := br) (hN := hN) (hO := (by rw [va_up_ne _ _ (by decide), va_up_ne _ _ (by decide), va_up_ne _ _ (by decide), va_up_self])) (hB := (by rw [va_up_ne _ _ (by decide), va_up_ne _ _ (by decide), va_up_self])) (hL := (by rw [va_up_ne _ _ (by decide), va_up_self])) (hR := hRL12) (ha := by omega) (hxa := (va_up_self ..)) (bra := (hzz.2 29 (by decide) (by decide))) (hd := ⟨by omega, by omega⟩)) (fun z13 F3 hq => ?_)
        obtain ⟨hz12, bh9, bl10, hR11, eF3⟩ := hq
        refine J_eqF (F2 := va_up (va_up (va_up (va_up F 98 (oM ad (va_up f 16 (m : Int)) v)) 99 (.inl (g 0, 858, .inl (aI bh9)))) 100 (.inl (g 0, 33, .inl (aI bl10)))) 106 (.inl (g 0, 200, .inl (aI d2)))) (eF3.trans (Eq.trans (congrArg (fun q : Nat → va_E => va_up q 100 (.inl (g 0, 33, .inl (aI bl10)))) (up_in2 (by decide) (by decide))) (up_in1 (by decide)))) ?_
        refine J_topi (r := ((((x / b ^ m) % b : Nat)) : Int)) (congrArg iI hz12) ?_
        have hR14 := reg_w1 (hzz.1 _) hR11
        have hR15 := (congrArg (fun qq : Nat → Nat => reg _ _ _ (qq)) (up_in0)).mp hR14
        refine J_iastore 0 rfl (by omega) (by rw [va_up_self]) (by omega) d_M_spell_44 ?_
        refine J_eqF (F2 := va_up (va_up (va_up (va_up (va_up F 98 (oM ad (va_up f 16 (m : Int)) v)) 99 (.inl (g 0, 858, .inl (aI bh9)))) 100 (.inl (g 0, 33, .inl (aI bl10)))) 106 (.inl (g 0, 200, .inl (aI d2)))) 106 (.inl (g 0, 200, .inl (aI (va_up d2 m ((((x / b ^ m) % b : Nat)) : Int)))))) (congrArg (fun q => va_up (va_up (va_up (va_up (va_up F 98 (oM ad (va_up f 16 (m : Int)) v)) 99 (.inl (g 0, 858, .inl (aI bh9)))) 100 (.inl (g 0, 33, .inl (aI bl10)))) 106 (.inl (g 0, 200, .inl (aI d2)))) 106 (.inl (g 0, 200, .inl (aI (va_up d2 q ((((x / b ^ m) % b : Nat)) : Int)))))) (by omega : (m : Int).toNat = m)) ?_
        refine J_eqF (F2 := va_up (va_up (va_up (va_up F 98 (oM ad (va_up f 16 (m : Int)) v)) 99 (.inl (g 0, 858, .inl (aI bh9)))) 100 (.inl (g 0, 33, .inl (aI bl10)))) 106 (.inl (g 0, 200, .inl (aI (va_up d2 m ((((x / b ^ m) % b : Nat)) : Int)))))) (up_in0) ?_
        have hR16 := (congrArg (fun qq : Nat => reg _ _ _ (va_up V 29 qq)) (show ((x / b ^ m) / b) = (x / b ^ (m + 1)) from spl_div x b m)).mp hR15
        refine J_aload_n 0 d_M_spell_45 rfl rfl ?_
        refine J_dup d_M_spell_46 rfl ?_
        refine gf_M_268 (by omega) (by rw [va_up_ne _ _ (by decide), va_up_ne _ _ (by decide), va_up_ne _ _ (by decide), va_up_self]) rfl d_M_spell_47 ?_
        refine J_topi (r := (m : Int)) (congrArg iI (va_up_self ..)) ?_
        refine J_iconst d_M_spell_50 ?_
        refine J_iadd d_M_spell_51 ?_
        refine pm_M_268 (by omega) (by rw [va_up_ne _ _ (by decide), va_up_ne _ _ (by decide), va_up_ne _ _ (by decide), va_up_self]) d_M_spell_52 ?_
        refine J_eqF (F2 := va_up (va_up (va_up (va_up (va_up F 98 (oM ad (va_up f 16 (m : Int)) v)) 99 (.inl (g 0, 858, .inl (aI bh9)))) 100 (.inl (g 0, 33, .inl (aI bl10)))) 106 (.inl (g 0, 200, .inl (aI (va_up d2 m ((((x / b ^ m) % b : Nat)) : Int)))))) 98 (oM ad (va_up f 16 ((m : Int) + 1)) v)) (congrArg (fun qq : Nat → Int => va_up (va_up (va_up (va_up (va_up F 98 (oM ad (va_up f 16 (m : Int)) v)) 99 (.inl (g 0, 858, .inl (aI bh9)))) 100 (.inl (g 0, 33, .inl (aI bl10)))) 106 (.inl (g 0, 200, .inl (aI (va_up d2 m ((((x / b ^ m) % b : Nat)) : Int)))))) 98 (oM ad qq v)) (up_in0)) ?_
        refine J_eqF (F2 := va_up (va_up (va_up (va_up F 98 (oM ad (va_up f 16 ((m : Int) + 1)) v)) 99 (.inl (g 0, 858, .inl (aI bh9)))) 100 (.inl (g 0, 33, .inl (aI bl10)))) 106 (.inl (g 0, 200, .inl (aI (va_up d2 m ((((x / b ^ m) % b : Nat)) : Int)))))) (up_in3 (by decide) (by decide) (by decide)) ?_
        refine J_goto (tgt := 12) d_M_spell_55 (by decide) ?_
        refine J_eqF (F2 := va_up (va_up (va_up (va_up F 98 (oM ad (va_up f 16 ((m + 1 : Nat) : Int)) v)) 99 (.inl (g 0, 858, .inl (aI bh9)))) 100 (.inl (g 0, 33, .inl (aI bl10)))) 106 (.inl (g 0, 200, .inl (aI (va_up d2 m ((((x / b ^ m) % b : Nat)) : Int)))))) (congrArg (fun qq : Int => va_up (va_up (va_up (va_up F 98 (oM ad (va_up f 16 qq) v)) 99 (.inl (g 0, 858, .inl (aI bh9)))) 100 (.inl (g 0, 33, .inl (aI bl10)))) 106 (.inl (g 0, 200, .inl (aI (va_up d2 m ((((x / b ^ m) % b : Nat)) : Int)))))) (show (m : Int) + 1 = ((m + 1 : Nat) : Int) from by omega)) ?_
        exact ih (m + 1) bh9 bl10 (va_up d2 m ((((x / b ^ m) % b : Nat)) : Int)) (by omega) (fun k hk => by
            by_cases e : k = m
            · subst e; rw [va_up_self]; rfl
            · rw [va_up_ne _ _ e]; exact hdd k (by omega)) hR16 (by omega)
      · refine J_aload_n 0 d_M_spell_21 rfl rfl ?_
        refine gf_M_268 (by omega) (by rw [va_up_ne _ _ (by decide), va_up_ne _ _ (by decide), va_up_ne _ _ (by decide), va_up_self]) rfl d_M_spell_22 ?_
        refine J_topi (r := (m : Int)) (congrArg iI (va_up_self ..)) ?_
        refine J_iload_n 3 d_M_spell_25 rfl rfl ?_
        refine J_if_icmpge (tgt := 58) d_M_spell_26 (by decide) ⟨by omega, by omega⟩ ⟨by omega, by omega⟩ (fun c26 => ?_) (fun c26 => ?_)
        · refine J_vret rfl d_M_spell_58 ⟨by decide, by decide⟩ ?_
          have hx0 : x / b ^ m = 0 := by omega
          have h5 : ndg b x ≤ m := (ndg_le hb.1).mpr ((Nat.div_eq_zero_iff_lt (Nat.pow_pos (by omega))).mp hx0)
          have hme : m = ndm b lst x := by unfold ndm; split; (unfold ndm at hmm; split at hmm <;> omega); (unfold ndm at hmm; split at hmm <;> omega)
          rw [hx0] at hRL12
          subst hme
          exact ⟨rfl, rfl, rfl, e1, e2, d2, hRL12, hdd, rfl⟩
        · have hlt : m < ndm b lst x := (show (x / b ^ m ≠ 0 ∨ m < lst) → _ from hstep) (Or.inr (by omega))
          refine J_aload_n 0 d_M_spell_29 rfl rfl ?_
          refine gf_M_33 (by omega) (by rw [va_up_ne _ _ (by decide), va_up_ne _ _ (by decide), va_up_ne _ _ (by decide), va_up_self]) rfl d_M_spell_30 ?_
          refine J_aload_n 0 d_M_spell_33 rfl rfl ?_
          refine gf_M_268 (by omega) (by rw [va_up_ne _ _ (by decide), va_up_ne _ _ (by decide), va_up_ne _ _ (by decide), va_up_self]) rfl d_M_spell_34 ?_
          refine J_topi (r := (m : Int)) (congrArg iI (va_up_self ..)) ?_
          refine J_aload_n 0 d_M_spell_37 rfl rfl ?_
          refine J_bipush d_M_spell_38 (i8_ok (by decide)) ?_
          refine J_iload_n 2 d_M_spell_40 rfl rfl ?_
          refine J_callVi cw_M_271 nh_M_shrink pn_M_shrink rfl rfl (by omega) (by rw [va_up_ne _ _ (by decide), va_up_ne _ _ (by decide), va_up_ne _ _ (by decide), va_up_self]) (As := [.int (iI 29), .int (iI (b : Int))]) (rest := [.int (iI (m : Int)), .ref (ad 106)]) rfl (Nat.le_of_ble_eq_true rfl) ⟨by decide, by decide⟩ rfl ⟨by decide, by decide⟩ d_M_spell_41 (k_M_shrink hfl (a := 29) (d := b) (hh := e1) (ll := e2) (V := va_up V 29 (x / b ^ m)) (br := br) (hN := hN) (hO := (by rw [va_up_ne _ _ (by decide), va_up_ne _ _ (by decide), va_up_ne _ _ (by decide), va_up_self])) (hB := (by rw [va_up_ne _ _ (by decide), va_up_ne _ _ (by decide), va_up_self])) (hL := (by rw [va_up_ne _ _ (by decide), va_up_self])) (hR := hRL12) (ha := by omega) (hxa := (va_up_self ..)) (bra := (hzz.2 29 (by decide) (by decide))) (hd := ⟨by omega, by omega⟩)) (fun z21 F4 hq => ?_)
          obtain ⟨hz20, bh17, bl18, hR19, eF4⟩ := hq
          refine J_eqF (F2 := va_up (va_up (va_up (va_up F 98 (oM ad (va_up f 16 (m : Int)) v)) 99 (.inl (g 0, 858, .inl (aI bh17)))) 100 (.inl (g 0, 33, .inl (aI bl18)))) 106 (.inl (g 0, 200, .inl (aI d2)))) (eF4.trans (Eq.trans (congrArg (fun q : Nat → va_E => va_up q 100 (.inl (g 0, 33, .inl (aI bl18)))) (up_in2 (by decide) (by decide))) (up_in1 (by decide)))) ?_
          refine J_topi (r := ((((x / b ^ m) % b : Nat)) : Int)) (congrArg iI hz20) ?_
          have hR22 := reg_w1 (hzz.1 _) hR19
          have hR23 := (congrArg (fun qq : Nat → Nat => reg _ _ _ (qq)) (up_in0)).mp hR22
          refine J_iastore 0 rfl (by omega) (by rw [va_up_self]) (by omega) d_M_spell_44 ?_
          refine J_eqF (F2 := va_up (va_up (va_up (va_up (va_up F 98 (oM ad (va_up f 16 (m : Int)) v)) 99 (.inl (g 0, 858, .inl (aI bh17)))) 100 (.inl (g 0, 33, .inl (aI bl18)))) 106 (.inl (g 0, 200, .inl (aI d2)))) 106 (.inl (g 0, 200, .inl (aI (va_up d2 m ((((x / b ^ m) % b : Nat)) : Int)))))) (congrArg (fun q => va_up (va_up (va_up (va_up (va_up F 98 (oM ad (va_up f 16 (m : Int)) v)) 99 (.inl (g 0, 858, .inl (aI bh17)))) 100 (.inl (g 0, 33, .inl (aI bl18)))) 106 (.inl (g 0, 200, .inl (aI d2)))) 106 (.inl (g 0, 200, .inl (aI (va_up d2 q ((((x / b ^ m) % b : Nat)) : Int)))))) (by omega : (m : Int).toNat = m)) ?_
          refine J_eqF (F2 := va_up (va_up (va_up (va_up F 98 (oM ad (va_up f 16 (m : Int)) v)) 99 (.inl (g 0, 858, .inl (aI bh17)))) 100 (.inl (g 0, 33, .inl (aI bl18)))) 106 (.inl (g 0, 200, .inl (aI (va_up d2 m ((((x / b ^ m) % b : Nat)) : Int)))))) (up_in0) ?_
          have hR24 := (congrArg (fun qq : Nat => reg _ _ _ (va_up V 29 qq)) (show ((x / b ^ m) / b) = (x / b ^ (m + 1)) from spl_div x b m)).mp hR23
          refine J_aload_n 0 d_M_spell_45 rfl rfl ?_
          refine J_dup d_M_spell_46 rfl ?_
          refine gf_M_268 (by omega) (by rw [va_up_ne _ _ (by decide), va_up_ne _ _ (by decide), va_up_ne _ _ (by decide), va_up_self]) rfl d_M_spell_47 ?_
          refine J_topi (r := (m : Int)) (congrArg iI (va_up_self ..)) ?_
          refine J_iconst d_M_spell_50 ?_
          refine J_iadd d_M_spell_51 ?_
          refine pm_M_268 (by omega) (by rw [va_up_ne _ _ (by decide), va_up_ne _ _ (by decide), va_up_ne _ _ (by decide), va_up_self]) d_M_spell_52 ?_
          refine J_eqF (F2 := va_up (va_up (va_up (va_up (va_up F 98 (oM ad (va_up f 16 (m : Int)) v)) 99 (.inl (g 0, 858, .inl (aI bh17)))) 100 (.inl (g 0, 33, .inl (aI bl18)))) 106 (.inl (g 0, 200, .inl (aI (va_up d2 m ((((x / b ^ m) % b : Nat)) : Int)))))) 98 (oM ad (va_up f 16 ((m : Int) + 1)) v)) (congrArg (fun qq : Nat → Int => va_up (va_up (va_up (va_up (va_up F 98 (oM ad (va_up f 16 (m : Int)) v)) 99 (.inl (g 0, 858, .inl (aI bh17)))) 100 (.inl (g 0, 33, .inl (aI bl18)))) 106 (.inl (g 0, 200, .inl (aI (va_up d2 m ((((x / b ^ m) % b : Nat)) : Int)))))) 98 (oM ad qq v)) (up_in0)) ?_
          refine J_eqF (F2 := va_up (va_up (va_up (va_up F 98 (oM ad (va_up f 16 ((m : Int) + 1)) v)) 99 (.inl (g 0, 858, .inl (aI bh17)))) 100 (.inl (g 0, 33, .inl (aI bl18)))) 106 (.inl (g 0, 200, .inl (aI (va_up d2 m ((((x / b ^ m) % b : Nat)) : Int)))))) (up_in3 (by decide) (by decide) (by decide)) ?_
          refine J_goto (tgt := 12) d_M_spell_55 (by decide) ?_
          refine J_eqF (F2 := va_up (va_up (va_up (va_up F 98 (oM ad (va_up f 16 ((m + 1 : Nat) : Int)) v)) 99 (.inl (g 0, 858, .inl (aI bh17)))) 100 (.inl (g 0, 33, .inl (aI bl18)))) 106 (.inl (g 0, 200, .inl (aI (va_up d2 m ((((x / b ^ m) % b : Nat)) : Int)))))) (congrArg (fun qq : Int => va_up (va_up (va_up (va_up F 98 (oM ad (va_up f 16 qq) v)) 99 (.inl (g 0, 858, .inl (aI bh17)))) 100 (.inl (g 0, 33, .inl (aI bl18)))) 106 (.inl (g 0, 200, .inl (aI (va_up d2 m ((((x / b ^ m) % b : Nat)) : Int)))))) (show (m : Int) + 1 = ((m + 1 : Nat) : Int) from by omega)) ?_
          exact ih (m + 1) bh17 bl18 (va_up d2 m ((((x / b ^ m) % b : Nat)) : Int)) (by omega) (fun k hk => by
              by_cases e : k = m
              · subst e; rw [va_up_self]; rfl
              · rw [va_up_ne _ _ e]; exact hdd k (by omega)) hR24 (by omega)
  exact loop12 ((201 - 0) + 1) 0 bh1 bl2 dh (Nat.zero_le _) (fun k hk => absurd hk (Nat.not_lt_zero _)) hR7 (Nat.lt_succ_self _)
set_option maxRecDepth 100000 in
set_option maxHeartbeats 4000000 in
theorem c_M_sayDigits {l : Launch} (hfl : l.flags = flags0) {D : va_G} {g : Nat → ClassId} {ad : Nat → Nat} {N : Nat} {F : Nat → va_E} {f : Nat → Int} {v : UInt64} {tt : Nat → Int} {w : List Nat} {dh : Nat → Int} {dv : Nat → Nat} {cap fro : Int} {grp pt to n : Nat}
    (hN : 109 ≤ N) (hO : F 98 = oM ad f v) (h107 : F 107 = .inl (g 0, 260, .inl (aI tt))) (hmt : mtx tt w) (hf18 : f 18 = (w.length : Int)) (h106 : F 106 = .inl (g 0, 200, .inl (aI dh))) (hdv : ∀ k, k < to + n → dh k = ((dv k : Nat) : Int) ∧ dv k < 16) (hfr : fro = (to : Int) + (n : Int) - 1) (hn : to + n ≤ 200) (hgr : 0 < grp ∧ grp < 100) (hpt : pt < 128) (hcap : cap = 0 ∨ cap = 1) (hw : w.length + 2 * n ≤ 259) :
    JC l y_M_sayDigits b_M_sayDigits 7 (Option.none : Option Jvm.ClassFile.FieldType) rm_M_sayDigits (0, 0) D jCl (jTys g) ad N F [.ref (ad 98), .int (iI fro), .int (iI (to : Int)), .int (iI (grp : Int)), .int (iI (pt : Int)), .int (iI cap)] (jv ad N (fun F' => ∃ tt' : Nat → Int, mtx tt' (w ++ sgr dv cap grp pt to n) ∧ F' = va_up (va_up F 107 (.inl (g 0, 260, .inl (aI tt')))) 98 (oM ad (va_up f 18 ((w ++ sgr dv cap grp pt to n).length : Int)) v))) := by
  refine JC.go hfl (own := "NumberTowerModel") (lv := [(0, .ref (ad 98)), (1, .int (iI fro)), (2, .int (iI (to : Int))), (3, .int (iI (grp : Int))), (4, .int (iI (pt : Int))), (5, .int (iI cap))]) rfl (by decide +kernel) (Nat.le_of_ble_eq_true rfl) rfl (fun A => ?_)
  refine J_iload_n 1 d_M_sayDigits_0 rfl rfl ?_
  refine J_istore (lv' := [(6, .int (iI fro)), (0, .ref (ad 98)), (1, .int (iI fro)), (2, .int (iI (to : Int))), (3, .int (iI (grp : Int))), (4, .int (iI (pt : Int))), (5, .int (iI cap))]) d_M_sayDigits_1 (by decide) rfl ?_
  refine J_pick (lv' := [(0, .ref (ad 98)), (1, .int (iI fro)), (2, .int (iI (to : Int))), (3, .int (iI (grp : Int))), (4, .int (iI (pt : Int))), (5, .int (iI cap)), (6, .int (iI fro))]) [1, 2, 3, 4, 5, 6, 0] rfl ?_
  refine J_eqF (F2 := va_up F 98 (oM ad f v)) (up_same1 hO) ?_
  refine J_eqF (F2 := va_up F 98 (oM ad (va_up f 18 (w.length : Int)) v)) (congrArg (fun qq : Nat → Int => va_up F 98 (oM ad qq v)) (up_same1 (i := 18) (a := (w.length : Int)) (hf18))) ?_
  refine J_eqF (F2 := va_up (va_up F 98 (oM ad (va_up f 18 (w.length : Int)) v)) 107 (.inl (g 0, 260, .inl (aI tt)))) (up_same1 (by rw [va_up_ne _ _ (by decide)]; exact h107)) ?_
  refine J_eqF (F2 := va_up (va_up F 107 (.inl (g 0, 260, .inl (aI tt)))) 98 (oM ad (va_up f 18 (w.length : Int)) v)) (up_cm (by decide)) ?_
  have loop3 : ∀ (fuel : Nat) (p : Int) (m : Nat) (w2 : List Nat) (t2 : Nat → Int) (hpm : p = (to : Int) + (m : Int) - 1) (hm2 : mtx t2 w2) (hmn : m ≤ n) (hwl : w2.length + 2 * m ≤ 259) (htg : w2 ++ sgr dv cap grp pt to m = w ++ sgr dv cap grp pt to n) (hfu : m < fuel), J l rm_M_sayDigits (0, 0) "NumberTowerModel" b_M_sayDigits 7 (Option.none : Option Jvm.ClassFile.FieldType) D jCl (jTys g) A (fun _ me => me.name = y_M_sayDigits.name) (jv ad N (fun F' => ∃ tt' : Nat → Int, mtx tt' (w ++ sgr dv cap grp pt to n) ∧ F' = va_up (va_up F 107 (.inl (g 0, 260, .inl (aI tt')))) 98 (oM ad (va_up f 18 ((w ++ sgr dv cap grp pt to n).length : Int)) v))) ad N 0 0 3 [(0, .ref (ad 98)), (1, .int (iI fro)), (2, .int (iI (to : Int))), (3, .int (iI (grp : Int))), (4, .int (iI (pt : Int))), (5, .int (iI cap)), (6, .int (iI p))] [] (va_up (va_up F 107 (.inl (g 0, 260, .inl (aI t2)))) 98 (oM ad (va_up f 18 ((w2.length : Nat) : Int)) v)) := by
    intro fuel
    induction fuel with
    | zero => intro p m w2 t2 hpm hm2 hmn hwl htg hfu; exact absurd hfu (Nat.not_lt_zero _)
    | succ fuel ih =>
      intro p m w2 t2 hpm hm2 hmn hwl htg hfu
      refine J_iload 6 d_M_sayDigits_3 rfl ?_
      refine J_iload_n 2 d_M_sayDigits_5 rfl rfl ?_
      refine J_if_icmplt (tgt := 53) d_M_sayDigits_6 (by decide) ⟨by omega, by omega⟩ ⟨by omega, by omega⟩ (fun c6 => ?_) (fun c6 => ?_)
      · refine J_vret rfl d_M_sayDigits_53 ⟨by decide, by decide⟩ ?_
        have hm0 : m = 0 := by omega
        subst hm0
        have h9 : w2 = w ++ sgr dv cap grp pt to n := by rw [← htg]; exact (List.append_nil _).symm
        subst h9
        exact ⟨rfl, rfl, rfl, t2, hm2, rfl⟩
      · refine J_aload_n 0 d_M_sayDigits_9 rfl rfl ?_
        refine J_aload_n 0 d_M_sayDigits_10 rfl rfl ?_
        refine J_iload 6 d_M_sayDigits_11 rfl ?_
        refine J_topi (r := ((to + (m - 1) : Nat) : Int)) (congrArg iI (by omega)) ?_
        refine J_iload 5 d_M_sayDigits_13 rfl ?_
        refine J_callVi cw_M_274 nh_M_sign pn_M_sign rfl rfl (by omega) (by rw [va_up_self]) (As := [.int (iI ((to + (m - 1) : Nat) : Int)), .int (iI cap)]) (rest := [.ref (ad 98)]) rfl (Nat.le_of_ble_eq_true rfl) ⟨by decide, by decide⟩ rfl ⟨by decide, by decide⟩ d_M_sayDigits_15 (c_M_sign hfl (f := va_up f 18 ((w2.length : Nat) : Int)) (v := v) (dh := dh) (k := to + (m - 1)) (d := dv (to + (m - 1))) (cap := cap) hN (by rw [va_up_self]) (by rw [va_up_ne _ _ (by decide), va_up_ne _ _ (by decide)]; exact h106) (by omega) (hdv _ (by omega)).1 (hdv _ (by omega)).2 hcap) (fun zs F1 hq => ?_)
        obtain ⟨hzs, eF1⟩ := hq
        refine J_eqF eF1 ?_
        refine J_topi (r := (((chd cap (dv (to + (m - 1))) : Nat)) : Int)) (congrArg iI hzs) ?_
        refine J_callVv cw_M_278 nh_M_say pn_M_say rfl rfl (by omega) (by rw [va_up_self]) (As := [.int (iI (((chd cap (dv (to + (m - 1))) : Nat)) : Int))]) (rest := []) rfl (Nat.le_of_ble_eq_true rfl) ⟨by decide, by decide⟩ rfl ⟨by decide, by decide⟩ d_M_sayDigits_18 (c_M_say hfl (f := va_up f 18 ((w2.length : Nat) : Int)) (v := v) (tt := t2) (w := w2) (c := (chd cap (dv (to + (m - 1))))) hN (by rw [va_up_self]) (by rw [va_up_ne _ _ (by decide), va_up_self]) hm2 (va_up_self ..) (by omega)) (fun  F2 hq => ?_)
        obtain ⟨tx25, hmt26, eF2⟩ := hq
        refine J_eqF (F2 := va_up (va_up F 107 (.inl (g 0, 260, .inl (aI tx25)))) 98 (oM ad (va_up f 18 (((w2 ++ [chd cap (dv (to + (m - 1)))]).length : Nat) : Int)) v)) ((eF2.trans (congrArg (fun qq : Nat → Int => va_up (va_up (va_up (va_up F 107 (.inl (g 0, 260, .inl (aI t2)))) 98 (oM ad (va_up f 18 ((w2.length : Nat) : Int)) v)) 107 (.inl (g 0, 260, .inl (aI tx25)))) 98 (oM ad qq v)) (up_in0))).trans (Eq.trans (congrArg (fun q : Nat → va_E => va_up q 98 (oM ad (va_up f 18 (((w2 ++ [chd cap (dv (to + (m - 1)))]).length : Nat) : Int)) v)) (up_in1 (by decide))) (up_in0))) ?_
        refine J_iload 4 d_M_sayDigits_21 rfl ?_
        refine J_ifle (tgt := 47) d_M_sayDigits_23 (by decide) ⟨by omega, by omega⟩ (fun c23 => ?_) (fun c23 => ?_)
        · refine J_iinc (j := 6) (b := p - 1) (lv' := [(6, .int (iI (p - 1))), (0, .ref (ad 98)), (1, .int (iI fro)), (2, .int (iI (to : Int))), (3, .int (iI (grp : Int))), (4, .int (iI (pt : Int))), (5, .int (iI cap))]) d_M_sayDigits_47 rfl (by omega) (by decide) rfl ?_
          refine J_goto (tgt := 3) d_M_sayDigits_50 (by decide) ?_
          refine J_pick (lv' := [(0, .ref (ad 98)), (1, .int (iI fro)), (2, .int (iI (to : Int))), (3, .int (iI (grp : Int))), (4, .int (iI (pt : Int))), (5, .int (iI cap)), (6, .int (iI (p - 1)))]) [1, 2, 3, 4, 5, 6, 0] rfl ?_
          have hsg := sgr_n (dv := dv) (cap := cap) (grp := grp) (pt := pt) (to := to) (n := m - 1) (fun w => by have w1 := w.1; have w2 := w.2.1; have w3 := w.2.2; omega)
          rw [show m - 1 + 1 = m by omega] at hsg
          exact ih (p - 1) (m - 1) (w2 ++ [chd cap (dv (to + (m - 1)))]) tx25 (by omega) hmt26 (by omega) (by simp only [List.length_append, List.length_cons, List.length_nil]; omega) (by rw [← htg, hsg, ap1]) (by omega)
        · refine J_iload 6 d_M_sayDigits_26 rfl ?_
          refine J_iload_n 2 d_M_sayDigits_28 rfl rfl ?_
          refine J_if_icmple (tgt := 47) d_M_sayDigits_29 (by decide) ⟨by omega, by omega⟩ ⟨by omega, by omega⟩ (fun c29 => ?_) (fun c29 => ?_)
          · refine J_iinc (j := 6) (b := p - 1) (lv' := [(6, .int (iI (p - 1))), (0, .ref (ad 98)), (1, .int (iI fro)), (2, .int (iI (to : Int))), (3, .int (iI (grp : Int))), (4, .int (iI (pt : Int))), (5, .int (iI cap))]) d_M_sayDigits_47 rfl (by omega) (by decide) rfl ?_
            refine J_goto (tgt := 3) d_M_sayDigits_50 (by decide) ?_
            refine J_pick (lv' := [(0, .ref (ad 98)), (1, .int (iI fro)), (2, .int (iI (to : Int))), (3, .int (iI (grp : Int))), (4, .int (iI (pt : Int))), (5, .int (iI cap)), (6, .int (iI (p - 1)))]) [1, 2, 3, 4, 5, 6, 0] rfl ?_
            have hsg := sgr_n (dv := dv) (cap := cap) (grp := grp) (pt := pt) (to := to) (n := m - 1) (fun w => by have w1 := w.1; have w2 := w.2.1; have w3 := w.2.2; omega)
            rw [show m - 1 + 1 = m by omega] at hsg
            exact ih (p - 1) (m - 1) (w2 ++ [chd cap (dv (to + (m - 1)))]) tx25 (by omega) hmt26 (by omega) (by simp only [List.length_append, List.length_cons, List.length_nil]; omega) (by rw [← htg, hsg, ap1]) (by omega)
          · refine J_iload 6 d_M_sayDigits_32 rfl ?_
            refine J_iload_n 2 d_M_sayDigits_34 rfl rfl ?_
            refine J_isub d_M_sayDigits_35 ?_
            refine J_topi (r := ((m - 1 : Nat) : Int)) (congrArg iI (by omega)) ?_
            refine J_iload_n 3 d_M_sayDigits_36 rfl rfl ?_
            refine J_iremn d_M_sayDigits_37 (by omega) (by omega) ?_
            refine J_topi (r := (((m - 1) % grp : Nat) : Int)) (congrArg iI rfl) ?_
            have hmg := Nat.mod_lt (m - 1) hgr.1
            refine J_ifne (tgt := 47) d_M_sayDigits_38 (by decide) ⟨by omega, by omega⟩ (fun c38 => ?_) (fun c38 => ?_)
            · refine J_iinc (j := 6) (b := p - 1) (lv' := [(6, .int (iI (p - 1))), (0, .ref (ad 98)), (1, .int (iI fro)), (2, .int (iI (to : Int))), (3, .int (iI (grp : Int))), (4, .int (iI (pt : Int))), (5, .int (iI cap))]) d_M_sayDigits_47 rfl (by omega) (by decide) rfl ?_
              refine J_goto (tgt := 3) d_M_sayDigits_50 (by decide) ?_
              refine J_pick (lv' := [(0, .ref (ad 98)), (1, .int (iI fro)), (2, .int (iI (to : Int))), (3, .int (iI (grp : Int))), (4, .int (iI (pt : Int))), (5, .int (iI cap)), (6, .int (iI (p - 1)))]) [1, 2, 3, 4, 5, 6, 0] rfl ?_
              have hsg := sgr_n (dv := dv) (cap := cap) (grp := grp) (pt := pt) (to := to) (n := m - 1) (fun w => by have w1 := w.1; have w2 := w.2.1; have w3 := w.2.2; omega)
              rw [show m - 1 + 1 = m by omega] at hsg
              exact ih (p - 1) (m - 1) (w2 ++ [chd cap (dv (to + (m - 1)))]) tx25 (by omega) hmt26 (by omega) (by simp only [List.length_append, List.length_cons, List.length_nil]; omega) (by rw [← htg, hsg, ap1]) (by omega)
            · refine J_aload_n 0 d_M_sayDigits_41 rfl rfl ?_
              refine J_iload 4 d_M_sayDigits_42 rfl ?_
              refine J_callVv cw_M_278 nh_M_say pn_M_say rfl rfl (by omega) (by rw [va_up_self]) (As := [.int (iI (pt : Int))]) (rest := []) rfl (Nat.le_of_ble_eq_true rfl) ⟨by decide, by decide⟩ rfl ⟨by decide, by decide⟩ d_M_sayDigits_44 (c_M_say hfl (f := va_up f 18 (((w2 ++ [chd cap (dv (to + (m - 1)))]).length : Nat) : Int)) (v := v) (tt := tx25) (w := (w2 ++ [chd cap (dv (to + (m - 1)))])) (c := pt) hN (by rw [va_up_self]) (by rw [va_up_ne _ _ (by decide), va_up_self]) hmt26 (va_up_self ..) (by simp only [List.length_append, List.length_cons, List.length_nil]; omega)) (fun  F3 hq => ?_)
              obtain ⟨tx27, hmt28, eF3⟩ := hq
              refine J_eqF (F2 := va_up (va_up F 107 (.inl (g 0, 260, .inl (aI tx27)))) 98 (oM ad (va_up f 18 ((((w2 ++ [chd cap (dv (to + (m - 1)))]) ++ [pt]).length : Nat) : Int)) v)) ((eF3.trans (congrArg (fun qq : Nat → Int => va_up (va_up (va_up (va_up F 107 (.inl (g 0, 260, .inl (aI tx25)))) 98 (oM ad (va_up f 18 (((w2 ++ [chd cap (dv (to + (m - 1)))]).length : Nat) : Int)) v)) 107 (.inl (g 0, 260, .inl (aI tx27)))) 98 (oM ad qq v)) (up_in0))).trans (Eq.trans (congrArg (fun q : Nat → va_E => va_up q 98 (oM ad (va_up f 18 ((((w2 ++ [chd cap (dv (to + (m - 1)))]) ++ [pt]).length : Nat) : Int)) v)) (up_in1 (by decide))) (up_in0))) ?_
              refine J_iinc (j := 6) (b := p - 1) (lv' := [(6, .int (iI (p - 1))), (0, .ref (ad 98)), (1, .int (iI fro)), (2, .int (iI (to : Int))), (3, .int (iI (grp : Int))), (4, .int (iI (pt : Int))), (5, .int (iI cap))]) d_M_sayDigits_47 rfl (by omega) (by decide) rfl ?_
              refine J_goto (tgt := 3) d_M_sayDigits_50 (by decide) ?_
              refine J_pick (lv' := [(0, .ref (ad 98)), (1, .int (iI fro)), (2, .int (iI (to : Int))), (3, .int (iI (grp : Int))), (4, .int (iI (pt : Int))), (5, .int (iI cap)), (6, .int (iI (p - 1)))]) [1, 2, 3, 4, 5, 6, 0] rfl ?_
              have hsg := sgr_y (dv := dv) (cap := cap) (grp := grp) (pt := pt) (to := to) (n := m - 1) ⟨by omega, by omega, by omega⟩
              rw [show m - 1 + 1 = m by omega] at hsg
              exact ih (p - 1) (m - 1) ((w2 ++ [chd cap (dv (to + (m - 1)))]) ++ [pt]) tx27 (by omega) hmt28 (by omega) (by simp only [List.length_append, List.length_cons, List.length_nil]; omega) (by rw [← htg, hsg, ap2]) (by omega)
  exact loop3 (n + 1) fro n w tt hfr hmt (Nat.le_refl _) hw rfl (Nat.lt_succ_self _)
set_option maxRecDepth 100000 in
set_option maxHeartbeats 4000000 in
theorem c_M_sayExponent {l : Launch} (hfl : l.flags = flags0) {D : va_G} {g : Nat → ClassId} {ad : Nat → Nat} {N : Nat} {F : Nat → va_E} {f : Nat → Int} {v : UInt64} {tt : Nat → Int} {w : List Nat} {e : Int} {lt : Nat}
    (hN : 109 ≤ N) (hO : F 98 = oM ad f v) (h107 : F 107 = .inl (g 0, 260, .inl (aI tt))) (hmt : mtx tt w) (hf18 : f 18 = (w.length : Int)) (he : -100 < e ∧ e < 100) (hw : w.length ≤ 255) :
    JC l y_M_sayExponent b_M_sayExponent 4 (Option.none : Option Jvm.ClassFile.FieldType) rm_M_sayExponent (0, 0) D jCl (jTys g) ad N F [.ref (ad 98), .int (iI e), .int (iI (lt : Int))] (jv ad N (fun F' => ∃ tt' : Nat → Int, mtx tt' (w ++ expT e lt) ∧ F' = va_up (va_up F 107 (.inl (g 0, 260, .inl (aI tt')))) 98 (oM ad (va_up f 18 ((w ++ expT e lt).length : Int)) v))) := by
  refine JC.go hfl (own := "NumberTowerModel") (lv := [(0, .ref (ad 98)), (1, .int (iI e)), (2, .int (iI (lt : Int)))]) rfl (by decide +kernel) (Nat.le_of_ble_eq_true rfl) rfl (fun A => ?_)
  refine J_aload_n 0 d_M_sayExponent_0 rfl rfl ?_
  refine J_iload_n 2 d_M_sayExponent_1 rfl rfl ?_
  refine J_callVv cw_M_278 nh_M_say pn_M_say rfl rfl (by omega) hO (As := [.int (iI (lt : Int))]) (rest := []) rfl (Nat.le_of_ble_eq_true rfl) ⟨by decide, by decide⟩ rfl ⟨by decide, by decide⟩ d_M_sayExponent_2 (c_M_say hfl (f := f) (v := v) (tt := tt) (w := w) (c := lt) hN hO h107 hmt (hf18) (by omega)) (fun  F1 hq => ?_)
  obtain ⟨tx29, hmt30, eF1⟩ := hq
  refine J_eqF (F2 := va_up (va_up F 107 (.inl (g 0, 260, .inl (aI tx29)))) 98 (oM ad (va_up f 18 (((w ++ [lt]).length : Nat) : Int)) v)) eF1 ?_
  refine J_aload_n 0 d_M_sayExponent_5 rfl rfl ?_
  refine J_iload_n 1 d_M_sayExponent_6 rfl rfl ?_
  refine J_ifge (tgt := 15) d_M_sayExponent_7 (by decide) ⟨by omega, by omega⟩ (fun c7 => ?_) (fun c7 => ?_)
  · refine J_bipush d_M_sayExponent_15 (i8_ok (by decide)) ?_
    refine J_callVv cw_M_278 nh_M_say pn_M_say rfl rfl (by omega) (by rw [va_up_self]) (As := [.int (iI 43)]) (rest := []) rfl (Nat.le_of_ble_eq_true rfl) ⟨by decide, by decide⟩ rfl ⟨by decide, by decide⟩ d_M_sayExponent_17 (c_M_say hfl (f := va_up f 18 (((w ++ [lt]).length : Nat) : Int)) (v := v) (tt := tx29) (w := (w ++ [lt])) (c := (43 : Nat)) hN (by rw [va_up_self]) (by rw [va_up_ne _ _ (by decide), va_up_self]) hmt30 (va_up_self ..) (by simp only [List.length_append, List.length_cons, List.length_nil]; omega)) (fun  F2 hq => ?_)
    obtain ⟨tx31, hmt32, eF2⟩ := hq
    refine J_eqF (F2 := va_up (va_up F 107 (.inl (g 0, 260, .inl (aI tx31)))) 98 (oM ad (va_up f 18 ((((w ++ [lt]) ++ [(43 : Nat)]).length : Nat) : Int)) v)) ((eF2.trans (congrArg (fun qq : Nat → Int => va_up (va_up (va_up (va_up F 107 (.inl (g 0, 260, .inl (aI tx29)))) 98 (oM ad (va_up f 18 (((w ++ [lt]).length : Nat) : Int)) v)) 107 (.inl (g 0, 260, .inl (aI tx31)))) 98 (oM ad qq v)) (up_in0))).trans (Eq.trans (congrArg (fun q : Nat → va_E => va_up q 98 (oM ad (va_up f 18 ((((w ++ [lt]) ++ [(43 : Nat)]).length : Nat) : Int)) v)) (up_in1 (by decide))) (up_in0))) ?_
    refine J_iload_n 1 d_M_sayExponent_20 rfl rfl ?_
    refine J_ifge (tgt := 29) d_M_sayExponent_21 (by decide) ⟨by omega, by omega⟩ (fun c21 => ?_) (fun c21 => ?_)
    · refine J_iload_n 1 d_M_sayExponent_29 rfl rfl ?_
      refine J_istore_n (lv' := [(3, .int (iI e)), (0, .ref (ad 98)), (1, .int (iI e)), (2, .int (iI (lt : Int)))]) d_M_sayExponent_30 rfl (by decide) rfl ?_
      refine J_aload_n 1 d_M_sayExponent_31 rfl rfl ?_
      refine J_bipush d_M_sayExponent_32 (i8_ok (by decide)) ?_
      refine J_iload_n 0 d_M_sayExponent_34 rfl rfl ?_
      refine J_bipush d_M_sayExponent_35 (i8_ok (by decide)) ?_
      refine J_idivn d_M_sayExponent_37 (by omega) (by omega) ?_
      refine J_topi (r := ((e.natAbs / 10 : Nat) : Int)) (congrArg iI (by omega)) ?_
      refine J_iadd d_M_sayExponent_38 ?_
      refine J_callVv cw_M_278 nh_M_say pn_M_say rfl rfl (by omega) (by rw [va_up_self]) (As := [.int (iI (48 + ((e.natAbs / 10 : Nat) : Int)))]) (rest := []) rfl (Nat.le_of_ble_eq_true rfl) ⟨by decide, by decide⟩ rfl ⟨by decide, by decide⟩ d_M_sayExponent_39 (c_M_say hfl (f := va_up f 18 ((((w ++ [lt]) ++ [(43 : Nat)]).length : Nat) : Int)) (v := v) (tt := tx31) (w := ((w ++ [lt]) ++ [(43 : Nat)])) (c := (48 + (e.natAbs / 10))) hN (by rw [va_up_self]) (by rw [va_up_ne _ _ (by decide), va_up_self]) hmt32 (va_up_self ..) (by simp only [List.length_append, List.length_cons, List.length_nil]; omega)) (fun  F3 hq => ?_)
      obtain ⟨tx33, hmt34, eF3⟩ := hq
      refine J_eqF (F2 := va_up (va_up F 107 (.inl (g 0, 260, .inl (aI tx33)))) 98 (oM ad (va_up f 18 (((((w ++ [lt]) ++ [(43 : Nat)]) ++ [48 + (e.natAbs / 10)]).length : Nat) : Int)) v)) ((eF3.trans (congrArg (fun qq : Nat → Int => va_up (va_up (va_up (va_up F 107 (.inl (g 0, 260, .inl (aI tx31)))) 98 (oM ad (va_up f 18 ((((w ++ [lt]) ++ [(43 : Nat)]).length : Nat) : Int)) v)) 107 (.inl (g 0, 260, .inl (aI tx33)))) 98 (oM ad qq v)) (up_in0))).trans (Eq.trans (congrArg (fun q : Nat → va_E => va_up q 98 (oM ad (va_up f 18 (((((w ++ [lt]) ++ [(43 : Nat)]) ++ [48 + (e.natAbs / 10)]).length : Nat) : Int)) v)) (up_in1 (by decide))) (up_in0))) ?_
      refine J_aload_n 1 d_M_sayExponent_42 rfl rfl ?_
      refine J_bipush d_M_sayExponent_43 (i8_ok (by decide)) ?_
      refine J_iload_n 0 d_M_sayExponent_45 rfl rfl ?_
      refine J_bipush d_M_sayExponent_46 (i8_ok (by decide)) ?_
      refine J_iremn d_M_sayExponent_48 (by omega) (by omega) ?_
      refine J_topi (r := ((e.natAbs % 10 : Nat) : Int)) (congrArg iI (by omega)) ?_
      refine J_iadd d_M_sayExponent_49 ?_
      refine J_callVv cw_M_278 nh_M_say pn_M_say rfl rfl (by omega) (by rw [va_up_self]) (As := [.int (iI (48 + ((e.natAbs % 10 : Nat) : Int)))]) (rest := []) rfl (Nat.le_of_ble_eq_true rfl) ⟨by decide, by decide⟩ rfl ⟨by decide, by decide⟩ d_M_sayExponent_50 (c_M_say hfl (f := va_up f 18 (((((w ++ [lt]) ++ [(43 : Nat)]) ++ [48 + (e.natAbs / 10)]).length : Nat) : Int)) (v := v) (tt := tx33) (w := (((w ++ [lt]) ++ [(43 : Nat)]) ++ [48 + (e.natAbs / 10)])) (c := (48 + (e.natAbs % 10))) hN (by rw [va_up_self]) (by rw [va_up_ne _ _ (by decide), va_up_self]) hmt34 (va_up_self ..) (by simp only [List.length_append, List.length_cons, List.length_nil]; omega)) (fun  F4 hq => ?_)
      obtain ⟨tx35, hmt36, eF4⟩ := hq
      refine J_eqF (F2 := va_up (va_up F 107 (.inl (g 0, 260, .inl (aI tx35)))) 98 (oM ad (va_up f 18 ((((((w ++ [lt]) ++ [(43 : Nat)]) ++ [48 + (e.natAbs / 10)]) ++ [48 + (e.natAbs % 10)]).length : Nat) : Int)) v)) ((eF4.trans (congrArg (fun qq : Nat → Int => va_up (va_up (va_up (va_up F 107 (.inl (g 0, 260, .inl (aI tx33)))) 98 (oM ad (va_up f 18 (((((w ++ [lt]) ++ [(43 : Nat)]) ++ [48 + (e.natAbs / 10)]).length : Nat) : Int)) v)) 107 (.inl (g 0, 260, .inl (aI tx35)))) 98 (oM ad qq v)) (up_in0))).trans (Eq.trans (congrArg (fun q : Nat → va_E => va_up q 98 (oM ad (va_up f 18 ((((((w ++ [lt]) ++ [(43 : Nat)]) ++ [48 + (e.natAbs / 10)]) ++ [48 + (e.natAbs % 10)]).length : Nat) : Int)) v)) (up_in1 (by decide))) (up_in0))) ?_
      refine J_vret rfl d_M_sayExponent_53 ⟨by decide, by decide⟩ ?_
      have hxe : ((((w ++ [lt]) ++ [(43 : Nat)]) ++ [48 + (e.natAbs / 10)]) ++ [48 + (e.natAbs % 10)]) = w ++ expT e lt := by unfold expT; rw [if_neg (by omega)]; simp only [List.append_assoc]; rfl
      rw [← hxe]
      exact ⟨rfl, rfl, rfl, _, hmt36, rfl⟩
    · refine J_iload_n 1 d_M_sayExponent_24 rfl rfl ?_
      refine J_ineg d_M_sayExponent_25 ?_
      refine J_goto (tgt := 30) d_M_sayExponent_26 (by decide) ?_
      refine J_istore_n (lv' := [(3, .int (iI (-e))), (0, .ref (ad 98)), (1, .int (iI e)), (2, .int (iI (lt : Int)))]) d_M_sayExponent_30 rfl (by decide) rfl ?_
      refine J_aload_n 1 d_M_sayExponent_31 rfl rfl ?_
      refine J_bipush d_M_sayExponent_32 (i8_ok (by decide)) ?_
      refine J_iload_n 0 d_M_sayExponent_34 rfl rfl ?_
      refine J_bipush d_M_sayExponent_35 (i8_ok (by decide)) ?_
      refine J_idivn d_M_sayExponent_37 (by omega) (by omega) ?_
      refine J_topi (r := ((e.natAbs / 10 : Nat) : Int)) (congrArg iI (by omega)) ?_
      refine J_iadd d_M_sayExponent_38 ?_
      refine J_callVv cw_M_278 nh_M_say pn_M_say rfl rfl (by omega) (by rw [va_up_self]) (As := [.int (iI (48 + ((e.natAbs / 10 : Nat) : Int)))]) (rest := []) rfl (Nat.le_of_ble_eq_true rfl) ⟨by decide, by decide⟩ rfl ⟨by decide, by decide⟩ d_M_sayExponent_39 (c_M_say hfl (f := va_up f 18 ((((w ++ [lt]) ++ [(43 : Nat)]).length : Nat) : Int)) (v := v) (tt := tx31) (w := ((w ++ [lt]) ++ [(43 : Nat)])) (c := (48 + (e.natAbs / 10))) hN (by rw [va_up_self]) (by rw [va_up_ne _ _ (by decide), va_up_self]) hmt32 (va_up_self ..) (by simp only [List.length_append, List.length_cons, List.length_nil]; omega)) (fun  F5 hq => ?_)
      obtain ⟨tx37, hmt38, eF5⟩ := hq
      refine J_eqF (F2 := va_up (va_up F 107 (.inl (g 0, 260, .inl (aI tx37)))) 98 (oM ad (va_up f 18 (((((w ++ [lt]) ++ [(43 : Nat)]) ++ [48 + (e.natAbs / 10)]).length : Nat) : Int)) v)) ((eF5.trans (congrArg (fun qq : Nat → Int => va_up (va_up (va_up (va_up F 107 (.inl (g 0, 260, .inl (aI tx31)))) 98 (oM ad (va_up f 18 ((((w ++ [lt]) ++ [(43 : Nat)]).length : Nat) : Int)) v)) 107 (.inl (g 0, 260, .inl (aI tx37)))) 98 (oM ad qq v)) (up_in0))).trans (Eq.trans (congrArg (fun q : Nat → va_E => va_up q 98 (oM ad (va_up f 18 (((((w ++ [lt]) ++ [(43 : Nat)]) ++ [48 + (e.natAbs / 10)]).length : Nat) : Int)) v)) (up_in1 (by decide))) (up_in0))) ?_
      refine J_aload_n 1 d_M_sayExponent_42 rfl rfl ?_
      refine J_bipush d_M_sayExponent_43 (i8_ok (by decide)) ?_
      refine J_iload_n 0 d_M_sayExponent_45 rfl rfl ?_
      refine J_bipush d_M_sayExponent_46 (i8_ok (by decide)) ?_
      refine J_iremn d_M_sayExponent_48 (by omega) (by omega) ?_
      refine J_topi (r := ((e.natAbs % 10 : Nat) : Int)) (congrArg iI (by omega)) ?_
      refine J_iadd d_M_sayExponent_49 ?_
      refine J_callVv cw_M_278 nh_M_say pn_M_say rfl rfl (by omega) (by rw [va_up_self]) (As := [.int (iI (48 + ((e.natAbs % 10 : Nat) : Int)))]) (rest := []) rfl (Nat.le_of_ble_eq_true rfl) ⟨by decide, by decide⟩ rfl ⟨by decide, by decide⟩ d_M_sayExponent_50 (c_M_say hfl (f := va_up f 18 (((((w ++ [lt]) ++ [(43 : Nat)]) ++ [48 + (e.natAbs / 10)]).length : Nat) : Int)) (v := v) (tt := tx37) (w := (((w ++ [lt]) ++ [(43 : Nat)]) ++ [48 + (e.natAbs / 10)])) (c := (48 + (e.natAbs % 10))) hN (by rw [va_up_self]) (by rw [va_up_ne _ _ (by decide), va_up_self]) hmt38 (va_up_self ..) (by simp only [List.length_append, List.length_cons, List.length_nil]; omega)) (fun  F6 hq => ?_)
      obtain ⟨tx39, hmt40, eF6⟩ := hq
      refine J_eqF (F2 := va_up (va_up F 107 (.inl (g 0, 260, .inl (aI tx39)))) 98 (oM ad (va_up f 18 ((((((w ++ [lt]) ++ [(43 : Nat)]) ++ [48 + (e.natAbs / 10)]) ++ [48 + (e.natAbs % 10)]).length : Nat) : Int)) v)) ((eF6.trans (congrArg (fun qq : Nat → Int => va_up (va_up (va_up (va_up F 107 (.inl (g 0, 260, .inl (aI tx37)))) 98 (oM ad (va_up f 18 (((((w ++ [lt]) ++ [(43 : Nat)]) ++ [48 + (e.natAbs / 10)]).length : Nat) : Int)) v)) 107 (.inl (g 0, 260, .inl (aI tx39)))) 98 (oM ad qq v)) (up_in0))).trans (Eq.trans (congrArg (fun q : Nat → va_E => va_up q 98 (oM ad (va_up f 18 ((((((w ++ [lt]) ++ [(43 : Nat)]) ++ [48 + (e.natAbs / 10)]) ++ [48 + (e.natAbs % 10)]).length : Nat) : Int)) v)) (up_in1 (by decide))) (up_in0))) ?_
      refine J_vret rfl d_M_sayExponent_53 ⟨by decide, by decide⟩ ?_
      have hxe : ((((w ++ [lt]) ++ [(43 : Nat)]) ++ [48 + (e.natAbs / 10)]) ++ [48 + (e.natAbs % 10)]) = w ++ expT e lt := by unfold expT; rw [if_neg (by omega)]; simp only [List.append_assoc]; rfl
      rw [← hxe]
      exact ⟨rfl, rfl, rfl, _, hmt40, rfl⟩
  · refine J_bipush d_M_sayExponent_10 (i8_ok (by decide)) ?_
    refine J_goto (tgt := 17) d_M_sayExponent_12 (by decide) ?_
    refine J_callVv cw_M_278 nh_M_say pn_M_say rfl rfl (by omega) (by rw [va_up_self]) (As := [.int (iI 45)]) (rest := []) rfl (Nat.le_of_ble_eq_true rfl) ⟨by decide, by decide⟩ rfl ⟨by decide, by decide⟩ d_M_sayExponent_17 (c_M_say hfl (f := va_up f 18 (((w ++ [lt]).length : Nat) : Int)) (v := v) (tt := tx29) (w := (w ++ [lt])) (c := (45 : Nat)) hN (by rw [va_up_self]) (by rw [va_up_ne _ _ (by decide), va_up_self]) hmt30 (va_up_self ..) (by simp only [List.length_append, List.length_cons, List.length_nil]; omega)) (fun  F7 hq => ?_)
    obtain ⟨tx41, hmt42, eF7⟩ := hq
    refine J_eqF (F2 := va_up (va_up F 107 (.inl (g 0, 260, .inl (aI tx41)))) 98 (oM ad (va_up f 18 ((((w ++ [lt]) ++ [(45 : Nat)]).length : Nat) : Int)) v)) ((eF7.trans (congrArg (fun qq : Nat → Int => va_up (va_up (va_up (va_up F 107 (.inl (g 0, 260, .inl (aI tx29)))) 98 (oM ad (va_up f 18 (((w ++ [lt]).length : Nat) : Int)) v)) 107 (.inl (g 0, 260, .inl (aI tx41)))) 98 (oM ad qq v)) (up_in0))).trans (Eq.trans (congrArg (fun q : Nat → va_E => va_up q 98 (oM ad (va_up f 18 ((((w ++ [lt]) ++ [(45 : Nat)]).length : Nat) : Int)) v)) (up_in1 (by decide))) (up_in0))) ?_
    refine J_iload_n 1 d_M_sayExponent_20 rfl rfl ?_
    refine J_ifge (tgt := 29) d_M_sayExponent_21 (by decide) ⟨by omega, by omega⟩ (fun c21 => ?_) (fun c21 => ?_)
    · refine J_iload_n 1 d_M_sayExponent_29 rfl rfl ?_
      refine J_istore_n (lv' := [(3, .int (iI e)), (0, .ref (ad 98)), (1, .int (iI e)), (2, .int (iI (lt : Int)))]) d_M_sayExponent_30 rfl (by decide) rfl ?_
      refine J_aload_n 1 d_M_sayExponent_31 rfl rfl ?_
      refine J_bipush d_M_sayExponent_32 (i8_ok (by decide)) ?_
      refine J_iload_n 0 d_M_sayExponent_34 rfl rfl ?_
      refine J_bipush d_M_sayExponent_35 (i8_ok (by decide)) ?_
      refine J_idivn d_M_sayExponent_37 (by omega) (by omega) ?_
      refine J_topi (r := ((e.natAbs / 10 : Nat) : Int)) (congrArg iI (by omega)) ?_
      refine J_iadd d_M_sayExponent_38 ?_
      refine J_callVv cw_M_278 nh_M_say pn_M_say rfl rfl (by omega) (by rw [va_up_self]) (As := [.int (iI (48 + ((e.natAbs / 10 : Nat) : Int)))]) (rest := []) rfl (Nat.le_of_ble_eq_true rfl) ⟨by decide, by decide⟩ rfl ⟨by decide, by decide⟩ d_M_sayExponent_39 (c_M_say hfl (f := va_up f 18 ((((w ++ [lt]) ++ [(45 : Nat)]).length : Nat) : Int)) (v := v) (tt := tx41) (w := ((w ++ [lt]) ++ [(45 : Nat)])) (c := (48 + (e.natAbs / 10))) hN (by rw [va_up_self]) (by rw [va_up_ne _ _ (by decide), va_up_self]) hmt42 (va_up_self ..) (by simp only [List.length_append, List.length_cons, List.length_nil]; omega)) (fun  F8 hq => ?_)
      obtain ⟨tx43, hmt44, eF8⟩ := hq
      refine J_eqF (F2 := va_up (va_up F 107 (.inl (g 0, 260, .inl (aI tx43)))) 98 (oM ad (va_up f 18 (((((w ++ [lt]) ++ [(45 : Nat)]) ++ [48 + (e.natAbs / 10)]).length : Nat) : Int)) v)) ((eF8.trans (congrArg (fun qq : Nat → Int => va_up (va_up (va_up (va_up F 107 (.inl (g 0, 260, .inl (aI tx41)))) 98 (oM ad (va_up f 18 ((((w ++ [lt]) ++ [(45 : Nat)]).length : Nat) : Int)) v)) 107 (.inl (g 0, 260, .inl (aI tx43)))) 98 (oM ad qq v)) (up_in0))).trans (Eq.trans (congrArg (fun q : Nat → va_E => va_up q 98 (oM ad (va_up f 18 (((((w ++ [lt]) ++ [(45 : Nat)]) ++ [48 + (e.natAbs / 10)]).length : Nat) : Int)) v)) (up_in1 (by decide))) (up_in0))) ?_
      refine J_aload_n 1 d_M_sayExponent_42 rfl rfl ?_
      refine J_bipush d_M_sayExponent_43 (i8_ok (by decide)) ?_
      refine J_iload_n 0 d_M_sayExponent_45 rfl rfl ?_
      refine J_bipush d_M_sayExponent_46 (i8_ok (by decide)) ?_
      refine J_iremn d_M_sayExponent_48 (by omega) (by omega) ?_
      refine J_topi (r := ((e.natAbs % 10 : Nat) : Int)) (congrArg iI (by omega)) ?_
      refine J_iadd d_M_sayExponent_49 ?_
      refine J_callVv cw_M_278 nh_M_say pn_M_say rfl rfl (by omega) (by rw [va_up_self]) (As := [.int (iI (48 + ((e.natAbs % 10 : Nat) : Int)))]) (rest := []) rfl (Nat.le_of_ble_eq_true rfl) ⟨by decide, by decide⟩ rfl ⟨by decide, by decide⟩ d_M_sayExponent_50 (c_M_say hfl (f := va_up f 18 (((((w ++ [lt]) ++ [(45 : Nat)]) ++ [48 + (e.natAbs / 10)]).length : Nat) : Int)) (v := v) (tt := tx43) (w := (((w ++ [lt]) ++ [(45 : Nat)]) ++ [48 + (e.natAbs / 10)])) (c := (48 + (e.natAbs % 10))) hN (by rw [va_up_self]) (by rw [va_up_ne _ _ (by decide), va_up_self]) hmt44 (va_up_self ..) (by simp only [List.length_append, List.length_cons, List.length_nil]; omega)) (fun  F9 hq => ?_)
      obtain ⟨tx45, hmt46, eF9⟩ := hq
      refine J_eqF (F2 := va_up (va_up F 107 (.inl (g 0, 260, .inl (aI tx45)))) 98 (oM ad (va_up f 18 ((((((w ++ [lt]) ++ [(45 : Nat)]) ++ [48 + (e.natAbs / 10)]) ++ [48 + (e.natAbs % 10)]).length : Nat) : Int)) v)) ((eF9.trans (congrArg (fun qq : Nat → Int => va_up (va_up (va_up (va_up F 107 (.inl (g 0, 260, .inl (aI tx43)))) 98 (oM ad (va_up f 18 (((((w ++ [lt]) ++ [(45 : Nat)]) ++ [48 + (e.natAbs / 10)]).length : Nat) : Int)) v)) 107 (.inl (g 0, 260, .inl (aI tx45)))) 98 (oM ad qq v)) (up_in0))).trans (Eq.trans (congrArg (fun q : Nat → va_E => va_up q 98 (oM ad (va_up f 18 ((((((w ++ [lt]) ++ [(45 : Nat)]) ++ [48 + (e.natAbs / 10)]) ++ [48 + (e.natAbs % 10)]).length : Nat) : Int)) v)) (up_in1 (by decide))) (up_in0))) ?_
      refine J_vret rfl d_M_sayExponent_53 ⟨by decide, by decide⟩ ?_
      have hxe : ((((w ++ [lt]) ++ [(45 : Nat)]) ++ [48 + (e.natAbs / 10)]) ++ [48 + (e.natAbs % 10)]) = w ++ expT e lt := by unfold expT; rw [if_pos (by omega)]; simp only [List.append_assoc]; rfl
      rw [← hxe]
      exact ⟨rfl, rfl, rfl, _, hmt46, rfl⟩
    · refine J_iload_n 1 d_M_sayExponent_24 rfl rfl ?_
      refine J_ineg d_M_sayExponent_25 ?_
      refine J_goto (tgt := 30) d_M_sayExponent_26 (by decide) ?_
      refine J_istore_n (lv' := [(3, .int (iI (-e))), (0, .ref (ad 98)), (1, .int (iI e)), (2, .int (iI (lt : Int)))]) d_M_sayExponent_30 rfl (by decide) rfl ?_
      refine J_aload_n 1 d_M_sayExponent_31 rfl rfl ?_
      refine J_bipush d_M_sayExponent_32 (i8_ok (by decide)) ?_
      refine J_iload_n 0 d_M_sayExponent_34 rfl rfl ?_
      refine J_bipush d_M_sayExponent_35 (i8_ok (by decide)) ?_
      refine J_idivn d_M_sayExponent_37 (by omega) (by omega) ?_
      refine J_topi (r := ((e.natAbs / 10 : Nat) : Int)) (congrArg iI (by omega)) ?_
      refine J_iadd d_M_sayExponent_38 ?_
      refine J_callVv cw_M_278 nh_M_say pn_M_say rfl rfl (by omega) (by rw [va_up_self]) (As := [.int (iI (48 + ((e.natAbs / 10 : Nat) : Int)))]) (rest := []) rfl (Nat.le_of_ble_eq_true rfl) ⟨by decide, by decide⟩ rfl ⟨by decide, by decide⟩ d_M_sayExponent_39 (c_M_say hfl (f := va_up f 18 ((((w ++ [lt]) ++ [(45 : Nat)]).length : Nat) : Int)) (v := v) (tt := tx41) (w := ((w ++ [lt]) ++ [(45 : Nat)])) (c := (48 + (e.natAbs / 10))) hN (by rw [va_up_self]) (by rw [va_up_ne _ _ (by decide), va_up_self]) hmt42 (va_up_self ..) (by simp only [List.length_append, List.length_cons, List.length_nil]; omega)) (fun  F10 hq => ?_)
      obtain ⟨tx47, hmt48, eF10⟩ := hq
      refine J_eqF (F2 := va_up (va_up F 107 (.inl (g 0, 260, .inl (aI tx47)))) 98 (oM ad (va_up f 18 (((((w ++ [lt]) ++ [(45 : Nat)]) ++ [48 + (e.natAbs / 10)]).length : Nat) : Int)) v)) ((eF10.trans (congrArg (fun qq : Nat → Int => va_up (va_up (va_up (va_up F 107 (.inl (g 0, 260, .inl (aI tx41)))) 98 (oM ad (va_up f 18 ((((w ++ [lt]) ++ [(45 : Nat)]).length : Nat) : Int)) v)) 107 (.inl (g 0, 260, .inl (aI tx47)))) 98 (oM ad qq v)) (up_in0))).trans (Eq.trans (congrArg (fun q : Nat → va_E => va_up q 98 (oM ad (va_up f 18 (((((w ++ [lt]) ++ [(45 : Nat)]) ++ [48 + (e.natAbs / 10)]).length : Nat) : Int)) v)) (up_in1 (by decide))) (up_in0))) ?_
      refine J_aload_n 1 d_M_sayExponent_42 rfl rfl ?_
      refine J_bipush d_M_sayExponent_43 (i8_ok (by decide)) ?_
      refine J_iload_n 0 d_M_sayExponent_45 rfl rfl ?_
      refine J_bipush d_M_sayExponent_46 (i8_ok (by decide)) ?_
      refine J_iremn d_M_sayExponent_48 (by omega) (by omega) ?_
      refine J_topi (r := ((e.natAbs % 10 : Nat) : Int)) (congrArg iI (by omega)) ?_
      refine J_iadd d_M_sayExponent_49 ?_
      refine J_callVv cw_M_278 nh_M_say pn_M_say rfl rfl (by omega) (by rw [va_up_self]) (As := [.int (iI (48 + ((e.natAbs % 10 : Nat) : Int)))]) (rest := []) rfl (Nat.le_of_ble_eq_true rfl) ⟨by decide, by decide⟩ rfl ⟨by decide, by decide⟩ d_M_sayExponent_50 (c_M_say hfl (f := va_up f 18 (((((w ++ [lt]) ++ [(45 : Nat)]) ++ [48 + (e.natAbs / 10)]).length : Nat) : Int)) (v := v) (tt := tx47) (w := (((w ++ [lt]) ++ [(45 : Nat)]) ++ [48 + (e.natAbs / 10)])) (c := (48 + (e.natAbs % 10))) hN (by rw [va_up_self]) (by rw [va_up_ne _ _ (by decide), va_up_self]) hmt48 (va_up_self ..) (by simp only [List.length_append, List.length_cons, List.length_nil]; omega)) (fun  F11 hq => ?_)
      obtain ⟨tx49, hmt50, eF11⟩ := hq
      refine J_eqF (F2 := va_up (va_up F 107 (.inl (g 0, 260, .inl (aI tx49)))) 98 (oM ad (va_up f 18 ((((((w ++ [lt]) ++ [(45 : Nat)]) ++ [48 + (e.natAbs / 10)]) ++ [48 + (e.natAbs % 10)]).length : Nat) : Int)) v)) ((eF11.trans (congrArg (fun qq : Nat → Int => va_up (va_up (va_up (va_up F 107 (.inl (g 0, 260, .inl (aI tx47)))) 98 (oM ad (va_up f 18 (((((w ++ [lt]) ++ [(45 : Nat)]) ++ [48 + (e.natAbs / 10)]).length : Nat) : Int)) v)) 107 (.inl (g 0, 260, .inl (aI tx49)))) 98 (oM ad qq v)) (up_in0))).trans (Eq.trans (congrArg (fun q : Nat → va_E => va_up q 98 (oM ad (va_up f 18 ((((((w ++ [lt]) ++ [(45 : Nat)]) ++ [48 + (e.natAbs / 10)]) ++ [48 + (e.natAbs % 10)]).length : Nat) : Int)) v)) (up_in1 (by decide))) (up_in0))) ?_
      refine J_vret rfl d_M_sayExponent_53 ⟨by decide, by decide⟩ ?_
      have hxe : ((((w ++ [lt]) ++ [(45 : Nat)]) ++ [48 + (e.natAbs / 10)]) ++ [48 + (e.natAbs % 10)]) = w ++ expT e lt := by unfold expT; rw [if_pos (by omega)]; simp only [List.append_assoc]; rfl
      rw [← hxe]
      exact ⟨rfl, rfl, rfl, _, hmt50, rfl⟩
