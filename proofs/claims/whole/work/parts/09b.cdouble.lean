/-! doubles of the class -/
theorem c_high : (4845873199050653696 : UInt64) = fd false 9007199254740992 0 := by decide +kernel
theorem c_low : (4841369599423283200 : UInt64) = fd false 4503599627370496 0 := by decide +kernel
theorem c_two : (4611686018427387904 : UInt64) = fd false 1 1 := by decide +kernel
theorem c_half : (4602678819172646912 : UInt64) = fd false 1 (-1) := by decide +kernel
theorem c_b30 : (4742290407621132288 : UInt64) = fd false 1 30 := by decide +kernel
theorem c_lim : (5057542381537067008 : UInt64) = fd false 1 100 := by decide +kernel
theorem c_8th : (4593671619917905920 : UInt64) = fd false 1 (-3) := by decide +kernel
theorem c_d0 : Jvm.FP.dconst0 = fd false 0 0 := by decide +kernel
theorem c_d1 : Jvm.FP.dconst1 = fd false 1 0 := by decide +kernel
theorem fd_two {s : Bool} {m : Nat} {e : Int} (h : exD m e) : Jvm.FP.dmul (fd s m e) (fd false 1 1) = fd s m (e + 1) := by
  rw [fd_mul h ⟨by decide, by decide, by decide⟩, Nat.mul_one]; cases s <;> rfl
theorem fd_half {s : Bool} {m : Nat} {e : Int} (h : exD m e) : Jvm.FP.dmul (fd s m e) (fd false 1 (-1)) = fd s m (e - 1) := by
  rw [fd_mul h ⟨by decide, by decide, by decide⟩, Nat.mul_one]; cases s <;> rfl
/-- beside 0 -/
theorem fd_zero {m : Nat} {e : Int} (h : exD m e) : (m = 0 → Jvm.FP.dcmp (fd false m e) (fd false 0 0) = some .eq) ∧ (m ≠ 0 → Jvm.FP.dcmp (fd false m e) (fd false 0 0) = some .gt) := by
  obtain ⟨-, c2, c3⟩ := fd_cmp h (show exD 0 0 from ⟨by decide, by decide, by decide⟩) (k := min e 0) (by omega) (by omega)
  have p := Nat.two_pow_pos (e - min e 0).toNat
  constructor
  · rintro rfl; exact c2 (by rw [Nat.zero_mul, Nat.zero_mul])
  · intro h0; exact c3 (by rw [Nat.zero_mul]; exact Nat.mul_pos (by omega) p)
/-- a number below a power of 2, or not -/
theorem fd_pow {m : Nat} {e : Int} (h : exD m e) {n : Nat} {f : Int} (hn : exD n f) {k : Nat} (hk : n = 2 ^ k) : ∃ o, Jvm.FP.dcmp (fd false m e) (fd false n f) = some o ∧ (o = .lt ↔ m = 0 ∨ (blen m : Int) + e ≤ k + f) := by
  obtain ⟨c1, c2, c3⟩ := fd_cmp h hn (k := min e f) (by omega) (by omega)
  rw [hk, ← Nat.pow_add] at c1 c2 c3
  rw [hk]
  have hm : m * 2 ^ (e - min e f).toNat < 2 ^ (k + (f - min e f).toNat) ↔ m = 0 ∨ (blen m : Int) + e ≤ k + f := by
    by_cases z : m = 0
    · rw [z, Nat.zero_mul]
      exact ⟨fun _ => Or.inl rfl, fun _ => Nat.two_pow_pos _⟩
    · rw [← blen_le, blen_shl z]
      constructor
      · intro q; right; omega
      · rintro (q | q)
        · exact absurd q z
        · omega
  rcases Nat.lt_trichotomy (m * 2 ^ (e - min e f).toNat) (2 ^ (k + (f - min e f).toNat)) with q | q | q
  · exact ⟨.lt, c1 q, fun _ => hm.mp q, fun _ => rfl⟩
  · refine ⟨.eq, c2 q, fun w => absurd w (by decide), fun w => ?_⟩
    have := hm.mpr w; omega
  · refine ⟨.gt, c3 q, fun w => absurd w (by decide), fun w => ?_⟩
    have := hm.mpr w; omega
/-- a number of 53 bits in a row -/
def rep53 (x : Nat) : Prop := ∃ o t, x = o * 2 ^ t ∧ o ≤ 9007199254740992 ∧ t ≤ 300
theorem rep_div {x k : Nat} (h : rep53 x) : rep53 (x / 2 ^ k) := by
  obtain ⟨o, t, h1, h2, h3⟩ := h
  by_cases q : k ≤ t
  · refine ⟨o, t - k, ?_, h2, by omega⟩
    rw [h1, show t = (t - k) + k by omega, Nat.pow_add, ← Nat.mul_assoc, Nat.mul_div_cancel _ (Nat.two_pow_pos _), Nat.add_sub_cancel]
  · refine ⟨o / 2 ^ (k - t), 0, ?_, Nat.le_trans (Nat.div_le_self _ _) h2, by omega⟩
    rw [h1, show k = t + (k - t) by omega, Nat.pow_add, ← Nat.div_div_eq_div_mul, Nat.mul_div_cancel _ (Nat.two_pow_pos _), Nat.pow_zero, Nat.mul_one, Nat.add_sub_cancel_left]
theorem fd_rep {x o t : Nat} {s : Bool} {e : Int} (h : x = o * 2 ^ t) : fd s x e = fd s o (e + t) := fd_congr (by rw [h, show (e - (e + (t : Int))).toNat = 0 by omega, show (e + (t : Int) - e).toNat = t by omega, Nat.pow_zero, Nat.mul_one])
theorem td_step {x i : Nat} (h : rep53 x) : Jvm.FP.dmul (fd false (x / 2 ^ (30 * (i + 1))) 0) (fd false 1 30) = fd false (x / 2 ^ (30 * (i + 1)) * 1073741824) 0 ∧ Jvm.FP.dadd (fd false (x / 2 ^ (30 * (i + 1)) * 1073741824) 0) (fd false (dgt 30 x i) 0) = fd false (x / 2 ^ (30 * i)) 0 := by
  obtain ⟨o, t, h1, h2, h3⟩ := rep_div (k := 30 * (i + 1)) h
  have hd := dgt_b x i
  have e1 : x / 2 ^ (30 * (i + 1)) * 1073741824 = o * 2 ^ (t + 30) := by rw [h1, Nat.pow_add, Nat.mul_assoc]
  have e2 : x / 2 ^ (30 * i) = x / 2 ^ (30 * (i + 1)) * 1073741824 + dgt 30 x i := by
    rw [pw_succ, ← Nat.div_div_eq_div_mul]; unfold dgt
    have := Nat.div_add_mod (x / 2 ^ (30 * i)) (2 ^ 30)
    omega
  constructor
  · rw [fd_rep h1, fd_mul ⟨h2, by omega, by omega⟩ ⟨by decide, by decide, by decide⟩, fd_rep e1, Nat.mul_one, show (0 : Int) + t + 30 = 0 + ((t + 30 : Nat) : Int) by omega]; rfl
  · rw [fd_rep e1, fd_add ⟨h2, by omega, by omega⟩ ⟨by omega, by decide, by decide⟩ (by omega) (by decide), e2, e1, show ((0 : Int) + ((t + 30 : Nat) : Int)).toNat = t + 30 by omega, show (0 : Int).toNat = 0 from rfl, Nat.pow_zero, Nat.mul_one]
/-- the double of a real's parts -/
def rD (s : Int) (u d : Nat) : UInt64 := fd (decide (s < 0)) u (1 - (blen d : Int))
theorem blen_pw (k : Nat) : blen (2 ^ k) = k + 1 := by
  apply Nat.le_antisymm
  · exact blen_le.mpr (Nat.pow_lt_pow_right (by decide) (by omega))
  · apply Nat.lt_of_not_le
    intro q
    have := blen_le.mp q
    omega
set_option maxRecDepth 100000 in
set_option maxHeartbeats 4000000 in
theorem c_N_toDouble {l : Launch} (hfl : l.flags = flags0) {D : va_G} {g : Nat → ClassId} {ad : Nat → Nat} {N : Nat} {F0 : Nat → va_E} {W : Nat → Nat} {K S : Nat → Int} {k x : Nat}
    (hN : 109 ≤ N) (hW : bW W) (hk : isN k) (hx : W k = x) (hr : rep53 x) :
    JC l y_N_toDouble b_N_toDouble 4 (Option.some Jvm.ClassFile.FieldType.double) rm_N_toDouble (0, 0) D jCl (jTys g) ad N (cF ad g F0 W K S) [.ref (ad k)] (jd ad N (fun z F' => z = fd false x 0 ∧ F' = cF ad g F0 W K S)) := by
  have hk2 := (isN_1 hk).1
  have hx48 : x < 2 ^ 480 := hx ▸ hW k
  refine JC.go hfl (own := "NumberTower$Natural") (lv := [(0, .ref (ad k))]) rfl (by decide +kernel) (Nat.le_of_ble_eq_true rfl) rfl (fun A => ?_)
  refine J_dconst0 d_N_toDouble_0 ?_
  refine J_topd (y := (fd false (x / 2 ^ (30 * ((15 : Int) + 1).toNat)) 0)) (by rw [show x / 2 ^ (30 * ((15 : Int) + 1).toNat) = 0 from Nat.div_eq_of_lt hx48]; exact c_d0) ?_
  refine J_dstore_n (lv' := [(1, .double (fd false (x / 2 ^ (30 * ((15 : Int) + 1).toNat)) 0)), (0, .ref (ad k))]) d_N_toDouble_1 rfl (by decide) rfl ?_
  refine J_bipush d_N_toDouble_2 (i8_ok (by decide)) ?_
  refine J_istore_n (lv' := [(3, .int (iI 15)), (1, .double (fd false (x / 2 ^ (30 * ((15 : Int) + 1).toNat)) 0)), (0, .ref (ad k))]) d_N_toDouble_4 rfl (by decide) rfl ?_
  refine J_pick (lv' := [(0, .ref (ad k)), (1, .double (fd false (x / 2 ^ (30 * ((15 : Int) + 1).toNat)) 0)), (3, .int (iI 15))]) [2, 1, 0] rfl ?_
  have loop5 : ∀ (fuel : Nat) (i : Int) (hi : -1 ≤ i ∧ i ≤ 15) (hfu : (i + 1).toNat < fuel), J l rm_N_toDouble (0, 0) "NumberTower$Natural" b_N_toDouble 4 (Option.some Jvm.ClassFile.FieldType.double) D jCl (jTys g) A (fun _ me => me.name = y_N_toDouble.name) (jd ad N (fun z F' => z = fd false x 0 ∧ F' = cF ad g F0 W K S)) ad N 0 0 5 [(0, .ref (ad k)), (1, .double (fd false (x / 2 ^ (30 * (i + 1).toNat)) 0)), (3, .int (iI i))] [] (cF ad g F0 W K S) := by
    intro fuel
    induction fuel with
    | zero => intro i hi hfu; exact absurd hfu (Nat.not_lt_zero _)
    | succ fuel ih =>
      intro i hi hfu
      refine J_iload_n 2 d_N_toDouble_5 rfl rfl ?_
      refine J_iflt (tgt := 29) d_N_toDouble_6 (by decide) ⟨by omega, by omega⟩ (fun c6 => ?_) (fun c6 => ?_)
      · refine J_dload_n 1 d_N_toDouble_29 rfl rfl ?_
        refine J_dret rfl d_N_toDouble_30 ⟨by decide, by decide⟩ ?_
        exact ⟨_, rfl, rfl, rfl, by rw [show (i + 1).toNat = 0 by omega, Nat.mul_zero, Nat.pow_zero, Nat.div_one], rfl⟩
      · refine J_dload_n 1 d_N_toDouble_9 rfl rfl ?_
        refine J_ldc2d d_N_toDouble_10 wd_482 ?_
        have hi1 : (i + 1).toNat = i.toNat + 1 := by omega
        obtain ⟨hd1, hd2⟩ := td_step (i := i.toNat) hr
        rw [← hi1] at hd1 hd2
        have hdb := dgt_b x i.toNat
        have hdn := dg_nat x i.toNat
        refine J_topd (y := (fd false 1 30)) c_b30 ?_
        refine J_dmul (r := (fd false (x / 2 ^ (30 * (i + 1).toNat) * 1073741824) 0)) d_N_toDouble_13 hd1 (fd_n64 _ _ _) ?_
        refine J_aload_n 0 d_N_toDouble_14 rfl rfl ?_
        refine gf_N_9 (by omega) (cF_N hk hx) rfl d_N_toDouble_15 ?_
        refine J_iload_n 2 d_N_toDouble_18 rfl rfl ?_
        refine J_iaload 0 rfl (by omega) (cF_A (k := k) hk hx) (by omega) d_N_toDouble_19 ?_
        refine J_topi (r := (((dgt 30 x i.toNat : Nat)) : Int)) (congrArg iI rfl) ?_
        refine J_i2d d_N_toDouble_20 ?_
        refine J_topd (y := (fd false (dgt 30 x i.toNat) 0)) (by rw [show Jvm.FP.i2d (iI ((dgt 30 x i.toNat : Nat) : Int)) = _ from fd_i2d ⟨by omega, by omega⟩, decide_eq_false (by omega), Int.natAbs_natCast]) ?_
        refine J_dadd (r := (fd false (x / 2 ^ (30 * i.toNat)) 0)) d_N_toDouble_21 hd2 (fd_n64 _ _ _) ?_
        refine J_topd (y := (fd false (x / 2 ^ (30 * (i - 1 + 1).toNat)) 0)) (by rw [show (i - 1 + 1).toNat = i.toNat by omega]) ?_
        refine J_dstore_n (lv' := [(1, .double (fd false (x / 2 ^ (30 * (i - 1 + 1).toNat)) 0)), (0, .ref (ad k)), (3, .int (iI i))]) d_N_toDouble_22 rfl (by decide) rfl ?_
        refine J_iinc (j := 2) (b := i - 1) (lv' := [(3, .int (iI (i - 1))), (1, .double (fd false (x / 2 ^ (30 * (i - 1 + 1).toNat)) 0)), (0, .ref (ad k))]) d_N_toDouble_23 rfl (by omega) (by decide) rfl ?_
        refine J_goto (tgt := 5) d_N_toDouble_26 (by decide) ?_
        refine J_pick (lv' := [(0, .ref (ad k)), (1, .double (fd false (x / 2 ^ (30 * (i - 1 + 1).toNat)) 0)), (3, .int (iI (i - 1)))]) [2, 1, 0] rfl ?_
        exact ih (i - 1) (by omega) (by omega)
  exact loop5 ((((15 : Int) + 1).toNat) + 1) (15 : Int) (by omega) (Nat.lt_succ_self _)
set_option maxRecDepth 100000 in
set_option maxHeartbeats 4000000 in
theorem c_U_worth {l : Launch} (hfl : l.flags = flags0) {D : va_G} {g : Nat → ClassId} {ad : Nat → Nat} {N : Nat} {F0 : Nat → va_E} {W : Nat → Nat} {K S : Nat → Int} {k u d kk : Nat} {sg : Int}
    (hN : 109 ≤ N) (hW : bW W) (hk : isU k) (hu : W (k + 1) = u) (hd : W (k + 3) = d) (hs : S k = sg) (hsr : -1 ≤ sg ∧ sg ≤ 1) (hdk : d = 2 ^ kk) (hkk : kk ≤ 200) (hur : rep53 u) :
    JC l y_U_worth b_U_worth 5 (Option.some Jvm.ClassFile.FieldType.double) rm_U_worth (0, 0) D jCl (jTys g) ad N (cF ad g F0 W K S) [.ref (ad k)] (jd ad N (fun z F' => ((sg ≠ 0 ∧ z = rD sg u d) ∨ (sg = 0 ∧ z = fd false 0 0)) ∧ F' = cF ad g F0 W K S)) := by
  have hk4 := (isU_1 hk).1
  have hdr : rep53 d := ⟨1, kk, by rw [hdk, Nat.one_mul], by decide, by omega⟩
  obtain ⟨o, t, hu1, hu2, hu3⟩ := hur
  have hex1 : exD 1 (0 + (kk : Int)) := ⟨by decide, by omega, by omega⟩
  have hd1 : fd false d 0 = fd false 1 (0 + (kk : Int)) := fd_rep (by rw [hdk, Nat.one_mul])
  obtain ⟨oc, hc1, hc2⟩ := fd_pow hex1 (show exD 1 0 from ⟨by decide, by decide, by decide⟩) (k := 0) rfl
  have hc3 : ¬ oc = .lt := by
    rw [hc2]
    have : blen 1 = 1 := rfl
    omega
  have hc4 : 0 ≤ Op.cmpValue (Jvm.FP.dcmp (fd false d 0) (fd false 1 0)) .g := by
    rw [hd1, hc1]
    exact cv_lt.2.2.2.2.mpr hc3
  have hrd : rD sg u d = fd (decide (sg < 0)) o ((t : Int) - kk) := by
    unfold rD
    rw [hdk, blen_pw, fd_rep hu1]; congr 1; omega
  have hdv : Jvm.FP.ddiv (fd false u 0) (fd false d 0) = fd false o ((t : Int) - kk) := by
    rw [hd1, fd_rep hu1, fd_div ⟨hu2, by omega, by omega⟩ hex1 (by decide) (k := 0) rfl]
    show fd false o _ = _
    congr 1; omega
  refine JC.go hfl (own := "NumberTower$Num") (lv := [(0, .ref (ad k))]) rfl (by decide +kernel) (Nat.le_of_ble_eq_true rfl) rfl (fun A => ?_)
  refine J_aload_n 0 d_U_worth_0 rfl rfl ?_
  refine gf_U_22 (by omega) (cF_U hk rfl hs) rfl d_U_worth_1 ?_
  refine J_callVd cw_U_74 nh_N_toDouble pn_N_toDouble rfl rfl (by omega) (cF_N (isU_1 hk).2.2 hd) (As := []) (rest := []) rfl (Nat.le_of_ble_eq_true rfl) ⟨by decide, by decide⟩ rfl ⟨by decide, by decide⟩ d_U_worth_4 (c_N_toDouble hfl (F0 := F0) (W := W) (K := K) (S := S) (k := k + 3) (x := d) hN hW (isU_1 hk).2.2 (hd) hdr) (fun lz F1 hq => ?_)
  obtain ⟨hlz, eF1⟩ := hq
  refine J_eqF eF1 ?_
  refine J_topd (y := (fd false d 0)) hlz ?_
  refine J_dstore_n (lv' := [(1, .double (fd false d 0)), (0, .ref (ad k))]) d_U_worth_7 rfl (by decide) rfl ?_
  refine J_aload_n 1 d_U_worth_8 rfl rfl ?_
  refine gf_U_25 (by omega) (cF_U hk rfl hs) rfl d_U_worth_9 ?_
  refine J_ifeq (tgt := 21) d_U_worth_12 (by decide) ⟨by omega, by omega⟩ (fun c12 => ?_) (fun c12 => ?_)
  · refine J_dconst0 d_U_worth_21 ?_
    refine J_dret rfl d_U_worth_22 ⟨by decide, by decide⟩ ?_
    exact ⟨_, rfl, rfl, rfl, Or.inr ⟨by omega, c_d0⟩, rfl⟩
  · refine J_dload_n 0 d_U_worth_15 rfl rfl ?_
    refine J_dconst1 d_U_worth_16 ?_
    refine J_topd (y := (fd false 1 0)) c_d1 ?_
    refine J_dcmp d_U_worth_17 ?_
    refine J_rifge (tgt := 23) d_U_worth_18 (by decide) (fun c17 => ?_) (fun c17 => ?_)
    · refine J_aload_n 1 d_U_worth_23 rfl rfl ?_
      refine gf_U_18 (by omega) (cF_U hk rfl hs) rfl d_U_worth_24 ?_
      refine J_callVd cw_U_74 nh_N_toDouble pn_N_toDouble rfl rfl (by omega) (cF_N (isU_1 hk).2.1 hu) (As := []) (rest := []) rfl (Nat.le_of_ble_eq_true rfl) ⟨by decide, by decide⟩ rfl ⟨by decide, by decide⟩ d_U_worth_27 (c_N_toDouble hfl (F0 := F0) (W := W) (K := K) (S := S) (k := k + 1) (x := u) hN hW (isU_1 hk).2.1 (hu) ⟨o, t, hu1, hu2, hu3⟩) (fun uz F2 hq => ?_)
      obtain ⟨huz, eF2⟩ := hq
      refine J_eqF eF2 ?_
      refine J_topd (y := (fd false u 0)) huz ?_
      refine J_dload_n 0 d_U_worth_30 rfl rfl ?_
      refine J_ddiv (r := (fd false o ((t : Int) - kk))) d_U_worth_31 hdv (fd_n64 _ _ _) ?_
      refine J_dstore_n (lv' := [(3, .double (fd false o ((t : Int) - kk))), (1, .double (fd false d 0)), (0, .ref (ad k))]) d_U_worth_32 rfl (by decide) rfl ?_
      refine J_aload_n 2 d_U_worth_33 rfl rfl ?_
      refine gf_U_25 (by omega) (cF_U hk rfl hs) rfl d_U_worth_34 ?_
      refine J_ifge (tgt := 45) d_U_worth_37 (by decide) ⟨by omega, by omega⟩ (fun c37 => ?_) (fun c37 => ?_)
      · refine J_dload_n 0 d_U_worth_45 rfl rfl ?_
        refine J_dret rfl d_U_worth_46 ⟨by decide, by decide⟩ ?_
        exact ⟨_, rfl, rfl, rfl, Or.inl ⟨by omega, by rw [hrd]; first | rw [decide_eq_true (show sg < 0 by omega)] | rw [decide_eq_false (show ¬ sg < 0 by omega)]⟩, rfl⟩
      · refine J_dload_n 0 d_U_worth_40 rfl rfl ?_
        refine J_dneg d_U_worth_41 ?_
        refine J_topd (y := (fd true o ((t : Int) - kk))) fd_neg ?_
        refine J_goto (tgt := 46) d_U_worth_42 (by decide) ?_
        refine J_dret rfl d_U_worth_46 ⟨by decide, by decide⟩ ?_
        exact ⟨_, rfl, rfl, rfl, Or.inl ⟨by omega, by rw [hrd]; first | rw [decide_eq_true (show sg < 0 by omega)] | rw [decide_eq_false (show ¬ sg < 0 by omega)]⟩, rfl⟩
    · exact absurd hc4 c17
