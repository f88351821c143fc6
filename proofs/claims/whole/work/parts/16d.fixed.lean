/-! the class writes: fixed places and exponents -/

theorem isX_o {u d : Nat} (hu : 0 < u) (hd : 0 < d) (hb : u < 2 ^ 154 ∧ d < 2 ^ 154) : ∃ e, -60 ≤ e ∧ e < 60 ∧ isX u d e := isX_b hu hd (Nat.lt_trans hb.1 (by decide)) (Nat.lt_trans hb.2 (by decide))
theorem tz_sgr : ∀ k n q, k ≤ n → tz k (sgr (dgv 10 q) 0 3 0 0 n) = zr q k := by
  intro k
  induction k with
  | zero => intro n q h; rfl
  | succ k ih =>
    intro n q h
    obtain ⟨m, rfl⟩ : ∃ m, n = m + 1 := ⟨n - 1, by omega⟩
    have e1 : sgr (dgv 10 q) 0 3 0 0 (m + 1) = sgr (dgv 10 (q / 10)) 0 3 0 0 m ++ [chd 0 (dgv 10 q 0)] := by
      rw [sgr_last]
      congr 1
      have : ∀ j to, sgr (dgv 10 q) 0 3 0 (to + 1) j = sgr (dgv 10 (q / 10)) 0 3 0 to j := by
        intro j to
        induction j with
        | zero => rfl
        | succ j ihj => rw [sgr_n (by omega), sgr_n (by omega), ihj, show to + 1 + j = to + j + 1 by omega, dgv_s]
      exact this m 0
    have e2 : tat (sgr (dgv 10 q) 0 3 0 0 (m + 1)) (((sgr (dgv 10 q) 0 3 0 0 (m + 1)).length : Int) - 1) = ((48 + q % 10 : Nat) : Int) := by
      rw [sgr_1, show ((m + 1 : Nat) : Int) - 1 = (m : Int) by omega, tat_sgr (by omega), show 0 + (m + 1) - 1 - m = 0 by omega, chd_d, dgv_z]
    show (if tat _ _ = 48 then tz k (sgr (dgv 10 q) 0 3 0 0 (m + 1)).dropLast + 1 else 0) = (if q % 10 = 0 then zr (q / 10) k + 1 else 0)
    rw [e2]
    by_cases c : q % 10 = 0
    · rw [if_pos c, if_pos (by omega), e1, List.dropLast_concat, ih m (q / 10) (by omega)]
    · rw [if_neg c, if_neg (by omega)]
theorem zr_0 (q : Nat) : zr q 0 = 0 := rfl
def sciT (dv : Nat → Nat) (to n : Nat) (sh e : Int) (lt : Nat) : List Nat := [chd 0 (dv (to + n - 1))] ++ (if 1 < n ∨ sh ≠ 0 then [46] else []) ++ sgr dv 0 3 0 to (n - 1) ++ expT e lt
def exlt (ty : Nat) : Nat := if ty = 69 ∨ ty = 71 then 69 else 101
theorem sci_flo {q m : Nat} {sh e : Int} {lt : Nat} (hm : 1 ≤ m) : sciT (dgv 10 q) 0 m sh e lt = floT q m sh 0 e lt := by
  unfold sciT floT
  rw [if_neg (show ¬ (0 : Int) ≠ 0 from fun h => h rfl), Nat.zero_add, chd_d]
  have : (if 1 < m ∨ sh ≠ 0 then [46] else []) = dotT (m - 1) sh := by
    unfold dotT
    by_cases c : 1 < m ∨ sh ≠ 0
    · rw [if_pos c, if_pos (by omega)]
    · rw [if_neg c, if_neg (by omega)]
  rw [this]
  unfold fixB
  simp only [List.append_assoc]
theorem sci_cut {q m : Nat} {e : Int} {lt : Nat} (hm : 1 ≤ m) : sciT (dgv 10 q) (zr q (m - 1)) (m - zr q (m - 1)) 0 e lt = floT q m 0 1 e lt := by
  have hz := zr_le (m - 1) q
  unfold sciT floT
  rw [if_pos (show (1 : Int) ≠ 0 by decide), show zr q (m - 1) + (m - zr q (m - 1)) - 1 = m - 1 by omega, chd_d]
  unfold cutP
  by_cases c : zr q (m - 1) = m - 1
  · rw [if_pos c, if_neg (by omega), show m - zr q (m - 1) - 1 = 0 by omega]
    simp only [List.append_assoc, List.nil_append]
    rfl
  · rw [if_neg c, if_pos (by omega), show m - zr q (m - 1) - 1 = m - 1 - zr q (m - 1) by omega]
    simp only [List.append_assoc]
    rfl
theorem ndm_le1 {q m : Nat} (h : q < 10 ^ (m + 1)) : ndm 10 1 q ≤ m + 1 := ndm_b (by decide) h (by omega)
set_option maxRecDepth 100000 in
set_option maxHeartbeats 4000000 in
theorem c_P_setScientificDigits {l : Launch} (hfl : l.flags = flags0) {D : va_G} {g : Nat → ClassId} {ad : Nat → Nat} {N : Nat} {F0 : Nat → va_E} {W : Nat → Nat} {K S : Nat → Int} {ex : Int} {wD : List Nat} {hD : Nat → Int} {p u d pl : Nat} {sx : Int}
    (hN : 109 ≤ N) (hW : bW W) (hPn : F0 43 = oP ad ex) (hTD : F0 50 = oT ad 50 (wD.length : Int)) (hAD : F0 51 = aT g hD) (ttD : tx hD wD) (hlD : wD.length ≤ 200) (hp : isU p) (hp2 : 58 ≤ p) (hu : W (p + 1) = u) (hd : W (p + 3) = d) (hs : S p = sx) (hs1 : -1 ≤ sx ∧ sx ≤ 1) (hs0 : sx = 0 ↔ u = 0) (hb : u < 2 ^ 154 ∧ d < 2 ^ 154) (hd0 : 0 < d) (hpl : pl ≤ 20) :
    JC l y_P_setScientificDigits b_P_setScientificDigits 5 (Option.some Jvm.ClassFile.FieldType.int) rm_P_setScientificDigits (0, 0) D jCl (jTys g) ad N (cF ad g F0 W K S) [.ref (ad 43), .ref (ad p), .int (iI (pl : Int))] (ji ad N (fun z F' => z = flE u d (pl + 1) ∧ (-100 < z ∧ z < 100) ∧ ∃ (W' : Nat → Nat) (h' : Nat → Int), bW W' ∧ tx h' (sgr (dgv 10 (flQ u d (pl + 1))) 0 3 0 0 (pl + 1)) ∧ (∀ j, j ≠ 52 → j ≠ 54 → j ≠ 56 → W' j = W j) ∧ F' = cF ad g (va_up (va_up F0 51 (aT g h')) 50 (oT ad 50 ((sgr (dgv 10 (flQ u d (pl + 1))) 0 3 0 0 (pl + 1)).length : Int))) W' K S)) := by
  have hp4 := (isU_1 hp).1
  refine JC.go hfl (own := "NumberTower$Pen") (lv := [(0, .ref (ad 43)), (1, .ref (ad p)), (2, .int (iI (pl : Int)))]) rfl (by decide +kernel) (Nat.le_of_ble_eq_true rfl) rfl (fun A => ?_)
  refine J_aload_n 1 d_P_setScientificDigits_0 rfl rfl ?_
  refine gf_P_43 (by omega) (cF_U hp rfl hs) rfl d_P_setScientificDigits_1 ?_
  refine J_ifne (tgt := 28) d_P_setScientificDigits_4 (by decide) ⟨by omega, by omega⟩ (fun c4 => ?_) (fun c4 => ?_)
  · refine J_aload_n 1 d_P_setScientificDigits_28 rfl rfl ?_
    refine gf_P_67 (by omega) (cF_U hp rfl hs) rfl d_P_setScientificDigits_29 ?_
    refine J_callVi cw_P_120 nh_N_bits pn_N_bits rfl rfl (by omega) (cF_N (isU_1 hp).2.1 hu) (As := []) (rest := []) rfl (Nat.le_of_ble_eq_true rfl) ⟨by decide, by decide⟩ rfl ⟨by decide, by decide⟩ d_P_setScientificDigits_32 (n_bits hfl (F0 := F0) (W := W) (K := K) (S := S) (k := p + 1) (hN := by omega) (hW := hW) (hk := (isU_1 hp).2.1) (x := u) (hx := hu)) (fun z61 F1 hq => ?_)
    obtain ⟨hz61, eF1⟩ := hq
    refine J_eqF eF1 ?_
    refine J_topi (r := (((blen u : Nat)) : Int)) (congrArg iI hz61) ?_
    refine J_aload_n 1 d_P_setScientificDigits_35 rfl rfl ?_
    refine gf_P_74 (by omega) (cF_U hp rfl hs) rfl d_P_setScientificDigits_36 ?_
    refine J_callVi cw_P_120 nh_N_bits pn_N_bits rfl rfl (by omega) (cF_N (isU_1 hp).2.2 hd) (As := []) (rest := [.int (iI (((blen u : Nat)) : Int))]) rfl (Nat.le_of_ble_eq_true rfl) ⟨by decide, by decide⟩ rfl ⟨by decide, by decide⟩ d_P_setScientificDigits_39 (n_bits hfl (F0 := F0) (W := W) (K := K) (S := S) (k := p + 3) (hN := by omega) (hW := hW) (hk := (isU_1 hp).2.2) (x := d) (hx := hd)) (fun z62 F2 hq => ?_)
    obtain ⟨hz62, eF2⟩ := hq
    refine J_eqF eF2 ?_
    refine J_topi (r := (((blen d : Nat)) : Int)) (congrArg iI hz62) ?_
    refine J_isub d_P_setScientificDigits_42 ?_
    refine J_iconst d_P_setScientificDigits_43 ?_
    refine J_isub d_P_setScientificDigits_44 ?_
    refine J_topi (r := (((blen u : Nat)) : Int) - (((blen d : Nat)) : Int) - 1) (congrArg iI (by omega)) ?_
    have hu0 : 0 < u := by
      apply Nat.pos_of_ne_zero
      intro q
      exact c4 (hs0.mpr q)
    obtain ⟨E, hE1, hE2, hX⟩ := isX_o hu0 hd0 hb
    have hbl1 : blen u ≤ 154 := blen_le.mpr hb.1
    have hbl2 : blen d ≤ 154 := blen_le.mpr hb.2
    obtain ⟨B, hB⟩ : ∃ B : Int, B = (blen u : Int) - blen d - 1 := ⟨_, rfl⟩
    obtain ⟨hl1, hl2⟩ := leX_b hu0 hd0 hX hB (by omega)
    have hEe : expo u d = E := expo_eq hu0 hX
    refine J_topi (r := B) (congrArg iI hB.symm) ?_
    refine J_callSi cw_P_133 nh_P_leastExponent pn_P_leastExponent rfl (As := [.int (iI B)]) (rest := []) rfl (Nat.le_of_ble_eq_true rfl) ⟨by decide, by decide⟩ rfl ⟨by decide, by decide⟩ d_P_setScientificDigits_45 (c_P_leastExponent hfl (F0 := F0) (W := W) (K := K) (S := S) (a := B) hN hW ⟨by omega, by omega⟩) (fun le F3 hq => ?_)
    obtain ⟨hle, eF3⟩ := hq
    refine J_eqF eF3 ?_
    refine J_topi (r := (leX B)) (congrArg iI hle) ?_
    obtain ⟨e0, he0⟩ : ∃ e0, e0 = leX B := ⟨_, rfl⟩
    rw [← he0] at hl1 hl2
    refine J_topi (r := e0) (congrArg iI he0.symm) ?_
    refine J_istore_n (lv' := [(3, .int (iI e0)), (0, .ref (ad 43)), (1, .ref (ad p)), (2, .int (iI (pl : Int)))]) d_P_setScientificDigits_48 rfl (by decide) rfl ?_
    refine J_iconst d_P_setScientificDigits_49 ?_
    refine J_istore (lv' := [(4, .int (iI 0)), (3, .int (iI e0)), (0, .ref (ad 43)), (1, .ref (ad p)), (2, .int (iI (pl : Int)))]) d_P_setScientificDigits_50 (by decide) rfl ?_
    refine J_pick (lv' := [(0, .ref (ad 43)), (1, .ref (ad p)), (2, .int (iI (pl : Int))), (3, .int (iI e0)), (4, .int (iI 0))]) [2, 3, 4, 1, 0] rfl ?_
    refine J_eqF (F2 := cF ad g (va_up F0 51 (.inl (g 1, 200, .inl (aI hD)))) W K S) (congrArg (fun qq : Nat → va_E => cF ad g qq W K S) (up_same1 (i := 51) (a := ((.inl (g 1, 200, .inl (aI hD))) : va_E)) (hAD))) ?_
    refine J_eqF (F2 := cF ad g (va_up (va_up F0 51 (.inl (g 1, 200, .inl (aI hD)))) 50 (.inr (7, [.ref (ad 51), .int (iI ((wD.length : Nat) : Int))]))) W K S) (congrArg (fun qq : Nat → va_E => cF ad g qq W K S) (up_same1 (i := 50) (a := ((.inr (7, [.ref (ad 51), .int (iI ((wD.length : Nat) : Int))])) : va_E)) (by rw [va_up_ne _ _ (by decide)]; exact hTD))) ?_
    have loop52 : ∀ (fuel : Nat) (e : Int) (t : Nat) (W1 : Nat → Nat) (w5 : List Nat) (h5 : Nat → Int) (ht : t ≤ 4 ∧ e = e0 + t) (heE : e ≤ E ∨ (e = E + 1 ∧ ¬ rdq u d (((pl + 1 : Nat) : Int) - 1 - E) < 10 ^ (pl + 1))) (hW1 : bW W1) (hf1 : ∀ j, j ≠ 52 → j ≠ 54 → j ≠ 56 → W1 j = W j) (tt5 : tx h5 w5) (hl5 : w5.length ≤ 200) (hfu : 5 - t < fuel), J l rm_P_setScientificDigits (0, 0) "NumberTower$Pen" b_P_setScientificDigits 5 (Option.some Jvm.ClassFile.FieldType.int) D jCl (jTys g) A (fun _ me => me.name = y_P_setScientificDigits.name) (ji ad N (fun z F' => z = flE u d (pl + 1) ∧ (-100 < z ∧ z < 100) ∧ ∃ (W' : Nat → Nat) (h' : Nat → Int), bW W' ∧ tx h' (sgr (dgv 10 (flQ u d (pl + 1))) 0 3 0 0 (pl + 1)) ∧ (∀ j, j ≠ 52 → j ≠ 54 → j ≠ 56 → W' j = W j) ∧ F' = cF ad g (va_up (va_up F0 51 (aT g h')) 50 (oT ad 50 ((sgr (dgv 10 (flQ u d (pl + 1))) 0 3 0 0 (pl + 1)).length : Int))) W' K S)) ad N 0 0 52 [(0, .ref (ad 43)), (1, .ref (ad p)), (2, .int (iI (pl : Int))), (3, .int (iI e)), (4, .int (iI (t : Int)))] [] (cF ad g (va_up (va_up F0 51 (.inl (g 1, 200, .inl (aI h5)))) 50 (.inr (7, [.ref (ad 51), .int (iI ((w5.length : Nat) : Int))]))) W1 K S) := by
      intro fuel
      induction fuel with
      | zero => intro e t W1 w5 h5 ht heE hW1 hf1 tt5 hl5 hfu; exact absurd hfu (Nat.not_lt_zero _)
      | succ fuel ih =>
        intro e t W1 w5 h5 ht heE hW1 hf1 tt5 hl5 hfu
        have heb : e ≤ E + 1 := by omega
        replace heE : hold _ := heE
        refine J_iload 4 d_P_setScientificDigits_52 rfl ?_
        refine J_iconst d_P_setScientificDigits_54 ?_
        refine J_if_icmpge (tgt := 99) d_P_setScientificDigits_55 (by decide) ⟨by omega, by omega⟩ ⟨by omega, by omega⟩ (fun c55 => ?_) (fun c55 => ?_)
        · exact absurd (show e ≤ E + 1 from heb) (by omega)
        · refine J_aload_n 0 d_P_setScientificDigits_58 rfl rfl ?_
          refine J_aload_n 1 d_P_setScientificDigits_59 rfl rfl ?_
          refine J_iload_n 2 d_P_setScientificDigits_60 rfl rfl ?_
          refine J_iload_n 3 d_P_setScientificDigits_61 rfl rfl ?_
          refine J_isub d_P_setScientificDigits_62 ?_
          refine J_callVv cw_P_191 nh_P_roundScaled pn_P_roundScaled rfl rfl (by omega) ((cF_0 (by decide)).trans (by rw [va_up_ne _ _ (by decide), va_up_ne _ _ (by decide)]; exact hPn)) (As := [.ref (ad p), .int (iI ((pl : Int) - e))]) (rest := []) rfl (Nat.le_of_ble_eq_true rfl) ⟨by decide, by decide⟩ rfl ⟨by decide, by decide⟩ d_P_setScientificDigits_63 (c_P_roundScaled hfl (F0 := va_up (va_up F0 51 (.inl (g 1, 200, .inl (aI h5)))) 50 (.inr (7, [.ref (ad 51), .int (iI ((w5.length : Nat) : Int))]))) (W := W1) (K := K) (S := S) (ex := ex) (p := p) (u := u) (d := d) (n := (pl : Int) - e) hN hW1 (by rw [va_up_ne _ _ (by decide), va_up_ne _ _ (by decide)]; exact hPn) hp (by omega) ((((hf1 _ (by omega) (by omega) (by omega))).trans hu)) ((((hf1 _ (by omega) (by omega) (by omega))).trans hd)) hb hd0 ⟨by omega, by omega⟩) (fun  F68 hq => ?_)
          obtain ⟨W63, hW64, hq65, hf66, eF67⟩ := hq
          refine J_eqF (F2 := cF ad g (va_up (va_up F0 51 (.inl (g 1, 200, .inl (aI h5)))) 50 (.inr (7, [.ref (ad 51), .int (iI ((w5.length : Nat) : Int))]))) W63 K S) eF67 ?_
          refine J_aload_n 0 d_P_setScientificDigits_66 rfl rfl ?_
          refine J_bipush d_P_setScientificDigits_67 (i8_ok (by decide)) ?_
          refine J_bipush d_P_setScientificDigits_69 (i8_ok (by decide)) ?_
          refine J_iconst d_P_setScientificDigits_71 ?_
          obtain ⟨q, hq⟩ : ∃ q, q = rdq u d ((pl : Int) - e) := ⟨_, rfl⟩
          have hq150 : q < 10 ^ 150 := by rw [hq]; exact rdq_b (Nat.lt_trans hb.1 (by decide)) ⟨by omega, by omega⟩
          have hqn : ndm 10 1 q ≤ 150 := ndm_120 hq150 (by decide)
          refine J_callVv cw_P_84 nh_P_setDigits pn_P_setDigits rfl rfl (by omega) ((cF_0 (by decide)).trans (by rw [va_up_ne _ _ (by decide), va_up_ne _ _ (by decide)]; exact hPn)) (As := [.int (iI 10), .int (iI 97), .int (iI 1)]) (rest := []) rfl (Nat.le_of_ble_eq_true rfl) ⟨by decide, by decide⟩ rfl ⟨by decide, by decide⟩ d_P_setScientificDigits_72 (c_P_setDigits hfl (F0 := va_up (va_up F0 51 (.inl (g 1, 200, .inl (aI h5)))) 50 (.inr (7, [.ref (ad 51), .int (iI ((w5.length : Nat) : Int))]))) (W := W63) (K := K) (S := S) (ex := ex) (wD := w5) (hD := h5) (b := 10) (lst := 1) (v := q) (ten := 97) (cap := 0) hN hW64 (by rw [va_up_ne _ _ (by decide), va_up_ne _ _ (by decide)]; exact hPn) (by rw [va_up_self]) (by rw [va_up_ne _ _ (by decide), va_up_self]) tt5 hl5 ((hq65.trans hq.symm)) (by decide) (Or.inl ⟨rfl, rfl⟩) (by omega)) (fun  F73 hq => ?_)
          obtain ⟨hh69, htx70, hW71, eF72⟩ := hq
          refine J_eqF (F2 := cF ad g (va_up (va_up F0 51 (.inl (g 1, 200, .inl (aI hh69)))) 50 (.inr (7, [.ref (ad 51), .int (iI (((dgL 10 0 1 q).length : Nat) : Int))]))) (va_up W63 52 0) K S) (eF72.trans (congrArg (fun qq : Nat → va_E => cF ad g qq (va_up W63 52 0) K S) (Eq.trans (congrArg (fun qq : Nat → va_E => va_up qq 50 (.inr (7, [.ref (ad 51), .int (iI (((dgL 10 0 1 q).length : Nat) : Int))]))) (up_in1 (by decide))) (up_in0)))) ?_
          have hmq : q = rdq u d (((pl + 1 : Nat) : Int) - 1 - e) := by rw [hq]; congr 1; omega
          have hcnt : (dgL 10 0 1 q).length = ndm 10 1 q := dgL_l
          refine J_aload_n 0 d_P_setScientificDigits_75 rfl rfl ?_
          refine gf_P_24 (by omega) ((cF_0 (by decide)).trans (by rw [va_up_ne _ _ (by decide), va_up_ne _ _ (by decide)]; exact hPn)) rfl d_P_setScientificDigits_76 ?_
          refine gf_P_88 (by omega) ((cF_0 (by decide)).trans (by rw [va_up_self])) rfl d_P_setScientificDigits_79 ?_
          refine J_iload_n 2 d_P_setScientificDigits_82 rfl rfl ?_
          refine J_iconst d_P_setScientificDigits_83 ?_
          refine J_iadd d_P_setScientificDigits_84 ?_
          refine J_if_icmpgt (tgt := 90) d_P_setScientificDigits_85 (by decide) ⟨by omega, by omega⟩ ⟨by omega, by omega⟩ (fun c85 => ?_) (fun c85 => ?_)
          · refine J_iinc (j := 3) (b := e + 1) (lv' := [(3, .int (iI (e + 1))), (0, .ref (ad 43)), (1, .ref (ad p)), (2, .int (iI (pl : Int))), (4, .int (iI (t : Int)))]) d_P_setScientificDigits_90 rfl (by omega) (by decide) rfl ?_
            refine J_iinc (j := 4) (b := (t : Int) + 1) (lv' := [(4, .int (iI ((t : Int) + 1))), (3, .int (iI (e + 1))), (0, .ref (ad 43)), (1, .ref (ad p)), (2, .int (iI (pl : Int)))]) d_P_setScientificDigits_93 rfl (by omega) (by decide) rfl ?_
            refine J_goto (tgt := 52) d_P_setScientificDigits_96 (by decide) ?_
            refine J_pick (lv' := [(0, .ref (ad 43)), (1, .ref (ad p)), (2, .int (iI (pl : Int))), (3, .int (iI (e + 1))), (4, .int (iI ((t : Int) + 1)))]) [2, 3, 4, 1, 0] rfl ?_
            refine ih (e + 1) (t + 1) (va_up W63 52 0) (dgL 10 0 1 q) hh69 ?_ ?_ hW71 (fun j h1 h2 h3 => ((show (va_up W63 52 0) j = W63 j from by rw [va_up_ne _ _ (by assumption)]).trans ((hf66 j (by assumption) (by assumption) (by assumption)).trans ((show (W1) j = W1 j from by rfl).trans ((hf1 j (by assumption) (by assumption) (by assumption)).trans (show (W) j = W j from by rfl)))))) htx70 (by omega) (by omega)
            · exact ⟨by omega, by omega⟩
            · rcases (show _ ∨ _ from heE) with w | w
              · by_cases c : e = E
                · right
                  refine ⟨by omega, ?_⟩
                  rw [← c, ← hmq]
                  intro hlt
                  have := (ndm_le1 hlt)
                  omega
                · left; omega
              · exfalso
                have h9 := rdq_n hd0 hX (show 1 ≤ pl + 1 by omega) w.2
                rw [← w.1, ← hmq] at h9
                have h8 := ndg_eq (q := q) (m := pl + 1) (by omega) (by rw [h9]; exact Nat.le_refl _) (by rw [h9]; exact Nat.pow_lt_pow_right (by decide) (by omega))
                omega
          · have hfe : flE u d (pl + 1) = e ∧ flQ u d (pl + 1) = q := by
              rcases (show _ ∨ _ from heE) with w | w
              · by_cases c : e = E
                · have hlt : rdq u d (((pl + 1 : Nat) : Int) - 1 - E) < 10 ^ (pl + 1) := by
                    rw [← c, ← hmq]
                    apply Nat.lt_of_not_le
                    intro w2
                    have := ndm_big w2
                    omega
                  have := fl_a hu0 hEe hlt
                  rw [← c, ← hmq] at this
                  exact this
                · exfalso
                  have h9 := rdq_big (m := pl + 1) hu0 hd0 hX (show e < E by omega)
                  rw [← hmq] at h9
                  have := ndm_big h9
                  omega
              · have := fl_b hu0 hEe w.2
                rw [← w.1, ← hmq] at this
                exact this
            obtain ⟨hfe, hfq⟩ := hfe
            have hqb := flQ_b hu0 hd0 hX (show 1 ≤ pl + 1 by omega)
            rw [hfq] at hqb
            have hmn := ndg_eq (show 1 ≤ pl + 1 by omega) hqb.1 hqb.2
            have eT74 : (dgL 10 0 1 q) = sgr (dgv 10 (flQ u d (pl + 1))) 0 3 0 0 (pl + 1) := (by rw [hfq]; exact dgL_m hmn)
            have htx75 : tx hh69 (sgr (dgv 10 (flQ u d (pl + 1))) 0 3 0 0 (pl + 1)) := eT74 ▸ htx70
            refine J_eqF (F2 := cF ad g (va_up (va_up F0 51 (.inl (g 1, 200, .inl (aI hh69)))) 50 (.inr (7, [.ref (ad 51), .int (iI (((sgr (dgv 10 (flQ u d (pl + 1))) 0 3 0 0 (pl + 1)).length : Nat) : Int))]))) (va_up W63 52 0) K S) (congrArg (fun qq : List Nat => cF ad g (va_up (va_up F0 51 (.inl (g 1, 200, .inl (aI hh69)))) 50 (oT ad 50 ((qq.length : Nat) : Int))) (va_up W63 52 0) K S) eT74) ?_
            refine J_iload_n 3 d_P_setScientificDigits_88 rfl rfl ?_
            refine J_iret rfl rfl d_P_setScientificDigits_89 ⟨by decide, by decide⟩ ?_
            exact ⟨_, rfl, rfl, rfl, hfe.symm, ⟨by omega, by omega⟩, _, _, hW71, htx75, fun j h1 h2 h3 => ((show (va_up W63 52 0) j = W63 j from by rw [va_up_ne _ _ (by assumption)]).trans ((hf66 j (by assumption) (by assumption) (by assumption)).trans ((show (W1) j = W1 j from by rfl).trans ((hf1 j (by assumption) (by assumption) (by assumption)).trans (show (W) j = W j from by rfl))))), rfl⟩
    exact loop52 ((5 - 0) + 1) e0 0 W wD hD ⟨by omega, by omega⟩ (Or.inl hl1) hW (fun j _ _ _ => rfl) ttD hlD (Nat.lt_succ_self _)
  · refine J_aload_n 0 d_P_setScientificDigits_7 rfl rfl ?_
    refine gf_P_24 (by omega) ((cF_0 (by decide)).trans hPn) rfl d_P_setScientificDigits_8 ?_
    refine J_callVv cw_P_40 nh_T_clear pn_T_clear rfl rfl (by omega) ((cF_0 (by decide)).trans hTD) (As := []) (rest := []) rfl (Nat.le_of_ble_eq_true rfl) ⟨by decide, by decide⟩ rfl ⟨by decide, by decide⟩ d_P_setScientificDigits_11 (c_T_clearN hfl (k := 50) (w := wD) (hh := hD) (by omega) ((cF_0 (by decide)).trans hTD) ((cF_0 (by decide)).trans hAD) ttD hlD) (fun  F4 hq => ?_)
    have eF4 := hq
    refine J_eqF (F2 := cF ad g (va_up F0 50 (.inr (7, [.ref (ad 51), .int (iI ((([] : List Nat).length : Nat) : Int))]))) W K S) (eF4.trans (cF_up0 (by decide))) ?_
    refine J_aload_n 0 d_P_setScientificDigits_14 rfl rfl ?_
    refine gf_P_24 (by omega) ((cF_0 (by decide)).trans (by rw [va_up_ne _ _ (by decide)]; exact hPn)) rfl d_P_setScientificDigits_15 ?_
    refine J_bipush d_P_setScientificDigits_18 (i8_ok (by decide)) ?_
    refine J_iload_n 2 d_P_setScientificDigits_20 rfl rfl ?_
    refine J_iconst d_P_setScientificDigits_21 ?_
    refine J_iadd d_P_setScientificDigits_22 ?_
    refine J_callVv cw_P_111 nh_T_putMany pn_T_putMany rfl rfl (by omega) ((cF_0 (by decide)).trans (by rw [va_up_self])) (As := [.int (iI 48), .int (iI ((pl : Int) + 1))]) (rest := []) rfl (Nat.le_of_ble_eq_true rfl) ⟨by decide, by decide⟩ rfl ⟨by decide, by decide⟩ d_P_setScientificDigits_23 (c_T_putManyN hfl (k := 50) (w := ([] : List Nat)) (hh := hD) (c := (48 : Nat)) (n := pl + 1) (by omega) ((cF_0 (by decide)).trans (by rw [va_up_self])) ((cF_0 (by decide)).trans (by rw [va_up_ne _ _ (by decide)]; exact hAD)) (tx_nil hD) (by decide) (by omega) (by simp only [List.length_nil]; omega)) (fun  F5 hq => ?_)
    obtain ⟨hh76, htx77, eF5⟩ := hq
    refine J_eqF (F2 := cF ad g (va_up (va_up F0 50 (.inr (7, [.ref (ad 51), .int (iI (((([] : List Nat) ++ List.replicate (pl + 1) (48 : Nat)).length : Nat) : Int))]))) 51 (.inl (g 1, 200, .inl (aI hh76)))) W K S) (eF5.trans (Eq.trans (congrArg (fun qF : Nat → va_E => va_up qF 50 (.inr (7, [.ref (ad 51), .int (iI (((([] : List Nat) ++ List.replicate (pl + 1) (48 : Nat)).length : Nat) : Int))]))) (cF_up0 (by decide))) ((cF_up0 (by decide)).trans (congrArg (fun qq => cF ad g qq W K S) (up_in1 (by decide)))))) ?_
    refine J_iconst d_P_setScientificDigits_26 ?_
    refine J_eqF (F2 := cF ad g (va_up (va_up F0 51 (.inl (g 1, 200, .inl (aI hh76)))) 50 (.inr (7, [.ref (ad 51), .int (iI (((([] : List Nat) ++ List.replicate (pl + 1) (48 : Nat)).length : Nat) : Int))]))) W K S) (congrArg (fun qq : Nat → va_E => cF ad g qq W K S) (up_cm (by decide))) ?_
    refine J_iret rfl rfl d_P_setScientificDigits_27 ⟨by decide, by decide⟩ ?_
    have hu00 : u = 0 := hs0.mp (by omega)
    subst hu00
    exact ⟨_, rfl, rfl, rfl, fl_0.1.symm, by decide, W, _, hW, by rw [fl_0.2, ← rep_0]; exact htx77, fun j _ _ _ => rfl, by rw [fl_0.2, ← rep_0]; rfl⟩
set_option maxRecDepth 100000 in
set_option maxHeartbeats 4000000 in
theorem c_P_putFixed {l : Launch} (hfl : l.flags = flags0) {D : va_G} {g : Nat → ClassId} {ad : Nat → Nat} {N : Nat} {F0 : Nat → va_E} {W : Nat → Nat} {K S : Nat → Int} {ex : Int} {wB : List Nat} {hB : Nat → Int} {wD : List Nat} {hD : Nat → Int} {fi al sg ty pa : Nat} {x1 sh ze wi pr : Int} {dv : Nat → Nat} {to c m : Nat}
    (hN : 109 ≤ N) (hW : bW W) (hPn : F0 43 = oP ad ex) (hTB : F0 48 = oT ad 48 (wB.length : Int)) (hAB : F0 49 = aT g hB) (ttB : tx hB wB) (hlB : wB.length ≤ 200) (hTD : F0 50 = oT ad 50 (wD.length : Int)) (hAD : F0 51 = aT g hD) (ttD : tx hD wD) (hlD : wD.length ≤ 200) (hSp : F0 42 = oS ad x1 (fi : Int) (al : Int) (sg : Int) sh ze wi (pa : Int) pr (ty : Int)) (hshb : sh = 0 ∨ sh = 1) (hpab : pa < 128) (htyb : ty < 128) (hwd : wD = sgr dv 0 3 0 to c) (hdv : ∀ k, dv k < 16) (hmc : m ≤ c) (hc : c ≤ 100) (hln : wB.length + 2 * (c - m) + 1 + m ≤ 190) :
    JC l y_P_putFixed b_P_putFixed 4 (Option.none : Option Jvm.ClassFile.FieldType) rm_P_putFixed (0, 0) D jCl (jTys g) ad N (cF ad g F0 W K S) [.ref (ad 43), .int (iI (m : Int)), .ref (ad 42)] (jv ad N (fun F' => ∃ h0 : Nat → Int, tx h0 (wB ++ (sgr dv 0 3 pa (to + m) (c - m) ++ dotT m sh ++ sgr dv 0 3 0 to m)) ∧ F' = cF ad g (va_up (va_up F0 49 (aT g h0)) 48 (oT ad 48 ((wB ++ (sgr dv 0 3 pa (to + m) (c - m) ++ dotT m sh ++ sgr dv 0 3 0 to m)).length : Int))) W K S)) := by
  have hdl : wD.length = c := by rw [hwd]; exact sgr_1 c
  have hgl := (sgr_l (dv := dv) (cap := 0) (grp := 3) (pt := pa) (to := to + c - (c - m)) (c - m)).1
  have hgl2 := sgr_1 (dv := dv) (cap := 0) (grp := 3) (to := to) m
  refine JC.go hfl (own := "NumberTower$Pen") (lv := [(0, .ref (ad 43)), (1, .int (iI (m : Int))), (2, .ref (ad 42))]) rfl (by decide +kernel) (Nat.le_of_ble_eq_true rfl) rfl (fun A => ?_)
  refine J_aload_n 0 d_P_putFixed_0 rfl rfl ?_
  refine gf_P_24 (by omega) ((cF_0 (by decide)).trans hPn) rfl d_P_putFixed_1 ?_
  refine gf_P_88 (by omega) ((cF_0 (by decide)).trans hTD) rfl d_P_putFixed_4 ?_
  refine J_iload_n 1 d_P_putFixed_7 rfl rfl ?_
  refine J_isub d_P_putFixed_8 ?_
  refine J_topi (r := ((c - m : Nat) : Int)) (congrArg iI (by rw [hdl]; omega)) ?_
  refine J_istore_n (lv' := [(3, .int (iI ((c - m : Nat) : Int))), (0, .ref (ad 43)), (1, .int (iI (m : Int))), (2, .ref (ad 42))]) d_P_putFixed_9 rfl (by decide) rfl ?_
  refine J_aload_n 1 d_P_putFixed_10 rfl rfl ?_
  refine J_iload_n 0 d_P_putFixed_11 rfl rfl ?_
  refine J_iconst d_P_putFixed_12 ?_
  refine J_aload_n 3 d_P_putFixed_13 rfl rfl ?_
  refine gf_P_221 (by omega) ((cF_0 (by decide)).trans hSp) rfl d_P_putFixed_14 ?_
  refine J_callVv cw_P_224 nh_P_putGroups pn_P_putGroups rfl rfl (by omega) ((cF_0 (by decide)).trans hPn) (As := [.int (iI ((c - m : Nat) : Int)), .int (iI 3), .int (iI (pa : Int))]) (rest := []) rfl (Nat.le_of_ble_eq_true rfl) ⟨by decide, by decide⟩ rfl ⟨by decide, by decide⟩ d_P_putFixed_17 (c_P_putGroups hfl (F0 := F0) (W := W) (K := K) (S := S) (ex := ex) (wB := wB) (hB := hB) (wD := wD) (hD := hD) (dv := dv) (cap := 0) (to := to) (n := c) (cnt := (c - m)) (size := 3) (pt := pa) hN hW (hPn) (hTB) (hAB) ttB hlB (hTD) (hAD) ttD hlD hwd hdv (by omega) (Or.inl rfl) (by omega) (by omega) (by omega)) (fun  F81 hq => ?_)
  obtain ⟨hh78, htx79, eF80⟩ := hq
  refine J_eqF (F2 := cF ad g (va_up (va_up F0 49 (.inl (g 1, 200, .inl (aI hh78)))) 48 (.inr (7, [.ref (ad 49), .int (iI (((wB ++ sgr dv 0 3 pa (to + c - (c - m)) (c - m)).length : Nat) : Int))]))) W K S) eF80 ?_
  refine J_iload_n 2 d_P_putFixed_20 rfl rfl ?_
  refine J_ifgt (tgt := 31) d_P_putFixed_21 (by decide) ⟨by omega, by omega⟩ (fun c21 => ?_) (fun c21 => ?_)
  · refine J_aload_n 1 d_P_putFixed_31 rfl rfl ?_
    refine gf_P_21 (by omega) ((cF_0 (by decide)).trans (by rw [va_up_ne _ _ (by decide), va_up_ne _ _ (by decide)]; exact hPn)) rfl d_P_putFixed_32 ?_
    refine J_bipush d_P_putFixed_35 (i8_ok (by decide)) ?_
    refine J_callVv cw_P_49 nh_T_put pn_T_put rfl rfl (by omega) ((cF_0 (by decide)).trans (by rw [va_up_self])) (As := [.int (iI 46)]) (rest := []) rfl (Nat.le_of_ble_eq_true rfl) ⟨by decide, by decide⟩ rfl ⟨by decide, by decide⟩ d_P_putFixed_37 (c_T_putN hfl (k := 48) (w := (wB ++ sgr dv 0 3 pa (to + c - (c - m)) (c - m))) (hh := hh78) (c := (46 : Nat)) (by omega) ((cF_0 (by decide)).trans (by rw [va_up_self])) ((cF_0 (by decide)).trans (by rw [va_up_ne _ _ (by decide), va_up_self])) htx79 (by simp only [List.length_append, List.length_cons, List.length_nil, List.length_replicate]; omega) (by omega)) (fun  F1 hq => ?_)
    obtain ⟨hh82, htx83, eF1⟩ := hq
    refine J_eqF (F2 := cF ad g (va_up (va_up F0 49 (.inl (g 1, 200, .inl (aI hh82)))) 48 (.inr (7, [.ref (ad 49), .int (iI ((((wB ++ sgr dv 0 3 pa (to + c - (c - m)) (c - m)) ++ [(46 : Nat)]).length : Nat) : Int))]))) W K S) (eF1.trans (Eq.trans (congrArg (fun qF : Nat → va_E => va_up qF 48 (.inr (7, [.ref (ad 49), .int (iI ((((wB ++ sgr dv 0 3 pa (to + c - (c - m)) (c - m)) ++ [(46 : Nat)]).length : Nat) : Int))]))) ((cF_up0 (by decide)).trans (congrArg (fun qq => cF ad g qq W K S) (up_in1 (by decide))))) ((cF_up0 (by decide)).trans (congrArg (fun qq => cF ad g qq W K S) (up_in0))))) ?_
    refine J_aload_n 1 d_P_putFixed_40 rfl rfl ?_
    refine gf_P_21 (by omega) ((cF_0 (by decide)).trans (by rw [va_up_ne _ _ (by decide), va_up_ne _ _ (by decide)]; exact hPn)) rfl d_P_putFixed_41 ?_
    refine J_aload_n 1 d_P_putFixed_44 rfl rfl ?_
    refine gf_P_24 (by omega) ((cF_0 (by decide)).trans (by rw [va_up_ne _ _ (by decide), va_up_ne _ _ (by decide)]; exact hPn)) rfl d_P_putFixed_45 ?_
    refine J_iload_n 0 d_P_putFixed_48 rfl rfl ?_
    refine J_aload_n 1 d_P_putFixed_49 rfl rfl ?_
    refine gf_P_24 (by omega) ((cF_0 (by decide)).trans (by rw [va_up_ne _ _ (by decide), va_up_ne _ _ (by decide)]; exact hPn)) rfl d_P_putFixed_50 ?_
    refine gf_P_88 (by omega) ((cF_0 (by decide)).trans (by rw [va_up_ne _ _ (by decide), va_up_ne _ _ (by decide)]; exact hTD)) rfl d_P_putFixed_53 ?_
    refine J_callVv cw_P_91 nh_T_putFrom pn_T_putFrom rfl rfl (by omega) ((cF_0 (by decide)).trans (by rw [va_up_self])) (As := [.ref (ad 50), .int (iI ((c - m : Nat) : Int)), .int (iI ((wD.length : Nat) : Int))]) (rest := []) rfl (Nat.le_of_ble_eq_true rfl) ⟨by decide, by decide⟩ rfl ⟨by decide, by decide⟩ d_P_putFixed_56 (c_T_putFromN hfl (k := 48) (m := 50) (w := ((wB ++ sgr dv 0 3 pa (to + c - (c - m)) (c - m)) ++ [(46 : Nat)])) (v := wD) (u := sgr dv 0 3 0 to m) (hh := hh82) (yh := hD) (p := c - m) (q := wD.length) (by omega) ((cF_0 (by decide)).trans (by rw [va_up_self])) ((cF_0 (by decide)).trans (by rw [va_up_ne _ _ (by decide), va_up_self])) htx83 (by simp only [List.length_append, List.length_cons, List.length_nil, List.length_replicate]; omega) (by omega) ((cF_0 (by decide)).trans (by rw [va_up_ne _ _ (by decide), va_up_ne _ _ (by decide)]; exact hTD)) ((cF_0 (by decide)).trans (by rw [va_up_ne _ _ (by decide), va_up_ne _ _ (by decide)]; exact hAD)) ttD hlD (by omega) (by omega) (by omega) (by rw [take_len, hwd]; exact sgr_drop (by omega)) (by simp only [List.length_append, List.length_cons, List.length_nil, List.length_replicate]; omega)) (fun  F2 hq => ?_)
    obtain ⟨hh84, htx85, eF2⟩ := hq
    refine J_eqF (F2 := cF ad g (va_up (va_up F0 49 (.inl (g 1, 200, .inl (aI hh84)))) 48 (.inr (7, [.ref (ad 49), .int (iI (((((wB ++ sgr dv 0 3 pa (to + c - (c - m)) (c - m)) ++ [(46 : Nat)]) ++ sgr dv 0 3 0 to m).length : Nat) : Int))]))) W K S) (eF2.trans (Eq.trans (congrArg (fun qF : Nat → va_E => va_up qF 48 (.inr (7, [.ref (ad 49), .int (iI (((((wB ++ sgr dv 0 3 pa (to + c - (c - m)) (c - m)) ++ [(46 : Nat)]) ++ sgr dv 0 3 0 to m).length : Nat) : Int))]))) ((cF_up0 (by decide)).trans (congrArg (fun qq => cF ad g qq W K S) (up_in1 (by decide))))) ((cF_up0 (by decide)).trans (congrArg (fun qq => cF ad g qq W K S) (up_in0))))) ?_
    have eT86 : (((wB ++ sgr dv 0 3 pa (to + c - (c - m)) (c - m)) ++ [(46 : Nat)]) ++ sgr dv 0 3 0 to m) = wB ++ (sgr dv 0 3 pa (to + m) (c - m) ++ dotT m sh ++ sgr dv 0 3 0 to m) := (by rw [show to + c - (c - m) = to + m by omega, dotT_y (by omega)]; simp only [List.append_assoc])
    have htx87 : tx hh84 (wB ++ (sgr dv 0 3 pa (to + m) (c - m) ++ dotT m sh ++ sgr dv 0 3 0 to m)) := eT86 ▸ htx85
    refine J_eqF (F2 := cF ad g (va_up (va_up F0 49 (.inl (g 1, 200, .inl (aI hh84)))) 48 (.inr (7, [.ref (ad 49), .int (iI (((wB ++ (sgr dv 0 3 pa (to + m) (c - m) ++ dotT m sh ++ sgr dv 0 3 0 to m)).length : Nat) : Int))]))) W K S) (congrArg (fun qq : List Nat => cF ad g (va_up (va_up F0 49 (.inl (g 1, 200, .inl (aI hh84)))) 48 (oT ad 48 ((qq.length : Nat) : Int))) W K S) eT86) ?_
    refine J_vret rfl d_P_putFixed_59 ⟨by decide, by decide⟩ ?_
    exact ⟨rfl, rfl, rfl, _, htx87, rfl⟩
  · refine J_aload_n 3 d_P_putFixed_24 rfl rfl ?_
    refine gf_P_227 (by omega) ((cF_0 (by decide)).trans (by rw [va_up_ne _ _ (by decide), va_up_ne _ _ (by decide)]; exact hSp)) rfl d_P_putFixed_25 ?_
    refine J_ifeq (tgt := 40) d_P_putFixed_28 (by decide) ⟨by omega, by omega⟩ (fun c28 => ?_) (fun c28 => ?_)
    · refine J_aload_n 1 d_P_putFixed_40 rfl rfl ?_
      refine gf_P_21 (by omega) ((cF_0 (by decide)).trans (by rw [va_up_ne _ _ (by decide), va_up_ne _ _ (by decide)]; exact hPn)) rfl d_P_putFixed_41 ?_
      refine J_aload_n 1 d_P_putFixed_44 rfl rfl ?_
      refine gf_P_24 (by omega) ((cF_0 (by decide)).trans (by rw [va_up_ne _ _ (by decide), va_up_ne _ _ (by decide)]; exact hPn)) rfl d_P_putFixed_45 ?_
      refine J_iload_n 0 d_P_putFixed_48 rfl rfl ?_
      refine J_aload_n 1 d_P_putFixed_49 rfl rfl ?_
      refine gf_P_24 (by omega) ((cF_0 (by decide)).trans (by rw [va_up_ne _ _ (by decide), va_up_ne _ _ (by decide)]; exact hPn)) rfl d_P_putFixed_50 ?_
      refine gf_P_88 (by omega) ((cF_0 (by decide)).trans (by rw [va_up_ne _ _ (by decide), va_up_ne _ _ (by decide)]; exact hTD)) rfl d_P_putFixed_53 ?_
      refine J_callVv cw_P_91 nh_T_putFrom pn_T_putFrom rfl rfl (by omega) ((cF_0 (by decide)).trans (by rw [va_up_self])) (As := [.ref (ad 50), .int (iI ((c - m : Nat) : Int)), .int (iI ((wD.length : Nat) : Int))]) (rest := []) rfl (Nat.le_of_ble_eq_true rfl) ⟨by decide, by decide⟩ rfl ⟨by decide, by decide⟩ d_P_putFixed_56 (c_T_putFromN hfl (k := 48) (m := 50) (w := (wB ++ sgr dv 0 3 pa (to + c - (c - m)) (c - m))) (v := wD) (u := sgr dv 0 3 0 to m) (hh := hh78) (yh := hD) (p := c - m) (q := wD.length) (by omega) ((cF_0 (by decide)).trans (by rw [va_up_self])) ((cF_0 (by decide)).trans (by rw [va_up_ne _ _ (by decide), va_up_self])) htx79 (by simp only [List.length_append, List.length_cons, List.length_nil, List.length_replicate]; omega) (by omega) ((cF_0 (by decide)).trans (by rw [va_up_ne _ _ (by decide), va_up_ne _ _ (by decide)]; exact hTD)) ((cF_0 (by decide)).trans (by rw [va_up_ne _ _ (by decide), va_up_ne _ _ (by decide)]; exact hAD)) ttD hlD (by omega) (by omega) (by omega) (by rw [take_len, hwd]; exact sgr_drop (by omega)) (by simp only [List.length_append, List.length_cons, List.length_nil, List.length_replicate]; omega)) (fun  F3 hq => ?_)
      obtain ⟨hh88, htx89, eF3⟩ := hq
      refine J_eqF (F2 := cF ad g (va_up (va_up F0 49 (.inl (g 1, 200, .inl (aI hh88)))) 48 (.inr (7, [.ref (ad 49), .int (iI ((((wB ++ sgr dv 0 3 pa (to + c - (c - m)) (c - m)) ++ sgr dv 0 3 0 to m).length : Nat) : Int))]))) W K S) (eF3.trans (Eq.trans (congrArg (fun qF : Nat → va_E => va_up qF 48 (.inr (7, [.ref (ad 49), .int (iI ((((wB ++ sgr dv 0 3 pa (to + c - (c - m)) (c - m)) ++ sgr dv 0 3 0 to m).length : Nat) : Int))]))) ((cF_up0 (by decide)).trans (congrArg (fun qq => cF ad g qq W K S) (up_in1 (by decide))))) ((cF_up0 (by decide)).trans (congrArg (fun qq => cF ad g qq W K S) (up_in0))))) ?_
      have eT90 : ((wB ++ sgr dv 0 3 pa (to + c - (c - m)) (c - m)) ++ sgr dv 0 3 0 to m) = wB ++ (sgr dv 0 3 pa (to + m) (c - m) ++ dotT m sh ++ sgr dv 0 3 0 to m) := (by rw [show to + c - (c - m) = to + m by omega, dotT_n (by omega)]; simp only [List.append_assoc, List.nil_append])
      have htx91 : tx hh88 (wB ++ (sgr dv 0 3 pa (to + m) (c - m) ++ dotT m sh ++ sgr dv 0 3 0 to m)) := eT90 ▸ htx89
      refine J_eqF (F2 := cF ad g (va_up (va_up F0 49 (.inl (g 1, 200, .inl (aI hh88)))) 48 (.inr (7, [.ref (ad 49), .int (iI (((wB ++ (sgr dv 0 3 pa (to + m) (c - m) ++ dotT m sh ++ sgr dv 0 3 0 to m)).length : Nat) : Int))]))) W K S) (congrArg (fun qq : List Nat => cF ad g (va_up (va_up F0 49 (.inl (g 1, 200, .inl (aI hh88)))) 48 (oT ad 48 ((qq.length : Nat) : Int))) W K S) eT90) ?_
      refine J_vret rfl d_P_putFixed_59 ⟨by decide, by decide⟩ ?_
      exact ⟨rfl, rfl, rfl, _, htx91, rfl⟩
    · refine J_aload_n 1 d_P_putFixed_31 rfl rfl ?_
      refine gf_P_21 (by omega) ((cF_0 (by decide)).trans (by rw [va_up_ne _ _ (by decide), va_up_ne _ _ (by decide)]; exact hPn)) rfl d_P_putFixed_32 ?_
      refine J_bipush d_P_putFixed_35 (i8_ok (by decide)) ?_
      refine J_callVv cw_P_49 nh_T_put pn_T_put rfl rfl (by omega) ((cF_0 (by decide)).trans (by rw [va_up_self])) (As := [.int (iI 46)]) (rest := []) rfl (Nat.le_of_ble_eq_true rfl) ⟨by decide, by decide⟩ rfl ⟨by decide, by decide⟩ d_P_putFixed_37 (c_T_putN hfl (k := 48) (w := (wB ++ sgr dv 0 3 pa (to + c - (c - m)) (c - m))) (hh := hh78) (c := (46 : Nat)) (by omega) ((cF_0 (by decide)).trans (by rw [va_up_self])) ((cF_0 (by decide)).trans (by rw [va_up_ne _ _ (by decide), va_up_self])) htx79 (by simp only [List.length_append, List.length_cons, List.length_nil, List.length_replicate]; omega) (by omega)) (fun  F4 hq => ?_)
      obtain ⟨hh92, htx93, eF4⟩ := hq
      refine J_eqF (F2 := cF ad g (va_up (va_up F0 49 (.inl (g 1, 200, .inl (aI hh92)))) 48 (.inr (7, [.ref (ad 49), .int (iI ((((wB ++ sgr dv 0 3 pa (to + c - (c - m)) (c - m)) ++ [(46 : Nat)]).length : Nat) : Int))]))) W K S) (eF4.trans (Eq.trans (congrArg (fun qF : Nat → va_E => va_up qF 48 (.inr (7, [.ref (ad 49), .int (iI ((((wB ++ sgr dv 0 3 pa (to + c - (c - m)) (c - m)) ++ [(46 : Nat)]).length : Nat) : Int))]))) ((cF_up0 (by decide)).trans (congrArg (fun qq => cF ad g qq W K S) (up_in1 (by decide))))) ((cF_up0 (by decide)).trans (congrArg (fun qq => cF ad g qq W K S) (up_in0))))) ?_
      refine J_aload_n 1 d_P_putFixed_40 rfl rfl ?_
      refine gf_P_21 (by omega) ((cF_0 (by decide)).trans (by rw [va_up_ne _ _ (by decide), va_up_ne _ _ (by decide)]; exact hPn)) rfl d_P_putFixed_41 ?_
      refine J_aload_n 1 d_P_putFixed_44 rfl rfl ?_
      refine gf_P_24 (by omega) ((cF_0 (by decide)).trans (by rw [va_up_ne _ _ (by decide), va_up_ne _ _ (by decide)]; exact hPn)) rfl d_P_putFixed_45 ?_
      refine J_iload_n 0 d_P_putFixed_48 rfl rfl ?_
      refine J_aload_n 1 d_P_putFixed_49 rfl rfl ?_
      refine gf_P_24 (by omega) ((cF_0 (by decide)).trans (by rw [va_up_ne _ _ (by decide), va_up_ne _ _ (by decide)]; exact hPn)) rfl d_P_putFixed_50 ?_
      refine gf_P_88 (by omega) ((cF_0 (by decide)).trans (by rw [va_up_ne _ _ (by decide), va_up_ne _ _ (by decide)]; exact hTD)) rfl d_P_putFixed_53 ?_
      refine J_callVv cw_P_91 nh_T_putFrom pn_T_putFrom rfl rfl (by omega) ((cF_0 (by decide)).trans (by rw [va_up_self])) (As := [.ref (ad 50), .int (iI ((c - m : Nat) : Int)), .int (iI ((wD.length : Nat) : Int))]) (rest := []) rfl (Nat.le_of_ble_eq_true rfl) ⟨by decide, by decide⟩ rfl ⟨by decide, by decide⟩ d_P_putFixed_56 (c_T_putFromN hfl (k := 48) (m := 50) (w := ((wB ++ sgr dv 0 3 pa (to + c - (c - m)) (c - m)) ++ [(46 : Nat)])) (v := wD) (u := sgr dv 0 3 0 to m) (hh := hh92) (yh := hD) (p := c - m) (q := wD.length) (by omega) ((cF_0 (by decide)).trans (by rw [va_up_self])) ((cF_0 (by decide)).trans (by rw [va_up_ne _ _ (by decide), va_up_self])) htx93 (by simp only [List.length_append, List.length_cons, List.length_nil, List.length_replicate]; omega) (by omega) ((cF_0 (by decide)).trans (by rw [va_up_ne _ _ (by decide), va_up_ne _ _ (by decide)]; exact hTD)) ((cF_0 (by decide)).trans (by rw [va_up_ne _ _ (by decide), va_up_ne _ _ (by decide)]; exact hAD)) ttD hlD (by omega) (by omega) (by omega) (by rw [take_len, hwd]; exact sgr_drop (by omega)) (by simp only [List.length_append, List.length_cons, List.length_nil, List.length_replicate]; omega)) (fun  F5 hq => ?_)
      obtain ⟨hh94, htx95, eF5⟩ := hq
      refine J_eqF (F2 := cF ad g (va_up (va_up F0 49 (.inl (g 1, 200, .inl (aI hh94)))) 48 (.inr (7, [.ref (ad 49), .int (iI (((((wB ++ sgr dv 0 3 pa (to + c - (c - m)) (c - m)) ++ [(46 : Nat)]) ++ sgr dv 0 3 0 to m).length : Nat) : Int))]))) W K S) (eF5.trans (Eq.trans (congrArg (fun qF : Nat → va_E => va_up qF 48 (.inr (7, [.ref (ad 49), .int (iI (((((wB ++ sgr dv 0 3 pa (to + c - (c - m)) (c - m)) ++ [(46 : Nat)]) ++ sgr dv 0 3 0 to m).length : Nat) : Int))]))) ((cF_up0 (by decide)).trans (congrArg (fun qq => cF ad g qq W K S) (up_in1 (by decide))))) ((cF_up0 (by decide)).trans (congrArg (fun qq => cF ad g qq W K S) (up_in0))))) ?_
      have eT96 : (((wB ++ sgr dv 0 3 pa (to + c - (c - m)) (c - m)) ++ [(46 : Nat)]) ++ sgr dv 0 3 0 to m) = wB ++ (sgr dv 0 3 pa (to + m) (c - m) ++ dotT m sh ++ sgr dv 0 3 0 to m) := (by rw [show to + c - (c - m) = to + m by omega, dotT_y (by omega)]; simp only [List.append_assoc])
      have htx97 : tx hh94 (wB ++ (sgr dv 0 3 pa (to + m) (c - m) ++ dotT m sh ++ sgr dv 0 3 0 to m)) := eT96 ▸ htx95
      refine J_eqF (F2 := cF ad g (va_up (va_up F0 49 (.inl (g 1, 200, .inl (aI hh94)))) 48 (.inr (7, [.ref (ad 49), .int (iI (((wB ++ (sgr dv 0 3 pa (to + m) (c - m) ++ dotT m sh ++ sgr dv 0 3 0 to m)).length : Nat) : Int))]))) W K S) (congrArg (fun qq : List Nat => cF ad g (va_up (va_up F0 49 (.inl (g 1, 200, .inl (aI hh94)))) 48 (oT ad 48 ((qq.length : Nat) : Int))) W K S) eT96) ?_
      refine J_vret rfl d_P_putFixed_59 ⟨by decide, by decide⟩ ?_
      exact ⟨rfl, rfl, rfl, _, htx97, rfl⟩
set_option maxRecDepth 100000 in
set_option maxHeartbeats 4000000 in
theorem c_P_putScientific {l : Launch} (hfl : l.flags = flags0) {D : va_G} {g : Nat → ClassId} {ad : Nat → Nat} {N : Nat} {F0 : Nat → va_E} {W : Nat → Nat} {K S : Nat → Int} {ex : Int} {wB : List Nat} {hB : Nat → Int} {wD : List Nat} {hD : Nat → Int} {fi al sg ty pa : Nat} {x1 sh ze wi pr : Int} {dv : Nat → Nat} {to n : Nat} {e : Int}
    (hN : 109 ≤ N) (hW : bW W) (hPn : F0 43 = oP ad ex) (hTB : F0 48 = oT ad 48 (wB.length : Int)) (hAB : F0 49 = aT g hB) (ttB : tx hB wB) (hlB : wB.length ≤ 200) (hTD : F0 50 = oT ad 50 (wD.length : Int)) (hAD : F0 51 = aT g hD) (ttD : tx hD wD) (hlD : wD.length ≤ 200) (hSp : F0 42 = oS ad x1 (fi : Int) (al : Int) (sg : Int) sh ze wi (pa : Int) pr (ty : Int)) (hshb : sh = 0 ∨ sh = 1) (hpab : pa < 128) (htyb : ty < 128) (hwd : wD = sgr dv 0 3 0 to n) (hdv : ∀ k, dv k < 10) (hn : 1 ≤ n ∧ n ≤ 30) (he : -100 < e ∧ e < 100) (hln : wB.length ≤ 100) :
    JC l y_P_putScientific b_P_putScientific 3 (Option.none : Option Jvm.ClassFile.FieldType) rm_P_putScientific (0, 0) D jCl (jTys g) ad N (cF ad g F0 W K S) [.ref (ad 43), .int (iI e), .ref (ad 42)] (jv ad N (fun F' => ∃ h0 : Nat → Int, tx h0 (wB ++ sciT dv to n sh e (exlt ty)) ∧ F' = cF ad g (va_up (va_up F0 49 (aT g h0)) 48 (oT ad 48 ((wB ++ sciT dv to n sh e (exlt ty)).length : Int))) W K S)) := by
  have hdl : wD.length = n := by rw [hwd]; exact sgr_1 n
  have hgl2 := sgr_1 (dv := dv) (cap := 0) (grp := 3) (to := to) (n - 1)
  have hd0 : tat wD 0 = ((chd 0 (dv (to + n - 1)) : Nat) : Int) := by rw [hwd]; exact (tat_sgr (i := 0) (by omega)).trans (by rw [Nat.sub_zero])
  have hcb := chd_b (cap := 0) (d := dv (to + n - 1)) (Nat.lt_trans (hdv _) (by decide))
  refine JC.go hfl (own := "NumberTower$Pen") (lv := [(0, .ref (ad 43)), (1, .int (iI e)), (2, .ref (ad 42))]) rfl (by decide +kernel) (Nat.le_of_ble_eq_true rfl) rfl (fun A => ?_)
  refine J_aload_n 0 d_P_putScientific_0 rfl rfl ?_
  refine gf_P_21 (by omega) ((cF_0 (by decide)).trans hPn) rfl d_P_putScientific_1 ?_
  refine J_aload_n 0 d_P_putScientific_4 rfl rfl ?_
  refine gf_P_24 (by omega) ((cF_0 (by decide)).trans hPn) rfl d_P_putScientific_5 ?_
  refine J_iconst d_P_putScientific_8 ?_
  refine J_callVi cw_P_105 nh_T_at pn_T_at rfl rfl (by omega) ((cF_0 (by decide)).trans hTD) (As := [.int (iI 0)]) (rest := [.ref (ad 48)]) rfl (Nat.le_of_ble_eq_true rfl) ⟨by decide, by decide⟩ rfl ⟨by decide, by decide⟩ d_P_putScientific_9 (c_T_at hfl (k := 50) (w := wD) (hh := hD) (n := 0) (by omega) ((cF_0 (by decide)).trans hTD) ((cF_0 (by decide)).trans hAD) ttD hlD (by decide)) (fun ta98 F1 hq => ?_)
  obtain ⟨hta98, eF1⟩ := hq
  refine J_eqF eF1 ?_
  refine J_topi (r := tat wD 0) (congrArg iI hta98) ?_
  refine J_topi (r := (((chd 0 (dv (to + n - 1)) : Nat)) : Int)) (congrArg iI hd0) ?_
  refine J_callVv cw_P_49 nh_T_put pn_T_put rfl rfl (by omega) ((cF_0 (by decide)).trans hTB) (As := [.int (iI (((chd 0 (dv (to + n - 1)) : Nat)) : Int))]) (rest := []) rfl (Nat.le_of_ble_eq_true rfl) ⟨by decide, by decide⟩ rfl ⟨by decide, by decide⟩ d_P_putScientific_12 (c_T_putN hfl (k := 48) (w := wB) (hh := hB) (c := chd 0 (dv (to + n - 1))) (by omega) ((cF_0 (by decide)).trans hTB) ((cF_0 (by decide)).trans hAB) ttB (by omega) (by omega)) (fun  F2 hq => ?_)
  obtain ⟨hh99, htx100, eF2⟩ := hq
  refine J_eqF (F2 := cF ad g (va_up (va_up F0 49 (.inl (g 1, 200, .inl (aI hh99)))) 48 (.inr (7, [.ref (ad 49), .int (iI (((wB ++ [chd 0 (dv (to + n - 1))]).length : Nat) : Int))]))) W K S) (eF2.trans (Eq.trans (congrArg (fun qF : Nat → va_E => va_up qF 48 (.inr (7, [.ref (ad 49), .int (iI (((wB ++ [chd 0 (dv (to + n - 1))]).length : Nat) : Int))]))) (cF_up0 (by decide))) (cF_up0 (by decide)))) ?_
  refine J_aload_n 0 d_P_putScientific_15 rfl rfl ?_
  refine gf_P_24 (by omega) ((cF_0 (by decide)).trans (by rw [va_up_ne _ _ (by decide), va_up_ne _ _ (by decide)]; exact hPn)) rfl d_P_putScientific_16 ?_
  refine gf_P_88 (by omega) ((cF_0 (by decide)).trans (by rw [va_up_ne _ _ (by decide), va_up_ne _ _ (by decide)]; exact hTD)) rfl d_P_putScientific_19 ?_
  refine J_iconst d_P_putScientific_22 ?_
  refine J_if_icmpgt (tgt := 33) d_P_putScientific_23 (by decide) ⟨by omega, by omega⟩ ⟨by omega, by omega⟩ (fun c23 => ?_) (fun c23 => ?_)
  · refine J_aload_n 0 d_P_putScientific_33 rfl rfl ?_
    refine gf_P_21 (by omega) ((cF_0 (by decide)).trans (by rw [va_up_ne _ _ (by decide), va_up_ne _ _ (by decide)]; exact hPn)) rfl d_P_putScientific_34 ?_
    refine J_bipush d_P_putScientific_37 (i8_ok (by decide)) ?_
    refine J_callVv cw_P_49 nh_T_put pn_T_put rfl rfl (by omega) ((cF_0 (by decide)).trans (by rw [va_up_self])) (As := [.int (iI 46)]) (rest := []) rfl (Nat.le_of_ble_eq_true rfl) ⟨by decide, by decide⟩ rfl ⟨by decide, by decide⟩ d_P_putScientific_39 (c_T_putN hfl (k := 48) (w := (wB ++ [chd 0 (dv (to + n - 1))])) (hh := hh99) (c := (46 : Nat)) (by omega) ((cF_0 (by decide)).trans (by rw [va_up_self])) ((cF_0 (by decide)).trans (by rw [va_up_ne _ _ (by decide), va_up_self])) htx100 (by simp only [List.length_append, List.length_cons, List.length_nil, List.length_replicate]; omega) (by omega)) (fun  F3 hq => ?_)
    obtain ⟨hh101, htx102, eF3⟩ := hq
    refine J_eqF (F2 := cF ad g (va_up (va_up F0 49 (.inl (g 1, 200, .inl (aI hh101)))) 48 (.inr (7, [.ref (ad 49), .int (iI ((((wB ++ [chd 0 (dv (to + n - 1))]) ++ [(46 : Nat)]).length : Nat) : Int))]))) W K S) (eF3.trans (Eq.trans (congrArg (fun qF : Nat → va_E => va_up qF 48 (.inr (7, [.ref (ad 49), .int (iI ((((wB ++ [chd 0 (dv (to + n - 1))]) ++ [(46 : Nat)]).length : Nat) : Int))]))) ((cF_up0 (by decide)).trans (congrArg (fun qq => cF ad g qq W K S) (up_in1 (by decide))))) ((cF_up0 (by decide)).trans (congrArg (fun qq => cF ad g qq W K S) (up_in0))))) ?_
    refine J_aload_n 0 d_P_putScientific_42 rfl rfl ?_
    refine gf_P_21 (by omega) ((cF_0 (by decide)).trans (by rw [va_up_ne _ _ (by decide), va_up_ne _ _ (by decide)]; exact hPn)) rfl d_P_putScientific_43 ?_
    refine J_aload_n 0 d_P_putScientific_46 rfl rfl ?_
    refine gf_P_24 (by omega) ((cF_0 (by decide)).trans (by rw [va_up_ne _ _ (by decide), va_up_ne _ _ (by decide)]; exact hPn)) rfl d_P_putScientific_47 ?_
    refine J_iconst d_P_putScientific_50 ?_
    refine J_aload_n 0 d_P_putScientific_51 rfl rfl ?_
    refine gf_P_24 (by omega) ((cF_0 (by decide)).trans (by rw [va_up_ne _ _ (by decide), va_up_ne _ _ (by decide)]; exact hPn)) rfl d_P_putScientific_52 ?_
    refine gf_P_88 (by omega) ((cF_0 (by decide)).trans (by rw [va_up_ne _ _ (by decide), va_up_ne _ _ (by decide)]; exact hTD)) rfl d_P_putScientific_55 ?_
    refine J_callVv cw_P_91 nh_T_putFrom pn_T_putFrom rfl rfl (by omega) ((cF_0 (by decide)).trans (by rw [va_up_self])) (As := [.ref (ad 50), .int (iI 1), .int (iI ((wD.length : Nat) : Int))]) (rest := []) rfl (Nat.le_of_ble_eq_true rfl) ⟨by decide, by decide⟩ rfl ⟨by decide, by decide⟩ d_P_putScientific_58 (c_T_putFromN hfl (k := 48) (m := 50) (w := ((wB ++ [chd 0 (dv (to + n - 1))]) ++ [(46 : Nat)])) (v := wD) (u := sgr dv 0 3 0 to (n - 1)) (hh := hh101) (yh := hD) (p := 1) (q := wD.length) (by omega) ((cF_0 (by decide)).trans (by rw [va_up_self])) ((cF_0 (by decide)).trans (by rw [va_up_ne _ _ (by decide), va_up_self])) htx102 (by simp only [List.length_append, List.length_cons, List.length_nil, List.length_replicate]; omega) (by omega) ((cF_0 (by decide)).trans (by rw [va_up_ne _ _ (by decide), va_up_ne _ _ (by decide)]; exact hTD)) ((cF_0 (by decide)).trans (by rw [va_up_ne _ _ (by decide), va_up_ne _ _ (by decide)]; exact hAD)) ttD hlD (by omega) (by omega) (by omega) (by rw [take_len, hwd]; exact sgr_drop (by omega)) (by simp only [List.length_append, List.length_cons, List.length_nil, List.length_replicate]; omega)) (fun  F4 hq => ?_)
    obtain ⟨hh103, htx104, eF4⟩ := hq
    refine J_eqF (F2 := cF ad g (va_up (va_up F0 49 (.inl (g 1, 200, .inl (aI hh103)))) 48 (.inr (7, [.ref (ad 49), .int (iI (((((wB ++ [chd 0 (dv (to + n - 1))]) ++ [(46 : Nat)]) ++ sgr dv 0 3 0 to (n - 1)).length : Nat) : Int))]))) W K S) (eF4.trans (Eq.trans (congrArg (fun qF : Nat → va_E => va_up qF 48 (.inr (7, [.ref (ad 49), .int (iI (((((wB ++ [chd 0 (dv (to + n - 1))]) ++ [(46 : Nat)]) ++ sgr dv 0 3 0 to (n - 1)).length : Nat) : Int))]))) ((cF_up0 (by decide)).trans (congrArg (fun qq => cF ad g qq W K S) (up_in1 (by decide))))) ((cF_up0 (by decide)).trans (congrArg (fun qq => cF ad g qq W K S) (up_in0))))) ?_
    refine J_aload_n 0 d_P_putScientific_61 rfl rfl ?_
    refine gf_P_21 (by omega) ((cF_0 (by decide)).trans (by rw [va_up_ne _ _ (by decide), va_up_ne _ _ (by decide)]; exact hPn)) rfl d_P_putScientific_62 ?_
    refine J_iload_n 1 d_P_putScientific_65 rfl rfl ?_
    refine J_aload_n 2 d_P_putScientific_66 rfl rfl ?_
    refine gf_P_188 (by omega) ((cF_0 (by decide)).trans (by rw [va_up_ne _ _ (by decide), va_up_ne _ _ (by decide)]; exact hSp)) rfl d_P_putScientific_67 ?_
    refine J_bipush d_P_putScientific_70 (i8_ok (by decide)) ?_
    refine J_if_icmpeq (tgt := 84) d_P_putScientific_72 (by decide) ⟨by omega, by omega⟩ ⟨by omega, by omega⟩ (fun c72 => ?_) (fun c72 => ?_)
    · refine J_bipush d_P_putScientific_84 (i8_ok (by decide)) ?_
      refine J_goto (tgt := 91) d_P_putScientific_86 (by decide) ?_
      have lab91 : ∀ (lt : Nat) (hlt : exlt ty = lt) (hltb : lt < 128) , J l rm_P_putScientific (0, 0) "NumberTower$Pen" b_P_putScientific 3 (Option.none : Option Jvm.ClassFile.FieldType) D jCl (jTys g) A (fun _ me => me.name = y_P_putScientific.name) (jv ad N (fun F' => ∃ h0 : Nat → Int, tx h0 (wB ++ sciT dv to n sh e (exlt ty)) ∧ F' = cF ad g (va_up (va_up F0 49 (aT g h0)) 48 (oT ad 48 ((wB ++ sciT dv to n sh e (exlt ty)).length : Int))) W K S)) ad N 0 0 91 [(0, .ref (ad 43)), (1, .int (iI e)), (2, .ref (ad 42))] [.int (iI (lt : Int)), .int (iI e), .ref (ad 48)] (cF ad g (va_up (va_up F0 49 (.inl (g 1, 200, .inl (aI hh103)))) 48 (.inr (7, [.ref (ad 49), .int (iI (((((wB ++ [chd 0 (dv (to + n - 1))]) ++ [(46 : Nat)]) ++ sgr dv 0 3 0 to (n - 1)).length : Nat) : Int))]))) W K S) := by
        intro lt hlt hltb
        refine J_callSv cw_P_108 nh_P_putExponent pn_P_putExponent rfl (As := [.ref (ad 48), .int (iI e), .int (iI (lt : Int))]) (rest := []) rfl (Nat.le_of_ble_eq_true rfl) ⟨by decide, by decide⟩ rfl ⟨by decide, by decide⟩ d_P_putScientific_91 (c_P_putExponent hfl (k := 48) (w := (((wB ++ [chd 0 (dv (to + n - 1))]) ++ [(46 : Nat)]) ++ sgr dv 0 3 0 to (n - 1))) (hh := hh103) (e := e) (lt := lt) (by omega) ((cF_0 (by decide)).trans (by rw [va_up_self])) ((cF_0 (by decide)).trans (by rw [va_up_ne _ _ (by decide), va_up_self])) htx104 (by simp only [List.length_append, List.length_cons, List.length_nil, List.length_replicate]; omega) ⟨by omega, by omega⟩ (by omega)) (fun  F5 hq => ?_)
        obtain ⟨hh105, htx106, eF5⟩ := hq
        refine J_eqF (F2 := cF ad g (va_up (va_up F0 49 (.inl (g 1, 200, .inl (aI hh105)))) 48 (.inr (7, [.ref (ad 49), .int (iI ((((((wB ++ [chd 0 (dv (to + n - 1))]) ++ [(46 : Nat)]) ++ sgr dv 0 3 0 to (n - 1)) ++ expT e lt).length : Nat) : Int))]))) W K S) (eF5.trans (Eq.trans (congrArg (fun qF : Nat → va_E => va_up qF 48 (.inr (7, [.ref (ad 49), .int (iI ((((((wB ++ [chd 0 (dv (to + n - 1))]) ++ [(46 : Nat)]) ++ sgr dv 0 3 0 to (n - 1)) ++ expT e lt).length : Nat) : Int))]))) ((cF_up0 (by decide)).trans (congrArg (fun qq => cF ad g qq W K S) (up_in1 (by decide))))) ((cF_up0 (by decide)).trans (congrArg (fun qq => cF ad g qq W K S) (up_in0))))) ?_
        have eT107 : ((((wB ++ [chd 0 (dv (to + n - 1))]) ++ [(46 : Nat)]) ++ sgr dv 0 3 0 to (n - 1)) ++ expT e lt) = wB ++ sciT dv to n sh e (exlt ty) := (by unfold sciT; rw [hlt, if_pos (by omega)]; simp only [List.append_assoc])
        have htx108 : tx hh105 (wB ++ sciT dv to n sh e (exlt ty)) := eT107 ▸ htx106
        refine J_eqF (F2 := cF ad g (va_up (va_up F0 49 (.inl (g 1, 200, .inl (aI hh105)))) 48 (.inr (7, [.ref (ad 49), .int (iI (((wB ++ sciT dv to n sh e (exlt ty)).length : Nat) : Int))]))) W K S) (congrArg (fun qq : List Nat => cF ad g (va_up (va_up F0 49 (.inl (g 1, 200, .inl (aI hh105)))) 48 (oT ad 48 ((qq.length : Nat) : Int))) W K S) eT107) ?_
        refine J_vret rfl d_P_putScientific_94 ⟨by decide, by decide⟩ ?_
        exact ⟨rfl, rfl, rfl, _, htx108, rfl⟩
      exact lab91 69 (by unfold exlt; rw [if_pos (by omega)]) (by decide)
    · refine J_aload_n 2 d_P_putScientific_75 rfl rfl ?_
      refine gf_P_188 (by omega) ((cF_0 (by decide)).trans (by rw [va_up_ne _ _ (by decide), va_up_ne _ _ (by decide)]; exact hSp)) rfl d_P_putScientific_76 ?_
      refine J_bipush d_P_putScientific_79 (i8_ok (by decide)) ?_
      refine J_if_icmpne (tgt := 89) d_P_putScientific_81 (by decide) ⟨by omega, by omega⟩ ⟨by omega, by omega⟩ (fun c81 => ?_) (fun c81 => ?_)
      · refine J_bipush d_P_putScientific_89 (i8_ok (by decide)) ?_
        have lab91 : ∀ (lt : Nat) (hlt : exlt ty = lt) (hltb : lt < 128) , J l rm_P_putScientific (0, 0) "NumberTower$Pen" b_P_putScientific 3 (Option.none : Option Jvm.ClassFile.FieldType) D jCl (jTys g) A (fun _ me => me.name = y_P_putScientific.name) (jv ad N (fun F' => ∃ h0 : Nat → Int, tx h0 (wB ++ sciT dv to n sh e (exlt ty)) ∧ F' = cF ad g (va_up (va_up F0 49 (aT g h0)) 48 (oT ad 48 ((wB ++ sciT dv to n sh e (exlt ty)).length : Int))) W K S)) ad N 0 0 91 [(0, .ref (ad 43)), (1, .int (iI e)), (2, .ref (ad 42))] [.int (iI (lt : Int)), .int (iI e), .ref (ad 48)] (cF ad g (va_up (va_up F0 49 (.inl (g 1, 200, .inl (aI hh103)))) 48 (.inr (7, [.ref (ad 49), .int (iI (((((wB ++ [chd 0 (dv (to + n - 1))]) ++ [(46 : Nat)]) ++ sgr dv 0 3 0 to (n - 1)).length : Nat) : Int))]))) W K S) := by
          intro lt hlt hltb
          refine J_callSv cw_P_108 nh_P_putExponent pn_P_putExponent rfl (As := [.ref (ad 48), .int (iI e), .int (iI (lt : Int))]) (rest := []) rfl (Nat.le_of_ble_eq_true rfl) ⟨by decide, by decide⟩ rfl ⟨by decide, by decide⟩ d_P_putScientific_91 (c_P_putExponent hfl (k := 48) (w := (((wB ++ [chd 0 (dv (to + n - 1))]) ++ [(46 : Nat)]) ++ sgr dv 0 3 0 to (n - 1))) (hh := hh103) (e := e) (lt := lt) (by omega) ((cF_0 (by decide)).trans (by rw [va_up_self])) ((cF_0 (by decide)).trans (by rw [va_up_ne _ _ (by decide), va_up_self])) htx104 (by simp only [List.length_append, List.length_cons, List.length_nil, List.length_replicate]; omega) ⟨by omega, by omega⟩ (by omega)) (fun  F6 hq => ?_)
          obtain ⟨hh109, htx110, eF6⟩ := hq
          refine J_eqF (F2 := cF ad g (va_up (va_up F0 49 (.inl (g 1, 200, .inl (aI hh109)))) 48 (.inr (7, [.ref (ad 49), .int (iI ((((((wB ++ [chd 0 (dv (to + n - 1))]) ++ [(46 : Nat)]) ++ sgr dv 0 3 0 to (n - 1)) ++ expT e lt).length : Nat) : Int))]))) W K S) (eF6.trans (Eq.trans (congrArg (fun qF : Nat → va_E => va_up qF 48 (.inr (7, [.ref (ad 49), .int (iI ((((((wB ++ [chd 0 (dv (to + n - 1))]) ++ [(46 : Nat)]) ++ sgr dv 0 3 0 to (n - 1)) ++ expT e lt).length : Nat) : Int))]))) ((cF_up0 (by decide)).trans (congrArg (fun qq => cF ad g qq W K S) (up_in1 (by decide))))) ((cF_up0 (by decide)).trans (congrArg (fun qq => cF ad g qq W K S) (up_in0))))) ?_
          have eT111 : ((((wB ++ [chd 0 (dv (to + n - 1))]) ++ [(46 : Nat)]) ++ sgr dv 0 3 0 to (n - 1)) ++ expT e lt) = wB ++ sciT dv to n sh e (exlt ty) := (by unfold sciT; rw [hlt, if_pos (by omega)]; simp only [List.append_assoc])
          have htx112 : tx hh109 (wB ++ sciT dv to n sh e (exlt ty)) := eT111 ▸ htx110
          refine J_eqF (F2 := cF ad g (va_up (va_up F0 49 (.inl (g 1, 200, .inl (aI hh109)))) 48 (.inr (7, [.ref (ad 49), .int (iI (((wB ++ sciT dv to n sh e (exlt ty)).length : Nat) : Int))]))) W K S) (congrArg (fun qq : List Nat => cF ad g (va_up (va_up F0 49 (.inl (g 1, 200, .inl (aI hh109)))) 48 (oT ad 48 ((qq.length : Nat) : Int))) W K S) eT111) ?_
          refine J_vret rfl d_P_putScientific_94 ⟨by decide, by decide⟩ ?_
          exact ⟨rfl, rfl, rfl, _, htx112, rfl⟩
        exact lab91 101 (by unfold exlt; rw [if_neg (by omega)]) (by decide)
      · refine J_bipush d_P_putScientific_84 (i8_ok (by decide)) ?_
        refine J_goto (tgt := 91) d_P_putScientific_86 (by decide) ?_
        have lab91 : ∀ (lt : Nat) (hlt : exlt ty = lt) (hltb : lt < 128) , J l rm_P_putScientific (0, 0) "NumberTower$Pen" b_P_putScientific 3 (Option.none : Option Jvm.ClassFile.FieldType) D jCl (jTys g) A (fun _ me => me.name = y_P_putScientific.name) (jv ad N (fun F' => ∃ h0 : Nat → Int, tx h0 (wB ++ sciT dv to n sh e (exlt ty)) ∧ F' = cF ad g (va_up (va_up F0 49 (aT g h0)) 48 (oT ad 48 ((wB ++ sciT dv to n sh e (exlt ty)).length : Int))) W K S)) ad N 0 0 91 [(0, .ref (ad 43)), (1, .int (iI e)), (2, .ref (ad 42))] [.int (iI (lt : Int)), .int (iI e), .ref (ad 48)] (cF ad g (va_up (va_up F0 49 (.inl (g 1, 200, .inl (aI hh103)))) 48 (.inr (7, [.ref (ad 49), .int (iI (((((wB ++ [chd 0 (dv (to + n - 1))]) ++ [(46 : Nat)]) ++ sgr dv 0 3 0 to (n - 1)).length : Nat) : Int))]))) W K S) := by
          intro lt hlt hltb
          refine J_callSv cw_P_108 nh_P_putExponent pn_P_putExponent rfl (As := [.ref (ad 48), .int (iI e), .int (iI (lt : Int))]) (rest := []) rfl (Nat.le_of_ble_eq_true rfl) ⟨by decide, by decide⟩ rfl ⟨by decide, by decide⟩ d_P_putScientific_91 (c_P_putExponent hfl (k := 48) (w := (((wB ++ [chd 0 (dv (to + n - 1))]) ++ [(46 : Nat)]) ++ sgr dv 0 3 0 to (n - 1))) (hh := hh103) (e := e) (lt := lt) (by omega) ((cF_0 (by decide)).trans (by rw [va_up_self])) ((cF_0 (by decide)).trans (by rw [va_up_ne _ _ (by decide), va_up_self])) htx104 (by simp only [List.length_append, List.length_cons, List.length_nil, List.length_replicate]; omega) ⟨by omega, by omega⟩ (by omega)) (fun  F7 hq => ?_)
          obtain ⟨hh113, htx114, eF7⟩ := hq
          refine J_eqF (F2 := cF ad g (va_up (va_up F0 49 (.inl (g 1, 200, .inl (aI hh113)))) 48 (.inr (7, [.ref (ad 49), .int (iI ((((((wB ++ [chd 0 (dv (to + n - 1))]) ++ [(46 : Nat)]) ++ sgr dv 0 3 0 to (n - 1)) ++ expT e lt).length : Nat) : Int))]))) W K S) (eF7.trans (Eq.trans (congrArg (fun qF : Nat → va_E => va_up qF 48 (.inr (7, [.ref (ad 49), .int (iI ((((((wB ++ [chd 0 (dv (to + n - 1))]) ++ [(46 : Nat)]) ++ sgr dv 0 3 0 to (n - 1)) ++ expT e lt).length : Nat) : Int))]))) ((cF_up0 (by decide)).trans (congrArg (fun qq => cF ad g qq W K S) (up_in1 (by decide))))) ((cF_up0 (by decide)).trans (congrArg (fun qq => cF ad g qq W K S) (up_in0))))) ?_
          have eT115 : ((((wB ++ [chd 0 (dv (to + n - 1))]) ++ [(46 : Nat)]) ++ sgr dv 0 3 0 to (n - 1)) ++ expT e lt) = wB ++ sciT dv to n sh e (exlt ty) := (by unfold sciT; rw [hlt, if_pos (by omega)]; simp only [List.append_assoc])
          have htx116 : tx hh113 (wB ++ sciT dv to n sh e (exlt ty)) := eT115 ▸ htx114
          refine J_eqF (F2 := cF ad g (va_up (va_up F0 49 (.inl (g 1, 200, .inl (aI hh113)))) 48 (.inr (7, [.ref (ad 49), .int (iI (((wB ++ sciT dv to n sh e (exlt ty)).length : Nat) : Int))]))) W K S) (congrArg (fun qq : List Nat => cF ad g (va_up (va_up F0 49 (.inl (g 1, 200, .inl (aI hh113)))) 48 (oT ad 48 ((qq.length : Nat) : Int))) W K S) eT115) ?_
          refine J_vret rfl d_P_putScientific_94 ⟨by decide, by decide⟩ ?_
          exact ⟨rfl, rfl, rfl, _, htx116, rfl⟩
        exact lab91 69 (by unfold exlt; rw [if_pos (by omega)]) (by decide)
  · refine J_aload_n 2 d_P_putScientific_26 rfl rfl ?_
    refine gf_P_227 (by omega) ((cF_0 (by decide)).trans (by rw [va_up_ne _ _ (by decide), va_up_ne _ _ (by decide)]; exact hSp)) rfl d_P_putScientific_27 ?_
    refine J_ifeq (tgt := 42) d_P_putScientific_30 (by decide) ⟨by omega, by omega⟩ (fun c30 => ?_) (fun c30 => ?_)
    · refine J_aload_n 0 d_P_putScientific_42 rfl rfl ?_
      refine gf_P_21 (by omega) ((cF_0 (by decide)).trans (by rw [va_up_ne _ _ (by decide), va_up_ne _ _ (by decide)]; exact hPn)) rfl d_P_putScientific_43 ?_
      refine J_aload_n 0 d_P_putScientific_46 rfl rfl ?_
      refine gf_P_24 (by omega) ((cF_0 (by decide)).trans (by rw [va_up_ne _ _ (by decide), va_up_ne _ _ (by decide)]; exact hPn)) rfl d_P_putScientific_47 ?_
      refine J_iconst d_P_putScientific_50 ?_
      refine J_aload_n 0 d_P_putScientific_51 rfl rfl ?_
      refine gf_P_24 (by omega) ((cF_0 (by decide)).trans (by rw [va_up_ne _ _ (by decide), va_up_ne _ _ (by decide)]; exact hPn)) rfl d_P_putScientific_52 ?_
      refine gf_P_88 (by omega) ((cF_0 (by decide)).trans (by rw [va_up_ne _ _ (by decide), va_up_ne _ _ (by decide)]; exact hTD)) rfl d_P_putScientific_55 ?_
      refine J_callVv cw_P_91 nh_T_putFrom pn_T_putFrom rfl rfl (by omega) ((cF_0 (by decide)).trans (by rw [va_up_self])) (As := [.ref (ad 50), .int (iI 1), .int (iI ((wD.length : Nat) : Int))]) (rest := []) rfl (Nat.le_of_ble_eq_true rfl) ⟨by decide, by decide⟩ rfl ⟨by decide, by decide⟩ d_P_putScientific_58 (c_T_putFromN hfl (k := 48) (m := 50) (w := (wB ++ [chd 0 (dv (to + n - 1))])) (v := wD) (u := sgr dv 0 3 0 to (n - 1)) (hh := hh99) (yh := hD) (p := 1) (q := wD.length) (by omega) ((cF_0 (by decide)).trans (by rw [va_up_self])) ((cF_0 (by decide)).trans (by rw [va_up_ne _ _ (by decide), va_up_self])) htx100 (by simp only [List.length_append, List.length_cons, List.length_nil, List.length_replicate]; omega) (by omega) ((cF_0 (by decide)).trans (by rw [va_up_ne _ _ (by decide), va_up_ne _ _ (by decide)]; exact hTD)) ((cF_0 (by decide)).trans (by rw [va_up_ne _ _ (by decide), va_up_ne _ _ (by decide)]; exact hAD)) ttD hlD (by omega) (by omega) (by omega) (by rw [take_len, hwd]; exact sgr_drop (by omega)) (by simp only [List.length_append, List.length_cons, List.length_nil, List.length_replicate]; omega)) (fun  F8 hq => ?_)
      obtain ⟨hh117, htx118, eF8⟩ := hq
      refine J_eqF (F2 := cF ad g (va_up (va_up F0 49 (.inl (g 1, 200, .inl (aI hh117)))) 48 (.inr (7, [.ref (ad 49), .int (iI ((((wB ++ [chd 0 (dv (to + n - 1))]) ++ sgr dv 0 3 0 to (n - 1)).length : Nat) : Int))]))) W K S) (eF8.trans (Eq.trans (congrArg (fun qF : Nat → va_E => va_up qF 48 (.inr (7, [.ref (ad 49), .int (iI ((((wB ++ [chd 0 (dv (to + n - 1))]) ++ sgr dv 0 3 0 to (n - 1)).length : Nat) : Int))]))) ((cF_up0 (by decide)).trans (congrArg (fun qq => cF ad g qq W K S) (up_in1 (by decide))))) ((cF_up0 (by decide)).trans (congrArg (fun qq => cF ad g qq W K S) (up_in0))))) ?_
      refine J_aload_n 0 d_P_putScientific_61 rfl rfl ?_
      refine gf_P_21 (by omega) ((cF_0 (by decide)).trans (by rw [va_up_ne _ _ (by decide), va_up_ne _ _ (by decide)]; exact hPn)) rfl d_P_putScientific_62 ?_
      refine J_iload_n 1 d_P_putScientific_65 rfl rfl ?_
      refine J_aload_n 2 d_P_putScientific_66 rfl rfl ?_
      refine gf_P_188 (by omega) ((cF_0 (by decide)).trans (by rw [va_up_ne _ _ (by decide), va_up_ne _ _ (by decide)]; exact hSp)) rfl d_P_putScientific_67 ?_
      refine J_bipush d_P_putScientific_70 (i8_ok (by decide)) ?_
      refine J_if_icmpeq (tgt := 84) d_P_putScientific_72 (by decide) ⟨by omega, by omega⟩ ⟨by omega, by omega⟩ (fun c72 => ?_) (fun c72 => ?_)
      · refine J_bipush d_P_putScientific_84 (i8_ok (by decide)) ?_
        refine J_goto (tgt := 91) d_P_putScientific_86 (by decide) ?_
        have lab91 : ∀ (lt : Nat) (hlt : exlt ty = lt) (hltb : lt < 128) , J l rm_P_putScientific (0, 0) "NumberTower$Pen" b_P_putScientific 3 (Option.none : Option Jvm.ClassFile.FieldType) D jCl (jTys g) A (fun _ me => me.name = y_P_putScientific.name) (jv ad N (fun F' => ∃ h0 : Nat → Int, tx h0 (wB ++ sciT dv to n sh e (exlt ty)) ∧ F' = cF ad g (va_up (va_up F0 49 (aT g h0)) 48 (oT ad 48 ((wB ++ sciT dv to n sh e (exlt ty)).length : Int))) W K S)) ad N 0 0 91 [(0, .ref (ad 43)), (1, .int (iI e)), (2, .ref (ad 42))] [.int (iI (lt : Int)), .int (iI e), .ref (ad 48)] (cF ad g (va_up (va_up F0 49 (.inl (g 1, 200, .inl (aI hh117)))) 48 (.inr (7, [.ref (ad 49), .int (iI ((((wB ++ [chd 0 (dv (to + n - 1))]) ++ sgr dv 0 3 0 to (n - 1)).length : Nat) : Int))]))) W K S) := by
          intro lt hlt hltb
          refine J_callSv cw_P_108 nh_P_putExponent pn_P_putExponent rfl (As := [.ref (ad 48), .int (iI e), .int (iI (lt : Int))]) (rest := []) rfl (Nat.le_of_ble_eq_true rfl) ⟨by decide, by decide⟩ rfl ⟨by decide, by decide⟩ d_P_putScientific_91 (c_P_putExponent hfl (k := 48) (w := ((wB ++ [chd 0 (dv (to + n - 1))]) ++ sgr dv 0 3 0 to (n - 1))) (hh := hh117) (e := e) (lt := lt) (by omega) ((cF_0 (by decide)).trans (by rw [va_up_self])) ((cF_0 (by decide)).trans (by rw [va_up_ne _ _ (by decide), va_up_self])) htx118 (by simp only [List.length_append, List.length_cons, List.length_nil, List.length_replicate]; omega) ⟨by omega, by omega⟩ (by omega)) (fun  F9 hq => ?_)
          obtain ⟨hh119, htx120, eF9⟩ := hq
          refine J_eqF (F2 := cF ad g (va_up (va_up F0 49 (.inl (g 1, 200, .inl (aI hh119)))) 48 (.inr (7, [.ref (ad 49), .int (iI (((((wB ++ [chd 0 (dv (to + n - 1))]) ++ sgr dv 0 3 0 to (n - 1)) ++ expT e lt).length : Nat) : Int))]))) W K S) (eF9.trans (Eq.trans (congrArg (fun qF : Nat → va_E => va_up qF 48 (.inr (7, [.ref (ad 49), .int (iI (((((wB ++ [chd 0 (dv (to + n - 1))]) ++ sgr dv 0 3 0 to (n - 1)) ++ expT e lt).length : Nat) : Int))]))) ((cF_up0 (by decide)).trans (congrArg (fun qq => cF ad g qq W K S) (up_in1 (by decide))))) ((cF_up0 (by decide)).trans (congrArg (fun qq => cF ad g qq W K S) (up_in0))))) ?_
          have eT121 : (((wB ++ [chd 0 (dv (to + n - 1))]) ++ sgr dv 0 3 0 to (n - 1)) ++ expT e lt) = wB ++ sciT dv to n sh e (exlt ty) := (by unfold sciT; rw [hlt, if_neg (by omega)]; simp only [List.append_assoc, List.nil_append])
          have htx122 : tx hh119 (wB ++ sciT dv to n sh e (exlt ty)) := eT121 ▸ htx120
          refine J_eqF (F2 := cF ad g (va_up (va_up F0 49 (.inl (g 1, 200, .inl (aI hh119)))) 48 (.inr (7, [.ref (ad 49), .int (iI (((wB ++ sciT dv to n sh e (exlt ty)).length : Nat) : Int))]))) W K S) (congrArg (fun qq : List Nat => cF ad g (va_up (va_up F0 49 (.inl (g 1, 200, .inl (aI hh119)))) 48 (oT ad 48 ((qq.length : Nat) : Int))) W K S) eT121) ?_
          refine J_vret rfl d_P_putScientific_94 ⟨by decide, by decide⟩ ?_
          exact ⟨rfl, rfl, rfl, _, htx122, rfl⟩
        exact lab91 69 (by unfold exlt; rw [if_pos (by omega)]) (by decide)
      · refine J_aload_n 2 d_P_putScientific_75 rfl rfl ?_
        refine gf_P_188 (by omega) ((cF_0 (by decide)).trans (by rw [va_up_ne _ _ (by decide), va_up_ne _ _ (by decide)]; exact hSp)) rfl d_P_putScientific_76 ?_
        refine J_bipush d_P_putScientific_79 (i8_ok (by decide)) ?_
        refine J_if_icmpne (tgt := 89) d_P_putScientific_81 (by decide) ⟨by omega, by omega⟩ ⟨by omega, by omega⟩ (fun c81 => ?_) (fun c81 => ?_)
        · refine J_bipush d_P_putScientific_89 (i8_ok (by decide)) ?_
          have lab91 : ∀ (lt : Nat) (hlt : exlt ty = lt) (hltb : lt < 128) , J l rm_P_putScientific (0, 0) "NumberTower$Pen" b_P_putScientific 3 (Option.none : Option Jvm.ClassFile.FieldType) D jCl (jTys g) A (fun _ me => me.name = y_P_putScientific.name) (jv ad N (fun F' => ∃ h0 : Nat → Int, tx h0 (wB ++ sciT dv to n sh e (exlt ty)) ∧ F' = cF ad g (va_up (va_up F0 49 (aT g h0)) 48 (oT ad 48 ((wB ++ sciT dv to n sh e (exlt ty)).length : Int))) W K S)) ad N 0 0 91 [(0, .ref (ad 43)), (1, .int (iI e)), (2, .ref (ad 42))] [.int (iI (lt : Int)), .int (iI e), .ref (ad 48)] (cF ad g (va_up (va_up F0 49 (.inl (g 1, 200, .inl (aI hh117)))) 48 (.inr (7, [.ref (ad 49), .int (iI ((((wB ++ [chd 0 (dv (to + n - 1))]) ++ sgr dv 0 3 0 to (n - 1)).length : Nat) : Int))]))) W K S) := by
            intro lt hlt hltb
            refine J_callSv cw_P_108 nh_P_putExponent pn_P_putExponent rfl (As := [.ref (ad 48), .int (iI e), .int (iI (lt : Int))]) (rest := []) rfl (Nat.le_of_ble_eq_true rfl) ⟨by decide, by decide⟩ rfl ⟨by decide, by decide⟩ d_P_putScientific_91 (c_P_putExponent hfl (k := 48) (w := ((wB ++ [chd 0 (dv (to + n - 1))]) ++ sgr dv 0 3 0 to (n - 1))) (hh := hh117) (e := e) (lt := lt) (by omega) ((cF_0 (by decide)).trans (by rw [va_up_self])) ((cF_0 (by decide)).trans (by rw [va_up_ne _ _ (by decide), va_up_self])) htx118 (by simp only [List.length_append, List.length_cons, List.length_nil, List.length_replicate]; omega) ⟨by omega, by omega⟩ (by omega)) (fun  F10 hq => ?_)
            obtain ⟨hh123, htx124, eF10⟩ := hq
            refine J_eqF (F2 := cF ad g (va_up (va_up F0 49 (.inl (g 1, 200, .inl (aI hh123)))) 48 (.inr (7, [.ref (ad 49), .int (iI (((((wB ++ [chd 0 (dv (to + n - 1))]) ++ sgr dv 0 3 0 to (n - 1)) ++ expT e lt).length : Nat) : Int))]))) W K S) (eF10.trans (Eq.trans (congrArg (fun qF : Nat → va_E => va_up qF 48 (.inr (7, [.ref (ad 49), .int (iI (((((wB ++ [chd 0 (dv (to + n - 1))]) ++ sgr dv 0 3 0 to (n - 1)) ++ expT e lt).length : Nat) : Int))]))) ((cF_up0 (by decide)).trans (congrArg (fun qq => cF ad g qq W K S) (up_in1 (by decide))))) ((cF_up0 (by decide)).trans (congrArg (fun qq => cF ad g qq W K S) (up_in0))))) ?_
            have eT125 : (((wB ++ [chd 0 (dv (to + n - 1))]) ++ sgr dv 0 3 0 to (n - 1)) ++ expT e lt) = wB ++ sciT dv to n sh e (exlt ty) := (by unfold sciT; rw [hlt, if_neg (by omega)]; simp only [List.append_assoc, List.nil_append])
            have htx126 : tx hh123 (wB ++ sciT dv to n sh e (exlt ty)) := eT125 ▸ htx124
            refine J_eqF (F2 := cF ad g (va_up (va_up F0 49 (.inl (g 1, 200, .inl (aI hh123)))) 48 (.inr (7, [.ref (ad 49), .int (iI (((wB ++ sciT dv to n sh e (exlt ty)).length : Nat) : Int))]))) W K S) (congrArg (fun qq : List Nat => cF ad g (va_up (va_up F0 49 (.inl (g 1, 200, .inl (aI hh123)))) 48 (oT ad 48 ((qq.length : Nat) : Int))) W K S) eT125) ?_
            refine J_vret rfl d_P_putScientific_94 ⟨by decide, by decide⟩ ?_
            exact ⟨rfl, rfl, rfl, _, htx126, rfl⟩
          exact lab91 101 (by unfold exlt; rw [if_neg (by omega)]) (by decide)
        · refine J_bipush d_P_putScientific_84 (i8_ok (by decide)) ?_
          refine J_goto (tgt := 91) d_P_putScientific_86 (by decide) ?_
          have lab91 : ∀ (lt : Nat) (hlt : exlt ty = lt) (hltb : lt < 128) , J l rm_P_putScientific (0, 0) "NumberTower$Pen" b_P_putScientific 3 (Option.none : Option Jvm.ClassFile.FieldType) D jCl (jTys g) A (fun _ me => me.name = y_P_putScientific.name) (jv ad N (fun F' => ∃ h0 : Nat → Int, tx h0 (wB ++ sciT dv to n sh e (exlt ty)) ∧ F' = cF ad g (va_up (va_up F0 49 (aT g h0)) 48 (oT ad 48 ((wB ++ sciT dv to n sh e (exlt ty)).length : Int))) W K S)) ad N 0 0 91 [(0, .ref (ad 43)), (1, .int (iI e)), (2, .ref (ad 42))] [.int (iI (lt : Int)), .int (iI e), .ref (ad 48)] (cF ad g (va_up (va_up F0 49 (.inl (g 1, 200, .inl (aI hh117)))) 48 (.inr (7, [.ref (ad 49), .int (iI ((((wB ++ [chd 0 (dv (to + n - 1))]) ++ sgr dv 0 3 0 to (n - 1)).length : Nat) : Int))]))) W K S) := by
            intro lt hlt hltb
            refine J_callSv cw_P_108 nh_P_putExponent pn_P_putExponent rfl (As := [.ref (ad 48), .int (iI e), .int (iI (lt : Int))]) (rest := []) rfl (Nat.le_of_ble_eq_true rfl) ⟨by decide, by decide⟩ rfl ⟨by decide, by decide⟩ d_P_putScientific_91 (c_P_putExponent hfl (k := 48) (w := ((wB ++ [chd 0 (dv (to + n - 1))]) ++ sgr dv 0 3 0 to (n - 1))) (hh := hh117) (e := e) (lt := lt) (by omega) ((cF_0 (by decide)).trans (by rw [va_up_self])) ((cF_0 (by decide)).trans (by rw [va_up_ne _ _ (by decide), va_up_self])) htx118 (by simp only [List.length_append, List.length_cons, List.length_nil, List.length_replicate]; omega) ⟨by omega, by omega⟩ (by omega)) (fun  F11 hq => ?_)
            obtain ⟨hh127, htx128, eF11⟩ := hq
            refine J_eqF (F2 := cF ad g (va_up (va_up F0 49 (.inl (g 1, 200, .inl (aI hh127)))) 48 (.inr (7, [.ref (ad 49), .int (iI (((((wB ++ [chd 0 (dv (to + n - 1))]) ++ sgr dv 0 3 0 to (n - 1)) ++ expT e lt).length : Nat) : Int))]))) W K S) (eF11.trans (Eq.trans (congrArg (fun qF : Nat → va_E => va_up qF 48 (.inr (7, [.ref (ad 49), .int (iI (((((wB ++ [chd 0 (dv (to + n - 1))]) ++ sgr dv 0 3 0 to (n - 1)) ++ expT e lt).length : Nat) : Int))]))) ((cF_up0 (by decide)).trans (congrArg (fun qq => cF ad g qq W K S) (up_in1 (by decide))))) ((cF_up0 (by decide)).trans (congrArg (fun qq => cF ad g qq W K S) (up_in0))))) ?_
            have eT129 : (((wB ++ [chd 0 (dv (to + n - 1))]) ++ sgr dv 0 3 0 to (n - 1)) ++ expT e lt) = wB ++ sciT dv to n sh e (exlt ty) := (by unfold sciT; rw [hlt, if_neg (by omega)]; simp only [List.append_assoc, List.nil_append])
            have htx130 : tx hh127 (wB ++ sciT dv to n sh e (exlt ty)) := eT129 ▸ htx128
            refine J_eqF (F2 := cF ad g (va_up (va_up F0 49 (.inl (g 1, 200, .inl (aI hh127)))) 48 (.inr (7, [.ref (ad 49), .int (iI (((wB ++ sciT dv to n sh e (exlt ty)).length : Nat) : Int))]))) W K S) (congrArg (fun qq : List Nat => cF ad g (va_up (va_up F0 49 (.inl (g 1, 200, .inl (aI hh127)))) 48 (oT ad 48 ((qq.length : Nat) : Int))) W K S) eT129) ?_
            refine J_vret rfl d_P_putScientific_94 ⟨by decide, by decide⟩ ?_
            exact ⟨rfl, rfl, rfl, _, htx130, rfl⟩
          exact lab91 69 (by unfold exlt; rw [if_pos (by omega)]) (by decide)
    · refine J_aload_n 0 d_P_putScientific_33 rfl rfl ?_
      refine gf_P_21 (by omega) ((cF_0 (by decide)).trans (by rw [va_up_ne _ _ (by decide), va_up_ne _ _ (by decide)]; exact hPn)) rfl d_P_putScientific_34 ?_
      refine J_bipush d_P_putScientific_37 (i8_ok (by decide)) ?_
      refine J_callVv cw_P_49 nh_T_put pn_T_put rfl rfl (by omega) ((cF_0 (by decide)).trans (by rw [va_up_self])) (As := [.int (iI 46)]) (rest := []) rfl (Nat.le_of_ble_eq_true rfl) ⟨by decide, by decide⟩ rfl ⟨by decide, by decide⟩ d_P_putScientific_39 (c_T_putN hfl (k := 48) (w := (wB ++ [chd 0 (dv (to + n - 1))])) (hh := hh99) (c := (46 : Nat)) (by omega) ((cF_0 (by decide)).trans (by rw [va_up_self])) ((cF_0 (by decide)).trans (by rw [va_up_ne _ _ (by decide), va_up_self])) htx100 (by simp only [List.length_append, List.length_cons, List.length_nil, List.length_replicate]; omega) (by omega)) (fun  F12 hq => ?_)
      obtain ⟨hh131, htx132, eF12⟩ := hq
      refine J_eqF (F2 := cF ad g (va_up (va_up F0 49 (.inl (g 1, 200, .inl (aI hh131)))) 48 (.inr (7, [.ref (ad 49), .int (iI ((((wB ++ [chd 0 (dv (to + n - 1))]) ++ [(46 : Nat)]).length : Nat) : Int))]))) W K S) (eF12.trans (Eq.trans (congrArg (fun qF : Nat → va_E => va_up qF 48 (.inr (7, [.ref (ad 49), .int (iI ((((wB ++ [chd 0 (dv (to + n - 1))]) ++ [(46 : Nat)]).length : Nat) : Int))]))) ((cF_up0 (by decide)).trans (congrArg (fun qq => cF ad g qq W K S) (up_in1 (by decide))))) ((cF_up0 (by decide)).trans (congrArg (fun qq => cF ad g qq W K S) (up_in0))))) ?_
      refine J_aload_n 0 d_P_putScientific_42 rfl rfl ?_
      refine gf_P_21 (by omega) ((cF_0 (by decide)).trans (by rw [va_up_ne _ _ (by decide), va_up_ne _ _ (by decide)]; exact hPn)) rfl d_P_putScientific_43 ?_
      refine J_aload_n 0 d_P_putScientific_46 rfl rfl ?_
      refine gf_P_24 (by omega) ((cF_0 (by decide)).trans (by rw [va_up_ne _ _ (by decide), va_up_ne _ _ (by decide)]; exact hPn)) rfl d_P_putScientific_47 ?_
      refine J_iconst d_P_putScientific_50 ?_
      refine J_aload_n 0 d_P_putScientific_51 rfl rfl ?_
      refine gf_P_24 (by omega) ((cF_0 (by decide)).trans (by rw [va_up_ne _ _ (by decide), va_up_ne _ _ (by decide)]; exact hPn)) rfl d_P_putScientific_52 ?_
      refine gf_P_88 (by omega) ((cF_0 (by decide)).trans (by rw [va_up_ne _ _ (by decide), va_up_ne _ _ (by decide)]; exact hTD)) rfl d_P_putScientific_55 ?_
      refine J_callVv cw_P_91 nh_T_putFrom pn_T_putFrom rfl rfl (by omega) ((cF_0 (by decide)).trans (by rw [va_up_self])) (As := [.ref (ad 50), .int (iI 1), .int (iI ((wD.length : Nat) : Int))]) (rest := []) rfl (Nat.le_of_ble_eq_true rfl) ⟨by decide, by decide⟩ rfl ⟨by decide, by decide⟩ d_P_putScientific_58 (c_T_putFromN hfl (k := 48) (m := 50) (w := ((wB ++ [chd 0 (dv (to + n - 1))]) ++ [(46 : Nat)])) (v := wD) (u := sgr dv 0 3 0 to (n - 1)) (hh := hh131) (yh := hD) (p := 1) (q := wD.length) (by omega) ((cF_0 (by decide)).trans (by rw [va_up_self])) ((cF_0 (by decide)).trans (by rw [va_up_ne _ _ (by decide), va_up_self])) htx132 (by simp only [List.length_append, List.length_cons, List.length_nil, List.length_replicate]; omega) (by omega) ((cF_0 (by decide)).trans (by rw [va_up_ne _ _ (by decide), va_up_ne _ _ (by decide)]; exact hTD)) ((cF_0 (by decide)).trans (by rw [va_up_ne _ _ (by decide), va_up_ne _ _ (by decide)]; exact hAD)) ttD hlD (by omega) (by omega) (by omega) (by rw [take_len, hwd]; exact sgr_drop (by omega)) (by simp only [List.length_append, List.length_cons, List.length_nil, List.length_replicate]; omega)) (fun  F13 hq => ?_)
      obtain ⟨hh133, htx134, eF13⟩ := hq
      refine J_eqF (F2 := cF ad g (va_up (va_up F0 49 (.inl (g 1, 200, .inl (aI hh133)))) 48 (.inr (7, [.ref (ad 49), .int (iI (((((wB ++ [chd 0 (dv (to + n - 1))]) ++ [(46 : Nat)]) ++ sgr dv 0 3 0 to (n - 1)).length : Nat) : Int))]))) W K S) (eF13.trans (Eq.trans (congrArg (fun qF : Nat → va_E => va_up qF 48 (.inr (7, [.ref (ad 49), .int (iI (((((wB ++ [chd 0 (dv (to + n - 1))]) ++ [(46 : Nat)]) ++ sgr dv 0 3 0 to (n - 1)).length : Nat) : Int))]))) ((cF_up0 (by decide)).trans (congrArg (fun qq => cF ad g qq W K S) (up_in1 (by decide))))) ((cF_up0 (by decide)).trans (congrArg (fun qq => cF ad g qq W K S) (up_in0))))) ?_
      refine J_aload_n 0 d_P_putScientific_61 rfl rfl ?_
      refine gf_P_21 (by omega) ((cF_0 (by decide)).trans (by rw [va_up_ne _ _ (by decide), va_up_ne _ _ (by decide)]; exact hPn)) rfl d_P_putScientific_62 ?_
      refine J_iload_n 1 d_P_putScientific_65 rfl rfl ?_
      refine J_aload_n 2 d_P_putScientific_66 rfl rfl ?_
      refine gf_P_188 (by omega) ((cF_0 (by decide)).trans (by rw [va_up_ne _ _ (by decide), va_up_ne _ _ (by decide)]; exact hSp)) rfl d_P_putScientific_67 ?_
      refine J_bipush d_P_putScientific_70 (i8_ok (by decide)) ?_
      refine J_if_icmpeq (tgt := 84) d_P_putScientific_72 (by decide) ⟨by omega, by omega⟩ ⟨by omega, by omega⟩ (fun c72 => ?_) (fun c72 => ?_)
      · refine J_bipush d_P_putScientific_84 (i8_ok (by decide)) ?_
        refine J_goto (tgt := 91) d_P_putScientific_86 (by decide) ?_
        have lab91 : ∀ (lt : Nat) (hlt : exlt ty = lt) (hltb : lt < 128) , J l rm_P_putScientific (0, 0) "NumberTower$Pen" b_P_putScientific 3 (Option.none : Option Jvm.ClassFile.FieldType) D jCl (jTys g) A (fun _ me => me.name = y_P_putScientific.name) (jv ad N (fun F' => ∃ h0 : Nat → Int, tx h0 (wB ++ sciT dv to n sh e (exlt ty)) ∧ F' = cF ad g (va_up (va_up F0 49 (aT g h0)) 48 (oT ad 48 ((wB ++ sciT dv to n sh e (exlt ty)).length : Int))) W K S)) ad N 0 0 91 [(0, .ref (ad 43)), (1, .int (iI e)), (2, .ref (ad 42))] [.int (iI (lt : Int)), .int (iI e), .ref (ad 48)] (cF ad g (va_up (va_up F0 49 (.inl (g 1, 200, .inl (aI hh133)))) 48 (.inr (7, [.ref (ad 49), .int (iI (((((wB ++ [chd 0 (dv (to + n - 1))]) ++ [(46 : Nat)]) ++ sgr dv 0 3 0 to (n - 1)).length : Nat) : Int))]))) W K S) := by
          intro lt hlt hltb
          refine J_callSv cw_P_108 nh_P_putExponent pn_P_putExponent rfl (As := [.ref (ad 48), .int (iI e), .int (iI (lt : Int))]) (rest := []) rfl (Nat.le_of_ble_eq_true rfl) ⟨by decide, by decide⟩ rfl ⟨by decide, by decide⟩ d_P_putScientific_91 (c_P_putExponent hfl (k := 48) (w := (((wB ++ [chd 0 (dv (to + n - 1))]) ++ [(46 : Nat)]) ++ sgr dv 0 3 0 to (n - 1))) (hh := hh133) (e := e) (lt := lt) (by omega) ((cF_0 (by decide)).trans (by rw [va_up_self])) ((cF_0 (by decide)).trans (by rw [va_up_ne _ _ (by decide), va_up_self])) htx134 (by simp only [List.length_append, List.length_cons, List.length_nil, List.length_replicate]; omega) ⟨by omega, by omega⟩ (by omega)) (fun  F14 hq => ?_)
          obtain ⟨hh135, htx136, eF14⟩ := hq
          refine J_eqF (F2 := cF ad g (va_up (va_up F0 49 (.inl (g 1, 200, .inl (aI hh135)))) 48 (.inr (7, [.ref (ad 49), .int (iI ((((((wB ++ [chd 0 (dv (to + n - 1))]) ++ [(46 : Nat)]) ++ sgr dv 0 3 0 to (n - 1)) ++ expT e lt).length : Nat) : Int))]))) W K S) (eF14.trans (Eq.trans (congrArg (fun qF : Nat → va_E => va_up qF 48 (.inr (7, [.ref (ad 49), .int (iI ((((((wB ++ [chd 0 (dv (to + n - 1))]) ++ [(46 : Nat)]) ++ sgr dv 0 3 0 to (n - 1)) ++ expT e lt).length : Nat) : Int))]))) ((cF_up0 (by decide)).trans (congrArg (fun qq => cF ad g qq W K S) (up_in1 (by decide))))) ((cF_up0 (by decide)).trans (congrArg (fun qq => cF ad g qq W K S) (up_in0))))) ?_
          have eT137 : ((((wB ++ [chd 0 (dv (to + n - 1))]) ++ [(46 : Nat)]) ++ sgr dv 0 3 0 to (n - 1)) ++ expT e lt) = wB ++ sciT dv to n sh e (exlt ty) := (by unfold sciT; rw [hlt, if_pos (by omega)]; simp only [List.append_assoc])
          have htx138 : tx hh135 (wB ++ sciT dv to n sh e (exlt ty)) := eT137 ▸ htx136
          refine J_eqF (F2 := cF ad g (va_up (va_up F0 49 (.inl (g 1, 200, .inl (aI hh135)))) 48 (.inr (7, [.ref (ad 49), .int (iI (((wB ++ sciT dv to n sh e (exlt ty)).length : Nat) : Int))]))) W K S) (congrArg (fun qq : List Nat => cF ad g (va_up (va_up F0 49 (.inl (g 1, 200, .inl (aI hh135)))) 48 (oT ad 48 ((qq.length : Nat) : Int))) W K S) eT137) ?_
          refine J_vret rfl d_P_putScientific_94 ⟨by decide, by decide⟩ ?_
          exact ⟨rfl, rfl, rfl, _, htx138, rfl⟩
        exact lab91 69 (by unfold exlt; rw [if_pos (by omega)]) (by decide)
      · refine J_aload_n 2 d_P_putScientific_75 rfl rfl ?_
        refine gf_P_188 (by omega) ((cF_0 (by decide)).trans (by rw [va_up_ne _ _ (by decide), va_up_ne _ _ (by decide)]; exact hSp)) rfl d_P_putScientific_76 ?_
        refine J_bipush d_P_putScientific_79 (i8_ok (by decide)) ?_
        refine J_if_icmpne (tgt := 89) d_P_putScientific_81 (by decide) ⟨by omega, by omega⟩ ⟨by omega, by omega⟩ (fun c81 => ?_) (fun c81 => ?_)
        · refine J_bipush d_P_putScientific_89 (i8_ok (by decide)) ?_
          have lab91 : ∀ (lt : Nat) (hlt : exlt ty = lt) (hltb : lt < 128) , J l rm_P_putScientific (0, 0) "NumberTower$Pen" b_P_putScientific 3 (Option.none : Option Jvm.ClassFile.FieldType) D jCl (jTys g) A (fun _ me => me.name = y_P_putScientific.name) (jv ad N (fun F' => ∃ h0 : Nat → Int, tx h0 (wB ++ sciT dv to n sh e (exlt ty)) ∧ F' = cF ad g (va_up (va_up F0 49 (aT g h0)) 48 (oT ad 48 ((wB ++ sciT dv to n sh e (exlt ty)).length : Int))) W K S)) ad N 0 0 91 [(0, .ref (ad 43)), (1, .int (iI e)), (2, .ref (ad 42))] [.int (iI (lt : Int)), .int (iI e), .ref (ad 48)] (cF ad g (va_up (va_up F0 49 (.inl (g 1, 200, .inl (aI hh133)))) 48 (.inr (7, [.ref (ad 49), .int (iI (((((wB ++ [chd 0 (dv (to + n - 1))]) ++ [(46 : Nat)]) ++ sgr dv 0 3 0 to (n - 1)).length : Nat) : Int))]))) W K S) := by
            intro lt hlt hltb
            refine J_callSv cw_P_108 nh_P_putExponent pn_P_putExponent rfl (As := [.ref (ad 48), .int (iI e), .int (iI (lt : Int))]) (rest := []) rfl (Nat.le_of_ble_eq_true rfl) ⟨by decide, by decide⟩ rfl ⟨by decide, by decide⟩ d_P_putScientific_91 (c_P_putExponent hfl (k := 48) (w := (((wB ++ [chd 0 (dv (to + n - 1))]) ++ [(46 : Nat)]) ++ sgr dv 0 3 0 to (n - 1))) (hh := hh133) (e := e) (lt := lt) (by omega) ((cF_0 (by decide)).trans (by rw [va_up_self])) ((cF_0 (by decide)).trans (by rw [va_up_ne _ _ (by decide), va_up_self])) htx134 (by simp only [List.length_append, List.length_cons, List.length_nil, List.length_replicate]; omega) ⟨by omega, by omega⟩ (by omega)) (fun  F15 hq => ?_)
            obtain ⟨hh139, htx140, eF15⟩ := hq
            refine J_eqF (F2 := cF ad g (va_up (va_up F0 49 (.inl (g 1, 200, .inl (aI hh139)))) 48 (.inr (7, [.ref (ad 49), .int (iI ((((((wB ++ [chd 0 (dv (to + n - 1))]) ++ [(46 : Nat)]) ++ sgr dv 0 3 0 to (n - 1)) ++ expT e lt).length : Nat) : Int))]))) W K S) (eF15.trans (Eq.trans (congrArg (fun qF : Nat → va_E => va_up qF 48 (.inr (7, [.ref (ad 49), .int (iI ((((((wB ++ [chd 0 (dv (to + n - 1))]) ++ [(46 : Nat)]) ++ sgr dv 0 3 0 to (n - 1)) ++ expT e lt).length : Nat) : Int))]))) ((cF_up0 (by decide)).trans (congrArg (fun qq => cF ad g qq W K S) (up_in1 (by decide))))) ((cF_up0 (by decide)).trans (congrArg (fun qq => cF ad g qq W K S) (up_in0))))) ?_
            have eT141 : ((((wB ++ [chd 0 (dv (to + n - 1))]) ++ [(46 : Nat)]) ++ sgr dv 0 3 0 to (n - 1)) ++ expT e lt) = wB ++ sciT dv to n sh e (exlt ty) := (by unfold sciT; rw [hlt, if_pos (by omega)]; simp only [List.append_assoc])
            have htx142 : tx hh139 (wB ++ sciT dv to n sh e (exlt ty)) := eT141 ▸ htx140
            refine J_eqF (F2 := cF ad g (va_up (va_up F0 49 (.inl (g 1, 200, .inl (aI hh139)))) 48 (.inr (7, [.ref (ad 49), .int (iI (((wB ++ sciT dv to n sh e (exlt ty)).length : Nat) : Int))]))) W K S) (congrArg (fun qq : List Nat => cF ad g (va_up (va_up F0 49 (.inl (g 1, 200, .inl (aI hh139)))) 48 (oT ad 48 ((qq.length : Nat) : Int))) W K S) eT141) ?_
            refine J_vret rfl d_P_putScientific_94 ⟨by decide, by decide⟩ ?_
            exact ⟨rfl, rfl, rfl, _, htx142, rfl⟩
          exact lab91 101 (by unfold exlt; rw [if_neg (by omega)]) (by decide)
        · refine J_bipush d_P_putScientific_84 (i8_ok (by decide)) ?_
          refine J_goto (tgt := 91) d_P_putScientific_86 (by decide) ?_
          have lab91 : ∀ (lt : Nat) (hlt : exlt ty = lt) (hltb : lt < 128) , J l rm_P_putScientific (0, 0) "NumberTower$Pen" b_P_putScientific 3 (Option.none : Option Jvm.ClassFile.FieldType) D jCl (jTys g) A (fun _ me => me.name = y_P_putScientific.name) (jv ad N (fun F' => ∃ h0 : Nat → Int, tx h0 (wB ++ sciT dv to n sh e (exlt ty)) ∧ F' = cF ad g (va_up (va_up F0 49 (aT g h0)) 48 (oT ad 48 ((wB ++ sciT dv to n sh e (exlt ty)).length : Int))) W K S)) ad N 0 0 91 [(0, .ref (ad 43)), (1, .int (iI e)), (2, .ref (ad 42))] [.int (iI (lt : Int)), .int (iI e), .ref (ad 48)] (cF ad g (va_up (va_up F0 49 (.inl (g 1, 200, .inl (aI hh133)))) 48 (.inr (7, [.ref (ad 49), .int (iI (((((wB ++ [chd 0 (dv (to + n - 1))]) ++ [(46 : Nat)]) ++ sgr dv 0 3 0 to (n - 1)).length : Nat) : Int))]))) W K S) := by
            intro lt hlt hltb
            refine J_callSv cw_P_108 nh_P_putExponent pn_P_putExponent rfl (As := [.ref (ad 48), .int (iI e), .int (iI (lt : Int))]) (rest := []) rfl (Nat.le_of_ble_eq_true rfl) ⟨by decide, by decide⟩ rfl ⟨by decide, by decide⟩ d_P_putScientific_91 (c_P_putExponent hfl (k := 48) (w := (((wB ++ [chd 0 (dv (to + n - 1))]) ++ [(46 : Nat)]) ++ sgr dv 0 3 0 to (n - 1))) (hh := hh133) (e := e) (lt := lt) (by omega) ((cF_0 (by decide)).trans (by rw [va_up_self])) ((cF_0 (by decide)).trans (by rw [va_up_ne _ _ (by decide), va_up_self])) htx134 (by simp only [List.length_append, List.length_cons, List.length_nil, List.length_replicate]; omega) ⟨by omega, by omega⟩ (by omega)) (fun  F16 hq => ?_)
            obtain ⟨hh143, htx144, eF16⟩ := hq
            refine J_eqF (F2 := cF ad g (va_up (va_up F0 49 (.inl (g 1, 200, .inl (aI hh143)))) 48 (.inr (7, [.ref (ad 49), .int (iI ((((((wB ++ [chd 0 (dv (to + n - 1))]) ++ [(46 : Nat)]) ++ sgr dv 0 3 0 to (n - 1)) ++ expT e lt).length : Nat) : Int))]))) W K S) (eF16.trans (Eq.trans (congrArg (fun qF : Nat → va_E => va_up qF 48 (.inr (7, [.ref (ad 49), .int (iI ((((((wB ++ [chd 0 (dv (to + n - 1))]) ++ [(46 : Nat)]) ++ sgr dv 0 3 0 to (n - 1)) ++ expT e lt).length : Nat) : Int))]))) ((cF_up0 (by decide)).trans (congrArg (fun qq => cF ad g qq W K S) (up_in1 (by decide))))) ((cF_up0 (by decide)).trans (congrArg (fun qq => cF ad g qq W K S) (up_in0))))) ?_
            have eT145 : ((((wB ++ [chd 0 (dv (to + n - 1))]) ++ [(46 : Nat)]) ++ sgr dv 0 3 0 to (n - 1)) ++ expT e lt) = wB ++ sciT dv to n sh e (exlt ty) := (by unfold sciT; rw [hlt, if_pos (by omega)]; simp only [List.append_assoc])
            have htx146 : tx hh143 (wB ++ sciT dv to n sh e (exlt ty)) := eT145 ▸ htx144
            refine J_eqF (F2 := cF ad g (va_up (va_up F0 49 (.inl (g 1, 200, .inl (aI hh143)))) 48 (.inr (7, [.ref (ad 49), .int (iI (((wB ++ sciT dv to n sh e (exlt ty)).length : Nat) : Int))]))) W K S) (congrArg (fun qq : List Nat => cF ad g (va_up (va_up F0 49 (.inl (g 1, 200, .inl (aI hh143)))) 48 (oT ad 48 ((qq.length : Nat) : Int))) W K S) eT145) ?_
            refine J_vret rfl d_P_putScientific_94 ⟨by decide, by decide⟩ ?_
            exact ⟨rfl, rfl, rfl, _, htx146, rfl⟩
          exact lab91 69 (by unfold exlt; rw [if_pos (by omega)]) (by decide)
