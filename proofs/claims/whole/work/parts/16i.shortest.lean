/-! the class writes: the shortest digits of a real -/

theorem sb_some {u d i U2 V : Nat} {E : Int} (hU2 : U2 = 10 ^ (18 - (i + 1))) (hi : i ≤ 16) (hsg : shG u d E 17 1 = shG u d E (17 - i) (i + 1)) (h : some V = (shN u d E (i + 1)).map (· * U2)) : V = (shG u d E 17 1).2 * 10 ^ (18 - (shG u d E 17 1).1) := by
  cases hs : shN u d E (i + 1) with
  | none => rw [hs] at h; exact absurd h (by simp)
  | some H =>
    rw [hs] at h
    have h2 : some V = some (H * U2) := h
    injection h2 with h3
    rw [hsg, show 17 - i = 16 - i + 1 by omega, shF_s hs, h3, hU2]
theorem sb_none {u d i U2 : Nat} {E : Int} (h17 : shN u d E 17 ≠ none) (hi : i ≤ 16) (hsg : shG u d E 17 1 = shG u d E (17 - i) (i + 1)) (h : none = (shN u d E (i + 1)).map (· * U2)) : i + 1 ≤ 16 ∧ shG u d E 17 1 = shG u d E (17 - (i + 1)) (i + 1 + 1) := by
  cases hs : shN u d E (i + 1) with
  | some H => rw [hs] at h; exact absurd h (by simp)
  | none =>
    have h16 : i ≠ 16 := by
      intro q
      rw [q] at hs
      exact h17 hs
    refine ⟨by omega, ?_⟩
    rw [hsg, show 17 - i = 17 - (i + 1) + 1 by omega, shF_n hs]
theorem dgR_ch (H j : Nat) : (dgR H).getD j 0 < 128 := by
  by_cases c : j < (dgR H).length
  · unfold dgR at c ⊢
    rw [sgr_1] at c
    rw [getD_sgr _ _ c, chd_d]
    have := dgv_10 H (lz10 H + (ndg 10 H - lz10 H) - 1 - j)
    omega
  · rw [List.getD_eq_getElem?_getD, List.getElem?_eq_none (by omega)]
    decide
theorem leX_tb {u d : Nat} {E tb : Int} (hu : 0 < u) (hd : 0 < d) (hX : isX u d E) (hlo : d * 2 ^ tb.toNat ≤ u * 2 ^ (-tb).toNat) (hhi : u * 2 ^ (-(tb + 1)).toNat < d * 2 ^ (tb + 1).toNat) (h : -160 ≤ tb ∧ tb < 160) : leX tb ≤ E ∧ E ≤ leX tb + 1 := by
  obtain ⟨l1, l2, -⟩ := leX_dec h
  refine ⟨isX_ge hu hX (rch_ge l1 hlo), ?_⟩
  have := isX_lt hu hX (rch_lt l2 hhi)
  omega
/-- a real between powers of 2 -/
theorem real_btw {u d M kd : Nat} {e0 : Int} (hM : 4503599627370496 ≤ M ∧ M < 9007199254740992) (hd : d = 2 ^ kd) (hr0 : su M e0 * d = u * sd 1 e0) : d * 2 ^ (52 + e0).toNat ≤ u * 2 ^ (-(52 + e0)).toNat ∧ u * 2 ^ (-(52 + e0 + 1)).toNat < d * 2 ^ (52 + e0 + 1).toNat := by
  have h1 : M * 2 ^ e0.toNat * d = u * 2 ^ (-e0).toNat := by
    have := hr0
    unfold su sd at this
    rw [Nat.one_mul] at this
    exact this
  have hd0 : 0 < d := by rw [hd]; exact Nat.two_pow_pos _
  constructor
  · apply Nat.le_of_mul_le_mul_right (c := 2 ^ (-e0).toNat) ?_ (Nat.two_pow_pos _)
    have a1 : u * 2 ^ (-(52 + e0)).toNat * 2 ^ (-e0).toNat = M * (2 ^ e0.toNat * 2 ^ (-(52 + e0)).toNat) * d := by
      rw [Nat.mul_right_comm, ← h1]; ac_rfl
    have a2 : d * 2 ^ (52 + e0).toNat * 2 ^ (-e0).toNat = 2 ^ 52 * (2 ^ e0.toNat * 2 ^ (-(52 + e0)).toNat) * d := by
      rw [Nat.mul_assoc, ← Nat.pow_add, ← Nat.pow_add, ← Nat.pow_add, Nat.mul_comm d]
      congr 2
      omega
    rw [a1, a2]
    exact Nat.mul_le_mul_right _ (Nat.mul_le_mul_right _ hM.1)
  · apply Nat.lt_of_mul_lt_mul_right (a := 2 ^ (-e0).toNat)
    have a1 : u * 2 ^ (-(52 + e0 + 1)).toNat * 2 ^ (-e0).toNat = M * (2 ^ e0.toNat * 2 ^ (-(52 + e0 + 1)).toNat) * d := by
      rw [Nat.mul_right_comm, ← h1]; ac_rfl
    have a2 : d * 2 ^ (52 + e0 + 1).toNat * 2 ^ (-e0).toNat = 2 ^ 53 * (2 ^ e0.toNat * 2 ^ (-(52 + e0 + 1)).toNat) * d := by
      rw [Nat.mul_assoc, ← Nat.pow_add, ← Nat.pow_add, ← Nat.pow_add, Nat.mul_comm d]
      congr 2
      omega
    rw [a1, a2]
    exact Nat.mul_lt_mul_of_pos_right (Nat.mul_lt_mul_of_pos_right hM.2 (Nat.mul_pos (Nat.two_pow_pos _) (Nat.two_pow_pos _))) hd0
theorem mid_lt {u d M : Nat} {e0 e : Int} (hM : 0 < M) (hd : 0 < d) (hr : 4 * M * 2 ^ (e0 - 2).toNat * d = u * 2 ^ (-(e0 - 2)).toNat) : sfA (4 * M) (e0 - 2) (17 - e) / sfB (e0 - 2) (17 - e) < 10 ^ 18 ↔ ¬ rch u d (e + 1) := by
  have hB := sfB_pos (e0 - 2) (17 - e)
  rw [Nat.div_lt_iff_lt_mul hB, (sf_lt (n := 4 * M) (G := 10 ^ 18) (te := 17 - e) hM hd hr).1]
  have e1 : 4 * M * (u * 10 ^ (17 - e).toNat) < 4 * M * (10 ^ 18 * (d * 10 ^ (-(17 - e)).toNat)) ↔ u * 10 ^ (17 - e).toNat < 10 ^ 18 * (d * 10 ^ (-(17 - e)).toNat) :=
    ⟨fun h => Nat.lt_of_mul_lt_mul_left h, fun h => Nat.mul_lt_mul_of_pos_left h (by omega)⟩
  rw [e1]
  have h2 := rch_k (u := u) (d := d) (e := e + 1) (k := 18)
  rw [show ((18 : Nat) : Int) - (e + 1) = 17 - e by omega] at h2
  rw [h2, Nat.not_le]
set_option maxRecDepth 100000 in
set_option maxHeartbeats 4000000 in
theorem c_P_shortestBetween {l : Launch} (hfl : l.flags = flags0) {D : va_G} {g : Nat → ClassId} {ad : Nat → Nat} {N : Nat} {F0 : Nat → va_E} {W : Nat → Nat} {K S : Nat → Int}  {u d lo hi mid ex : Nat} {E : Int}
    (hN : 109 ≤ N) (hW : bW W)  (hw : shW u d E lo hi mid ex) (hd : 0 < d) (h17 : shN u d E 17 ≠ none) (hbig : 10 ^ 17 ≤ mid) (hmid : mid < 10 ^ 18) (hlo : lo ≤ 9000000000000000000) (hhi : hi ≤ 9000000000000000000) (hex : ex ≤ 1) :
    JC l y_P_shortestBetween b_P_shortestBetween 14 (Option.some Jvm.ClassFile.FieldType.long) rm_P_shortestBetween (0, 0) D jCl (jTys g) ad N (cF ad g F0 W K S) [.long (lI (lo : Int)), .long (lI (hi : Int)), .long (lI (mid : Int)), .int (iI (ex : Int))] (jl ad N (fun z F' => z = (((shG u d E 17 1).2 * 10 ^ (18 - (shG u d E 17 1).1) : Nat) : Int) ∧ F' = cF ad g F0 W K S)) := by
  refine JC.go hfl (own := "NumberTower$Pen") (lv := [(0, .long (lI (lo : Int))), (2, .long (lI (hi : Int))), (4, .long (lI (mid : Int))), (6, .int (iI (ex : Int)))]) rfl (by decide +kernel) (Nat.le_of_ble_eq_true rfl) rfl (fun A => ?_)
  refine J_ldc2 (z := 1000000000000000000) d_P_shortestBetween_0 wd_852 (by decide) ?_
  refine J_lstore (lv' := [(7, .long (lI 1000000000000000000)), (0, .long (lI (lo : Int))), (2, .long (lI (hi : Int))), (4, .long (lI (mid : Int))), (6, .int (iI (ex : Int)))]) d_P_shortestBetween_3 (by decide) rfl ?_
  refine J_iconst d_P_shortestBetween_5 ?_
  refine J_istore (lv' := [(9, .int (iI 0)), (7, .long (lI 1000000000000000000)), (0, .long (lI (lo : Int))), (2, .long (lI (hi : Int))), (4, .long (lI (mid : Int))), (6, .int (iI (ex : Int)))]) d_P_shortestBetween_6 (by decide) rfl ?_
  refine J_pick (lv' := [(0, .long (lI (lo : Int))), (2, .long (lI (hi : Int))), (4, .long (lI (mid : Int))), (6, .int (iI (ex : Int))), (7, .long (lI 1000000000000000000)), (9, .int (iI 0))]) [2, 3, 4, 5, 1, 0] rfl ?_
  have loop8 : ∀ (fuel : Nat) (i : Nat) (un : Nat) (hi16 : i ≤ 16) (hun : un = 10 ^ (18 - i)) (hsg : shG u d E 17 1 = shG u d E (17 - i) (i + 1)) (hfu : 17 - i < fuel), J l rm_P_shortestBetween (0, 0) "NumberTower$Pen" b_P_shortestBetween 14 (Option.some Jvm.ClassFile.FieldType.long) D jCl (jTys g) A (fun _ me => me.name = y_P_shortestBetween.name) (jl ad N (fun z F' => z = (((shG u d E 17 1).2 * 10 ^ (18 - (shG u d E 17 1).1) : Nat) : Int) ∧ F' = cF ad g F0 W K S)) ad N 0 0 8 [(0, .long (lI (lo : Int))), (2, .long (lI (hi : Int))), (4, .long (lI (mid : Int))), (6, .int (iI (ex : Int))), (7, .long (lI (un : Int))), (9, .int (iI (i : Int)))] [] (cF ad g F0 W K S) := by
    intro fuel
    induction fuel with
    | zero => intro i un hi16 hun hsg hfu; exact absurd hfu (Nat.not_lt_zero _)
    | succ fuel ih =>
      intro i un hi16 hun hsg hfu
      have hunb : un ≤ 1000000000000000000 := by rw [hun]; exact Nat.le_trans (Nat.pow_le_pow_right (by decide) (show 18 - i ≤ 18 by omega)) (by decide)
      refine J_iload 5 d_P_shortestBetween_8 rfl ?_
      refine J_bipush d_P_shortestBetween_10 (i8_ok (by decide)) ?_
      refine J_if_icmpge (tgt := 109) d_P_shortestBetween_12 (by decide) ⟨by omega, by omega⟩ ⟨by omega, by omega⟩ (fun c12 => ?_) (fun c12 => ?_)
      · exact absurd c12 (by omega)
      · refine J_lload 4 d_P_shortestBetween_15 rfl ?_
        refine J_ldc2 (z := 10) d_P_shortestBetween_17 wd_859 (by decide) ?_
        refine J_ldivn d_P_shortestBetween_20 (by omega) (by omega) ?_
        obtain ⟨U2, hU2⟩ : ∃ U2, U2 = 10 ^ (18 - (i + 1)) := ⟨_, rfl⟩
        have hun2 : un = U2 * 10 := by rw [hun, hU2, ← Nat.pow_succ]; congr 1; omega
        have hU2a : 1 ≤ U2 := by rw [hU2]; exact Nat.pow_pos (by decide)
        have hU2b : U2 ≤ 100000000000000000 := by rw [hU2]; exact Nat.le_trans (Nat.pow_le_pow_right (by decide) (show 18 - (i + 1) ≤ 17 by omega)) (by decide)
        refine J_topl (r := (U2 : Int)) (congrArg lI (by omega)) ?_
        refine J_lstore (lv' := [(7, .long (lI (U2 : Int))), (0, .long (lI (lo : Int))), (2, .long (lI (hi : Int))), (4, .long (lI (mid : Int))), (6, .int (iI (ex : Int))), (9, .int (iI (i : Int)))]) d_P_shortestBetween_21 (by decide) rfl ?_
        refine J_lload 0 d_P_shortestBetween_23 rfl ?_
        refine J_lconst (v := 1) d_P_shortestBetween_25 rfl ?_
        refine J_lcmpge (tgt := 33) d_P_shortestBetween_26 d_P_shortestBetween_27 (by decide) ⟨by omega, by omega⟩ ⟨by omega, by omega⟩ (fun c26 => ?_) (fun c26 => ?_)
        · refine J_lload 3 d_P_shortestBetween_33 rfl ?_
          refine J_lload 3 d_P_shortestBetween_35 rfl ?_
          refine J_lload 0 d_P_shortestBetween_37 rfl ?_
          refine J_lremn d_P_shortestBetween_39 (by omega) (by omega) ?_
          obtain ⟨rm, hrm⟩ : ∃ rm, rm = mid % U2 := ⟨_, rfl⟩
          have hrm1 : rm ≤ mid := by rw [hrm]; exact Nat.mod_le _ _
          have hrm2 : rm < U2 := by rw [hrm]; exact Nat.mod_lt _ hU2a
          obtain ⟨bel, hbel⟩ : ∃ bel, bel = mid - rm := ⟨_, rfl⟩
          have hst := sb_step (m := i + 1) hw hd ⟨by omega, by omega⟩ hbig
          unfold sbS at hst
          rw [← hU2, ← hrm, ← hbel] at hst
          replace hst : hold _ := hst
          refine J_topl (r := (rm : Int)) (congrArg lI (by rw [hrm]; rfl)) ?_
          refine J_lsub d_P_shortestBetween_40 ?_
          refine J_topl (r := (bel : Int)) (congrArg lI (by omega)) ?_
          refine J_lstore (lv' := [(10, .long (lI (bel : Int))), (7, .long (lI (U2 : Int))), (0, .long (lI (lo : Int))), (2, .long (lI (hi : Int))), (4, .long (lI (mid : Int))), (6, .int (iI (ex : Int))), (9, .int (iI (i : Int)))]) d_P_shortestBetween_41 (by decide) rfl ?_
          refine J_lload 0 d_P_shortestBetween_43 rfl ?_
          refine J_lload 1 d_P_shortestBetween_45 rfl ?_
          refine J_ladd d_P_shortestBetween_47 ?_
          refine J_lstore (lv' := [(12, .long (lI ((bel : Int) + (U2 : Int)))), (10, .long (lI (bel : Int))), (7, .long (lI (U2 : Int))), (0, .long (lI (lo : Int))), (2, .long (lI (hi : Int))), (4, .long (lI (mid : Int))), (6, .int (iI (ex : Int))), (9, .int (iI (i : Int)))]) d_P_shortestBetween_48 (by decide) rfl ?_
          refine J_lload 1 d_P_shortestBetween_50 rfl ?_
          refine J_lload_n 3 d_P_shortestBetween_52 rfl rfl ?_
          refine J_lcmpge (tgt := 67) d_P_shortestBetween_53 d_P_shortestBetween_54 (by decide) ⟨by omega, by omega⟩ ⟨by omega, by omega⟩ (fun c53 => ?_) (fun c53 => ?_)
          · refine J_lload 1 d_P_shortestBetween_67 rfl ?_
            refine J_lload_n 3 d_P_shortestBetween_69 rfl rfl ?_
            refine J_lcmplt (tgt := 84) d_P_shortestBetween_70 d_P_shortestBetween_71 (by decide) ⟨by omega, by omega⟩ ⟨by omega, by omega⟩ (fun c70 => ?_) (fun c70 => ?_)
            · refine J_lload 1 d_P_shortestBetween_84 rfl ?_
              refine J_lload_n 3 d_P_shortestBetween_86 rfl rfl ?_
              refine J_lcmplt (tgt := 103) d_P_shortestBetween_87 d_P_shortestBetween_88 (by decide) ⟨by omega, by omega⟩ ⟨by omega, by omega⟩ (fun c87 => ?_) (fun c87 => ?_)
              · have h2 := hst
                unfold hold at h2
                rw [if_neg (by omega), if_neg (by omega), if_neg (by omega)] at h2
                have hst3 := sb_none h17 hi16 hsg h2
                refine J_iinc (j := 7) (b := (i : Int) + 1) (lv' := [(9, .int (iI ((i : Int) + 1))), (12, .long (lI ((bel : Int) + (U2 : Int)))), (10, .long (lI (bel : Int))), (7, .long (lI (U2 : Int))), (0, .long (lI (lo : Int))), (2, .long (lI (hi : Int))), (4, .long (lI (mid : Int))), (6, .int (iI (ex : Int)))]) d_P_shortestBetween_103 rfl (by omega) (by decide) rfl ?_
                refine J_goto (tgt := 8) d_P_shortestBetween_106 (by decide) ?_
                refine J_pick (lv' := [(0, .long (lI (lo : Int))), (2, .long (lI (hi : Int))), (4, .long (lI (mid : Int))), (6, .int (iI (ex : Int))), (7, .long (lI (U2 : Int))), (9, .int (iI ((i : Int) + 1)))]) [4, 5, 6, 7, 3, 0] rfl ?_
                exact ih (i + 1) U2 hst3.1 hU2 hst3.2 (by have := hst3.1; omega)
              · refine J_lload 1 d_P_shortestBetween_91 rfl ?_
                refine J_lload 2 d_P_shortestBetween_93 rfl ?_
                refine J_lload 5 d_P_shortestBetween_95 rfl ?_
                refine J_iload 6 d_P_shortestBetween_97 rfl ?_
                refine J_callSl cw_P_177 nh_P_nearerOf pn_P_nearerOf rfl (As := [.long (lI (bel : Int)), .long (lI (U2 : Int)), .long (lI (mid : Int)), .int (iI (ex : Int))]) (rest := []) rfl (Nat.le_of_ble_eq_true rfl) ⟨by decide, by decide⟩ rfl ⟨by decide, by decide⟩ d_P_shortestBetween_99 (c_P_nearerOf hfl (F0 := F0) (W := W) (K := K) (S := S) (below := bel) (unit := U2) (mid := mid) (ex := ex) hN hW (by omega) (by omega) ⟨hU2a, hU2b⟩ (by omega) hex) (fun nr F1 hq => ?_)
                obtain ⟨hnr, eF1⟩ := hq
                refine J_eqF eF1 ?_
                refine J_topl (r := (((nrB bel U2 mid ex) : Nat) : Int)) (congrArg lI hnr) ?_
                refine J_lret rfl d_P_shortestBetween_102 ⟨by decide, by decide⟩ ?_
                exact ⟨_, rfl, rfl, rfl, (by
                  have h2 := hst
                  unfold hold at h2
                  rw [if_neg (by omega), if_neg (by omega), if_pos (by omega)] at h2
                  exact Eq.trans (by rfl) (congrArg (fun qq : Nat => (qq : Int)) (sb_some hU2 hi16 hsg h2))), rfl⟩
            · refine J_lload 0 d_P_shortestBetween_74 rfl ?_
              refine J_lload_n 4 d_P_shortestBetween_76 rfl rfl ?_
              refine J_lcmple (tgt := 84) d_P_shortestBetween_77 d_P_shortestBetween_78 (by decide) ⟨by omega, by omega⟩ ⟨by omega, by omega⟩ (fun c77 => ?_) (fun c77 => ?_)
              · refine J_lload 1 d_P_shortestBetween_84 rfl ?_
                refine J_lload_n 3 d_P_shortestBetween_86 rfl rfl ?_
                refine J_lcmplt (tgt := 103) d_P_shortestBetween_87 d_P_shortestBetween_88 (by decide) ⟨by omega, by omega⟩ ⟨by omega, by omega⟩ (fun c87 => ?_) (fun c87 => ?_)
                · have h2 := hst
                  unfold hold at h2
                  rw [if_neg (by omega), if_neg (by omega), if_neg (by omega)] at h2
                  have hst3 := sb_none h17 hi16 hsg h2
                  refine J_iinc (j := 7) (b := (i : Int) + 1) (lv' := [(9, .int (iI ((i : Int) + 1))), (12, .long (lI ((bel : Int) + (U2 : Int)))), (10, .long (lI (bel : Int))), (7, .long (lI (U2 : Int))), (0, .long (lI (lo : Int))), (2, .long (lI (hi : Int))), (4, .long (lI (mid : Int))), (6, .int (iI (ex : Int)))]) d_P_shortestBetween_103 rfl (by omega) (by decide) rfl ?_
                  refine J_goto (tgt := 8) d_P_shortestBetween_106 (by decide) ?_
                  refine J_pick (lv' := [(0, .long (lI (lo : Int))), (2, .long (lI (hi : Int))), (4, .long (lI (mid : Int))), (6, .int (iI (ex : Int))), (7, .long (lI (U2 : Int))), (9, .int (iI ((i : Int) + 1)))]) [4, 5, 6, 7, 3, 0] rfl ?_
                  exact ih (i + 1) U2 hst3.1 hU2 hst3.2 (by have := hst3.1; omega)
                · refine J_lload 1 d_P_shortestBetween_91 rfl ?_
                  refine J_lload 2 d_P_shortestBetween_93 rfl ?_
                  refine J_lload 5 d_P_shortestBetween_95 rfl ?_
                  refine J_iload 6 d_P_shortestBetween_97 rfl ?_
                  refine J_callSl cw_P_177 nh_P_nearerOf pn_P_nearerOf rfl (As := [.long (lI (bel : Int)), .long (lI (U2 : Int)), .long (lI (mid : Int)), .int (iI (ex : Int))]) (rest := []) rfl (Nat.le_of_ble_eq_true rfl) ⟨by decide, by decide⟩ rfl ⟨by decide, by decide⟩ d_P_shortestBetween_99 (c_P_nearerOf hfl (F0 := F0) (W := W) (K := K) (S := S) (below := bel) (unit := U2) (mid := mid) (ex := ex) hN hW (by omega) (by omega) ⟨hU2a, hU2b⟩ (by omega) hex) (fun nr F2 hq => ?_)
                  obtain ⟨hnr, eF2⟩ := hq
                  refine J_eqF eF2 ?_
                  refine J_topl (r := (((nrB bel U2 mid ex) : Nat) : Int)) (congrArg lI hnr) ?_
                  refine J_lret rfl d_P_shortestBetween_102 ⟨by decide, by decide⟩ ?_
                  exact ⟨_, rfl, rfl, rfl, (by
                    have h2 := hst
                    unfold hold at h2
                    rw [if_neg (by omega), if_neg (by omega), if_pos (by omega)] at h2
                    exact Eq.trans (by rfl) (congrArg (fun qq : Nat => (qq : Int)) (sb_some hU2 hi16 hsg h2))), rfl⟩
              · refine J_lload 1 d_P_shortestBetween_81 rfl ?_
                refine J_lret rfl d_P_shortestBetween_83 ⟨by decide, by decide⟩ ?_
                exact ⟨_, rfl, rfl, rfl, (by
                  have h2 := hst
                  unfold hold at h2
                  rw [if_neg (by omega), if_pos ⟨by omega, by omega⟩] at h2
                  exact Eq.trans (by rfl) (congrArg (fun qq : Nat => (qq : Int)) (sb_some hU2 hi16 hsg h2))), rfl⟩
          · refine J_lload 0 d_P_shortestBetween_57 rfl ?_
            refine J_lload_n 4 d_P_shortestBetween_59 rfl rfl ?_
            refine J_lcmpgt (tgt := 67) d_P_shortestBetween_60 d_P_shortestBetween_61 (by decide) ⟨by omega, by omega⟩ ⟨by omega, by omega⟩ (fun c60 => ?_) (fun c60 => ?_)
            · refine J_lload 1 d_P_shortestBetween_67 rfl ?_
              refine J_lload_n 3 d_P_shortestBetween_69 rfl rfl ?_
              refine J_lcmplt (tgt := 84) d_P_shortestBetween_70 d_P_shortestBetween_71 (by decide) ⟨by omega, by omega⟩ ⟨by omega, by omega⟩ (fun c70 => ?_) (fun c70 => ?_)
              · refine J_lload 1 d_P_shortestBetween_84 rfl ?_
                refine J_lload_n 3 d_P_shortestBetween_86 rfl rfl ?_
                refine J_lcmplt (tgt := 103) d_P_shortestBetween_87 d_P_shortestBetween_88 (by decide) ⟨by omega, by omega⟩ ⟨by omega, by omega⟩ (fun c87 => ?_) (fun c87 => ?_)
                · have h2 := hst
                  unfold hold at h2
                  rw [if_neg (by omega), if_neg (by omega), if_neg (by omega)] at h2
                  have hst3 := sb_none h17 hi16 hsg h2
                  refine J_iinc (j := 7) (b := (i : Int) + 1) (lv' := [(9, .int (iI ((i : Int) + 1))), (12, .long (lI ((bel : Int) + (U2 : Int)))), (10, .long (lI (bel : Int))), (7, .long (lI (U2 : Int))), (0, .long (lI (lo : Int))), (2, .long (lI (hi : Int))), (4, .long (lI (mid : Int))), (6, .int (iI (ex : Int)))]) d_P_shortestBetween_103 rfl (by omega) (by decide) rfl ?_
                  refine J_goto (tgt := 8) d_P_shortestBetween_106 (by decide) ?_
                  refine J_pick (lv' := [(0, .long (lI (lo : Int))), (2, .long (lI (hi : Int))), (4, .long (lI (mid : Int))), (6, .int (iI (ex : Int))), (7, .long (lI (U2 : Int))), (9, .int (iI ((i : Int) + 1)))]) [4, 5, 6, 7, 3, 0] rfl ?_
                  exact ih (i + 1) U2 hst3.1 hU2 hst3.2 (by have := hst3.1; omega)
                · refine J_lload 1 d_P_shortestBetween_91 rfl ?_
                  refine J_lload 2 d_P_shortestBetween_93 rfl ?_
                  refine J_lload 5 d_P_shortestBetween_95 rfl ?_
                  refine J_iload 6 d_P_shortestBetween_97 rfl ?_
                  refine J_callSl cw_P_177 nh_P_nearerOf pn_P_nearerOf rfl (As := [.long (lI (bel : Int)), .long (lI (U2 : Int)), .long (lI (mid : Int)), .int (iI (ex : Int))]) (rest := []) rfl (Nat.le_of_ble_eq_true rfl) ⟨by decide, by decide⟩ rfl ⟨by decide, by decide⟩ d_P_shortestBetween_99 (c_P_nearerOf hfl (F0 := F0) (W := W) (K := K) (S := S) (below := bel) (unit := U2) (mid := mid) (ex := ex) hN hW (by omega) (by omega) ⟨hU2a, hU2b⟩ (by omega) hex) (fun nr F3 hq => ?_)
                  obtain ⟨hnr, eF3⟩ := hq
                  refine J_eqF eF3 ?_
                  refine J_topl (r := (((nrB bel U2 mid ex) : Nat) : Int)) (congrArg lI hnr) ?_
                  refine J_lret rfl d_P_shortestBetween_102 ⟨by decide, by decide⟩ ?_
                  exact ⟨_, rfl, rfl, rfl, (by
                    have h2 := hst
                    unfold hold at h2
                    rw [if_neg (by omega), if_neg (by omega), if_pos (by omega)] at h2
                    exact Eq.trans (by rfl) (congrArg (fun qq : Nat => (qq : Int)) (sb_some hU2 hi16 hsg h2))), rfl⟩
              · refine J_lload 0 d_P_shortestBetween_74 rfl ?_
                refine J_lload_n 4 d_P_shortestBetween_76 rfl rfl ?_
                refine J_lcmple (tgt := 84) d_P_shortestBetween_77 d_P_shortestBetween_78 (by decide) ⟨by omega, by omega⟩ ⟨by omega, by omega⟩ (fun c77 => ?_) (fun c77 => ?_)
                · refine J_lload 1 d_P_shortestBetween_84 rfl ?_
                  refine J_lload_n 3 d_P_shortestBetween_86 rfl rfl ?_
                  refine J_lcmplt (tgt := 103) d_P_shortestBetween_87 d_P_shortestBetween_88 (by decide) ⟨by omega, by omega⟩ ⟨by omega, by omega⟩ (fun c87 => ?_) (fun c87 => ?_)
                  · have h2 := hst
                    unfold hold at h2
                    rw [if_neg (by omega), if_neg (by omega), if_neg (by omega)] at h2
                    have hst3 := sb_none h17 hi16 hsg h2
                    refine J_iinc (j := 7) (b := (i : Int) + 1) (lv' := [(9, .int (iI ((i : Int) + 1))), (12, .long (lI ((bel : Int) + (U2 : Int)))), (10, .long (lI (bel : Int))), (7, .long (lI (U2 : Int))), (0, .long (lI (lo : Int))), (2, .long (lI (hi : Int))), (4, .long (lI (mid : Int))), (6, .int (iI (ex : Int)))]) d_P_shortestBetween_103 rfl (by omega) (by decide) rfl ?_
                    refine J_goto (tgt := 8) d_P_shortestBetween_106 (by decide) ?_
                    refine J_pick (lv' := [(0, .long (lI (lo : Int))), (2, .long (lI (hi : Int))), (4, .long (lI (mid : Int))), (6, .int (iI (ex : Int))), (7, .long (lI (U2 : Int))), (9, .int (iI ((i : Int) + 1)))]) [4, 5, 6, 7, 3, 0] rfl ?_
                    exact ih (i + 1) U2 hst3.1 hU2 hst3.2 (by have := hst3.1; omega)
                  · refine J_lload 1 d_P_shortestBetween_91 rfl ?_
                    refine J_lload 2 d_P_shortestBetween_93 rfl ?_
                    refine J_lload 5 d_P_shortestBetween_95 rfl ?_
                    refine J_iload 6 d_P_shortestBetween_97 rfl ?_
                    refine J_callSl cw_P_177 nh_P_nearerOf pn_P_nearerOf rfl (As := [.long (lI (bel : Int)), .long (lI (U2 : Int)), .long (lI (mid : Int)), .int (iI (ex : Int))]) (rest := []) rfl (Nat.le_of_ble_eq_true rfl) ⟨by decide, by decide⟩ rfl ⟨by decide, by decide⟩ d_P_shortestBetween_99 (c_P_nearerOf hfl (F0 := F0) (W := W) (K := K) (S := S) (below := bel) (unit := U2) (mid := mid) (ex := ex) hN hW (by omega) (by omega) ⟨hU2a, hU2b⟩ (by omega) hex) (fun nr F4 hq => ?_)
                    obtain ⟨hnr, eF4⟩ := hq
                    refine J_eqF eF4 ?_
                    refine J_topl (r := (((nrB bel U2 mid ex) : Nat) : Int)) (congrArg lI hnr) ?_
                    refine J_lret rfl d_P_shortestBetween_102 ⟨by decide, by decide⟩ ?_
                    exact ⟨_, rfl, rfl, rfl, (by
                      have h2 := hst
                      unfold hold at h2
                      rw [if_neg (by omega), if_neg (by omega), if_pos (by omega)] at h2
                      exact Eq.trans (by rfl) (congrArg (fun qq : Nat => (qq : Int)) (sb_some hU2 hi16 hsg h2))), rfl⟩
                · refine J_lload 1 d_P_shortestBetween_81 rfl ?_
                  refine J_lret rfl d_P_shortestBetween_83 ⟨by decide, by decide⟩ ?_
                  exact ⟨_, rfl, rfl, rfl, (by
                    have h2 := hst
                    unfold hold at h2
                    rw [if_neg (by omega), if_pos ⟨by omega, by omega⟩] at h2
                    exact Eq.trans (by rfl) (congrArg (fun qq : Nat => (qq : Int)) (sb_some hU2 hi16 hsg h2))), rfl⟩
            · refine J_lload 0 d_P_shortestBetween_64 rfl ?_
              refine J_lret rfl d_P_shortestBetween_66 ⟨by decide, by decide⟩ ?_
              exact ⟨_, rfl, rfl, rfl, (by
                have h2 := hst
                unfold hold at h2
                rw [if_pos ⟨by omega, by omega⟩] at h2
                exact Eq.trans (by rfl) (congrArg (fun qq : Nat => (qq : Int)) (sb_some hU2 hi16 hsg h2))), rfl⟩
        · exact absurd c26 (by omega)
  exact loop8 ((17 - 0) + 1) 0 1000000000000000000 (by decide) (by decide) rfl (Nat.lt_succ_self _)
set_option maxRecDepth 100000 in
set_option maxHeartbeats 4000000 in
theorem c_P_setShortestDigits {l : Launch} (hfl : l.flags = flags0) {D : va_G} {g : Nat → ClassId} {ad : Nat → Nat} {N : Nat} {F0 : Nat → va_E} {W : Nat → Nat} {K S : Nat → Int} {ex : Int} {wD : List Nat} {hD : Nat → Int} {p u d : Nat} {s1 s2 : Int}
    (hN : 109 ≤ N) (hW : bW W) (hPn : F0 43 = oP ad ex) (hTD : F0 50 = oT ad 50 (wD.length : Int)) (hAD : F0 51 = aT g hD) (ttD : tx hD wD) (hlD : wD.length ≤ 200) (hp : isU p) (hp2 : 58 ≤ p) (hu : W (p + 1) = u) (hd : W (p + 3) = d) (hre : near s1 u d = some (2, s2, u, d)) (hb : u < 2 ^ 154 ∧ d < 2 ^ 154) (hu0 : 0 < u) (hd0 : 0 < d) :
    JC l y_P_setShortestDigits b_P_setShortestDigits 18 (Option.some Jvm.ClassFile.FieldType.int) rm_P_setShortestDigits (0, 0) D jCl (jTys g) ad N (cF ad g F0 W K S) [.ref (ad 43), .ref (ad p)] (ji ad N (fun z F' => z = shE u d ∧ (-60 ≤ z ∧ z ≤ 60) ∧ 0 < (shR u d).2 ∧ (1 ≤ (dgR (shR u d).2).length ∧ (dgR (shR u d).2).length ≤ 20) ∧ ∃ (W' : Nat → Nat) (h' : Nat → Int) (ex' : Int), bW W' ∧ tx h' (dgR (shR u d).2) ∧ (∀ j, j ≠ 52 → j ≠ 54 → j ≠ 56 → W' j = W j) ∧ F' = cF ad g (va_up (va_up (va_up F0 43 (oP ad ex')) 51 (aT g h')) 50 (oT ad 50 ((dgR (shR u d).2).length : Int))) W' K S)) := by
  have hp4 := (isU_1 hp).1
  obtain ⟨M, e0, -, hM, he0, hr0, hlu, hld⟩ := lead_real hre hd0 hu0
  obtain ⟨kd, hkd, -⟩ := real_k hre hd0
  obtain ⟨hr, htb1, h4⟩ := real_two hM hkd hr0
  obtain ⟨hbt1, hbt2⟩ := real_btw hM hkd hr0
  obtain ⟨tb, htb⟩ : ∃ tb, tb = 52 + e0 := ⟨_, rfl⟩
  rw [← htb] at hbt1 hbt2
  have hbl1 : blen u ≤ 154 := blen_le.mpr hb.1
  have hbl2 : blen d ≤ 154 := blen_le.mpr hb.2
  obtain ⟨E, hEb1, hEb2, hX⟩ := isX_o hu0 hd0 hb
  obtain ⟨hE1, hE2⟩ := leX_tb hu0 hd0 hX hbt1 hbt2 ⟨by omega, by omega⟩
  have hushl : u * 2 ^ (55 - (blen u : Int)).toNat < 2 ^ 480 := Nat.lt_of_lt_of_le (Nat.mul_lt_mul_of_lt_of_le hb.1 (Nat.pow_le_pow_right (by decide) (show (55 - (blen u : Int)).toNat ≤ 55 by omega)) (Nat.two_pow_pos _)) (by decide +kernel)
  refine JC.go hfl (own := "NumberTower$Pen") (lv := [(0, .ref (ad 43)), (1, .ref (ad p))]) rfl (by decide +kernel) (Nat.le_of_ble_eq_true rfl) rfl (fun A => ?_)
  refine J_aload_n 1 d_P_setShortestDigits_0 rfl rfl ?_
  refine gf_P_67 (by omega) (cF_U hp rfl rfl) rfl d_P_setShortestDigits_1 ?_
  refine J_callVi cw_P_120 nh_N_bits pn_N_bits rfl rfl (by omega) (cF_N (isU_1 hp).2.1 hu) (As := []) (rest := []) rfl (Nat.le_of_ble_eq_true rfl) ⟨by decide, by decide⟩ rfl ⟨by decide, by decide⟩ d_P_setShortestDigits_4 (n_bits hfl (F0 := F0) (W := W) (K := K) (S := S) (k := p + 1) (hN := by omega) (hW := hW) (hk := (isU_1 hp).2.1) (x := u) (hx := hu)) (fun z61 F1 hq => ?_)
  obtain ⟨hz61, eF1⟩ := hq
  refine J_eqF eF1 ?_
  refine J_topi (r := (((blen u : Nat)) : Int)) (congrArg iI hz61) ?_
  refine J_aload_n 1 d_P_setShortestDigits_7 rfl rfl ?_
  refine gf_P_74 (by omega) (cF_U hp rfl rfl) rfl d_P_setShortestDigits_8 ?_
  refine J_callVi cw_P_120 nh_N_bits pn_N_bits rfl rfl (by omega) (cF_N (isU_1 hp).2.2 hd) (As := []) (rest := [.int (iI (((blen u : Nat)) : Int))]) rfl (Nat.le_of_ble_eq_true rfl) ⟨by decide, by decide⟩ rfl ⟨by decide, by decide⟩ d_P_setShortestDigits_11 (n_bits hfl (F0 := F0) (W := W) (K := K) (S := S) (k := p + 3) (hN := by omega) (hW := hW) (hk := (isU_1 hp).2.2) (x := d) (hx := hd)) (fun z62 F2 hq => ?_)
  obtain ⟨hz62, eF2⟩ := hq
  refine J_eqF eF2 ?_
  refine J_topi (r := (((blen d : Nat)) : Int)) (congrArg iI hz62) ?_
  refine J_isub d_P_setShortestDigits_14 ?_
  refine J_topi (r := tb) (congrArg iI (by omega)) ?_
  refine J_istore_n (lv' := [(2, .int (iI tb)), (0, .ref (ad 43)), (1, .ref (ad p))]) d_P_setShortestDigits_15 rfl (by decide) rfl ?_
  refine J_iload_n 0 d_P_setShortestDigits_16 rfl rfl ?_
  refine J_bipush d_P_setShortestDigits_17 (i8_ok (by decide)) ?_
  refine J_isub d_P_setShortestDigits_19 ?_
  refine J_topi (r := (e0 - 2)) (congrArg iI (by omega)) ?_
  refine J_istore_n (lv' := [(3, .int (iI (e0 - 2))), (2, .int (iI tb)), (0, .ref (ad 43)), (1, .ref (ad p))]) d_P_setShortestDigits_20 rfl (by decide) rfl ?_
  refine J_aload_n 2 d_P_setShortestDigits_21 rfl rfl ?_
  refine gf_P_30 (by omega) ((cF_0 (by decide)).trans hPn) rfl d_P_setShortestDigits_22 ?_
  refine J_aload_n 3 d_P_setShortestDigits_25 rfl rfl ?_
  refine gf_P_67 (by omega) (cF_U hp rfl rfl) rfl d_P_setShortestDigits_26 ?_
  refine J_callVv cw_P_81 nh_N_copyFrom pn_N_copyFrom rfl rfl (by omega) (cF_N (by decide) rfl) (As := [.ref (ad (p + 1))]) (rest := []) rfl (Nat.le_of_ble_eq_true rfl) ⟨by decide, by decide⟩ rfl ⟨by decide, by decide⟩ d_P_setShortestDigits_29 (n_copyFrom hfl (F0 := F0) (W := W) (K := K) (S := S) (k := 52) (m := p + 1) (hN := by omega) (hW := hW) (hk := (by decide)) (hm := (isU_1 hp).2.1) (x := u) (hx := hu) (hd := (by omega))) (fun  F66 hq => ?_)
  obtain ⟨hW64, eF65⟩ := hq
  refine J_eqF (F2 := cF ad g F0 (va_up W 52 u) K S) eF65 ?_
  refine J_aload_n 2 d_P_setShortestDigits_32 rfl rfl ?_
  refine gf_P_30 (by omega) ((cF_0 (by decide)).trans hPn) rfl d_P_setShortestDigits_33 ?_
  refine J_bipush d_P_setShortestDigits_36 (i8_ok (by decide)) ?_
  refine J_aload_n 3 d_P_setShortestDigits_38 rfl rfl ?_
  refine gf_P_67 (by omega) (cF_U hp rfl rfl) rfl d_P_setShortestDigits_39 ?_
  refine J_callVi cw_P_120 nh_N_bits pn_N_bits rfl rfl (by omega) (cF_N (isU_1 hp).2.1 ((va_up_ne _ _ (by omega)).trans hu)) (As := []) (rest := [.int (iI 55), .ref (ad 52)]) rfl (Nat.le_of_ble_eq_true rfl) ⟨by decide, by decide⟩ rfl ⟨by decide, by decide⟩ d_P_setShortestDigits_42 (n_bits hfl (F0 := F0) (W := va_up W 52 u) (K := K) (S := S) (k := p + 1) (hN := by omega) (hW := hW64) (hk := (isU_1 hp).2.1) (x := u) (hx := ((va_up_ne _ _ (by omega)).trans hu))) (fun z67 F3 hq => ?_)
  obtain ⟨hz67, eF3⟩ := hq
  refine J_eqF eF3 ?_
  refine J_topi (r := (((blen u : Nat)) : Int)) (congrArg iI hz67) ?_
  refine J_isub d_P_setShortestDigits_45 ?_
  refine J_callVv cw_P_123 nh_N_shiftUp pn_N_shiftUp rfl rfl (by omega) (cF_N (by decide) (va_up_self ..)) (As := [.int (iI (55 - (((blen u : Nat)) : Int)))]) (rest := []) rfl (Nat.le_of_ble_eq_true rfl) ⟨by decide, by decide⟩ rfl ⟨by decide, by decide⟩ d_P_setShortestDigits_46 (n_shiftUp hfl (F0 := F0) (W := va_up W 52 u) (K := K) (S := S) (k := 52) (n := 55 - (((blen u : Nat)) : Int)) (hN := by omega) (hW := hW64) (hk := (by decide)) (x := u) (hx := (va_up_self ..)) (hn := ⟨by omega, by omega⟩) (ht := hushl)) (fun  F71 hq => ?_)
  obtain ⟨hW69, eF70⟩ := hq
  have hW72 := (congrArg bW (up_in0)).mp hW69
  refine J_eqF (F2 := cF ad g F0 (va_up W 52 (u * 2 ^ ((55 - (((blen u : Nat)) : Int)).toNat))) K S) (eF70.trans (congrArg (fun qq => cF ad g F0 qq K S) (up_in0))) ?_
  refine J_aload_n 2 d_P_setShortestDigits_49 rfl rfl ?_
  refine gf_P_30 (by omega) ((cF_0 (by decide)).trans hPn) rfl d_P_setShortestDigits_50 ?_
  refine J_aload_n 3 d_P_setShortestDigits_53 rfl rfl ?_
  refine gf_P_67 (by omega) (cF_U hp rfl rfl) rfl d_P_setShortestDigits_54 ?_
  refine J_callVi cw_P_120 nh_N_bits pn_N_bits rfl rfl (by omega) (cF_N (isU_1 hp).2.1 ((va_up_ne _ _ (by omega)).trans hu)) (As := []) (rest := [.ref (ad 52)]) rfl (Nat.le_of_ble_eq_true rfl) ⟨by decide, by decide⟩ rfl ⟨by decide, by decide⟩ d_P_setShortestDigits_57 (n_bits hfl (F0 := F0) (W := va_up W 52 (u * 2 ^ ((55 - (((blen u : Nat)) : Int)).toNat))) (K := K) (S := S) (k := p + 1) (hN := by omega) (hW := hW72) (hk := (isU_1 hp).2.1) (x := u) (hx := ((va_up_ne _ _ (by omega)).trans hu))) (fun z73 F4 hq => ?_)
  obtain ⟨hz73, eF4⟩ := hq
  refine J_eqF eF4 ?_
  refine J_topi (r := (((blen u : Nat)) : Int)) (congrArg iI hz73) ?_
  refine J_bipush d_P_setShortestDigits_60 (i8_ok (by decide)) ?_
  refine J_isub d_P_setShortestDigits_62 ?_
  refine J_callVv cw_P_126 nh_N_shiftDown pn_N_shiftDown rfl rfl (by omega) (cF_N (by decide) (va_up_self ..)) (As := [.int (iI ((((blen u : Nat)) : Int) - 55))]) (rest := []) rfl (Nat.le_of_ble_eq_true rfl) ⟨by decide, by decide⟩ rfl ⟨by decide, by decide⟩ d_P_setShortestDigits_63 (n_shiftDown hfl (F0 := F0) (W := va_up W 52 (u * 2 ^ ((55 - (((blen u : Nat)) : Int)).toNat))) (K := K) (S := S) (k := 52) (n := (((blen u : Nat)) : Int) - 55) (hN := by omega) (hW := hW72) (hk := (by decide)) (x := u * 2 ^ ((55 - (((blen u : Nat)) : Int)).toNat)) (hx := (va_up_self ..)) (hn := ⟨by omega, by omega⟩)) (fun  F77 hq => ?_)
  obtain ⟨hW75, eF76⟩ := hq
  have hW78 := (congrArg bW (up_in0)).mp hW75
  refine J_eqF (F2 := cF ad g F0 (va_up W 52 ((u * 2 ^ ((55 - (((blen u : Nat)) : Int)).toNat)) / 2 ^ (((((blen u : Nat)) : Int) - 55).toNat))) K S) (eF76.trans (congrArg (fun qq => cF ad g F0 qq K S) (up_in0))) ?_
  have hW79 := (congrArg (fun qq : Nat => bW (va_up W 52 qq)) (show ((u * 2 ^ ((55 - (((blen u : Nat)) : Int)).toNat)) / 2 ^ (((((blen u : Nat)) : Int) - 55).toNat)) = (4 * M) from h4)).mp hW78
  refine J_eqF (F2 := cF ad g F0 (va_up W 52 (4 * M)) K S) (congrArg (fun qq : Nat => cF ad g F0 (va_up W 52 qq) K S) (show ((u * 2 ^ ((55 - (((blen u : Nat)) : Int)).toNat)) / 2 ^ (((((blen u : Nat)) : Int) - 55).toNat)) = (4 * M) from h4)) ?_
  refine J_aload_n 2 d_P_setShortestDigits_66 rfl rfl ?_
  refine gf_P_30 (by omega) ((cF_0 (by decide)).trans hPn) rfl d_P_setShortestDigits_67 ?_
  refine J_callVl cw_P_129 nh_N_toLong pn_N_toLong rfl rfl (by omega) (cF_N (by decide) (va_up_self ..)) (As := []) (rest := []) rfl (Nat.le_of_ble_eq_true rfl) ⟨by decide, by decide⟩ rfl ⟨by decide, by decide⟩ d_P_setShortestDigits_70 (n_toLong hfl (F0 := F0) (W := va_up W 52 (4 * M)) (K := K) (S := S) (k := 52) (hN := by omega) (hW := hW79) (hk := (by decide)) (x := 4 * M) (hx := (va_up_self ..)) (h63 := (by omega))) (fun z80 F5 hq => ?_)
  obtain ⟨hz80, eF5⟩ := hq
  refine J_eqF eF5 ?_
  refine J_topl (r := ((4 * M : Nat) : Int)) (congrArg lI hz80) ?_
  refine J_lstore (lv' := [(4, .long (lI ((4 * M : Nat) : Int))), (3, .int (iI (e0 - 2))), (2, .int (iI tb)), (0, .ref (ad 43)), (1, .ref (ad p))]) d_P_setShortestDigits_73 (by decide) rfl ?_
  refine J_iload_n 2 d_P_setShortestDigits_75 rfl rfl ?_
  refine J_callSi cw_P_133 nh_P_leastExponent pn_P_leastExponent rfl (As := [.int (iI tb)]) (rest := []) rfl (Nat.le_of_ble_eq_true rfl) ⟨by decide, by decide⟩ rfl ⟨by decide, by decide⟩ d_P_setShortestDigits_76 (c_P_leastExponent hfl (F0 := F0) (W := va_up W 52 (4 * M)) (K := K) (S := S) (a := tb) hN hW79 ⟨by omega, by omega⟩) (fun le F6 hq => ?_)
  obtain ⟨hle, eF6⟩ := hq
  refine J_eqF eF6 ?_
  obtain ⟨el, hel⟩ : ∃ el, el = leX tb := ⟨_, rfl⟩
  rw [← hel] at hE1 hE2
  have helb : -40 ≤ el ∧ el ≤ 40 := by rw [hel]; unfold leX; omega
  have hsf : ∀ (n : Nat) (e : Int), n < 2 ^ 56 → el ≤ e → sfA n (e0 - 2) (17 - e) / sfB (e0 - 2) (17 - e) < 9000000000000000000 := by
    intro n e h1 h2
    have := sf_63 (n := n) (B := tb) (e := e) ⟨by omega, by omega⟩ h1 (by rw [← hel]; exact h2)
    rw [show tb - 54 = e0 - 2 by omega] at this
    exact this
  refine J_topi (r := el) (congrArg iI (hle.trans hel.symm)) ?_
  refine J_istore (lv' := [(6, .int (iI el)), (4, .long (lI ((4 * M : Nat) : Int))), (3, .int (iI (e0 - 2))), (2, .int (iI tb)), (0, .ref (ad 43)), (1, .ref (ad p))]) d_P_setShortestDigits_79 (by decide) rfl ?_
  refine J_aload_n 4 d_P_setShortestDigits_81 rfl rfl ?_
  refine J_lload 1 d_P_setShortestDigits_82 rfl ?_
  refine J_iload_n 2 d_P_setShortestDigits_84 rfl rfl ?_
  refine J_bipush d_P_setShortestDigits_85 (i8_ok (by decide)) ?_
  refine J_iload 0 d_P_setShortestDigits_87 rfl ?_
  refine J_isub d_P_setShortestDigits_89 ?_
  refine J_callVl cw_P_136 nh_P_scaledFloor pn_P_scaledFloor rfl rfl (by omega) ((cF_0 (by decide)).trans hPn) (As := [.long (lI ((4 * M : Nat) : Int)), .int (iI (e0 - 2)), .int (iI (17 - el))]) (rest := []) rfl (Nat.le_of_ble_eq_true rfl) ⟨by decide, by decide⟩ rfl ⟨by decide, by decide⟩ d_P_setShortestDigits_90 (c_P_scaledFloor hfl (F0 := F0) (W := va_up W 52 (4 * M)) (K := K) (S := S) (ex := ex) (n := 4 * M) (tw := e0 - 2) (te := 17 - el) hN hW79 (hPn) (by omega) ⟨by omega, by omega⟩ ⟨by omega, by omega⟩ (hsf _ _ (by omega) (by omega))) (fun z85 F86 hq => ?_)
  obtain ⟨hz85, W81, hW82, hf83, eF84⟩ := hq
  refine J_eqF (F2 := cF ad g (va_up F0 43 (.inr (4, [.ref (ad 44), .ref (ad 46), .ref (ad 48), .ref (ad 50), .ref (ad 52), .ref (ad 54), .ref (ad 56), .int (iI ((exV (sfA (4 * M) (e0 - 2) (17 - el)) (sfB (e0 - 2) (17 - el)) : Nat) : Int))]))) W81 K S) eF84 ?_
  refine J_topl (r := (((sfA (4 * M) (e0 - 2) (17 - el) / sfB (e0 - 2) (17 - el)) : Nat) : Int)) (congrArg lI hz85) ?_
  obtain ⟨md, hmd⟩ : ∃ md, md = sfA (4 * M) (e0 - 2) (17 - el) / sfB (e0 - 2) (17 - el) := ⟨_, rfl⟩
  have hsmd := hsf (4 * M) el (by omega) (by omega)
  rw [← hmd] at hsmd
  refine J_topl (r := (md : Int)) (congrArg lI (by rw [hmd])) ?_
  refine J_lstore (lv' := [(7, .long (lI (md : Int))), (6, .int (iI el)), (4, .long (lI ((4 * M : Nat) : Int))), (3, .int (iI (e0 - 2))), (2, .int (iI tb)), (0, .ref (ad 43)), (1, .ref (ad p))]) d_P_setShortestDigits_93 (by decide) rfl ?_
  have lab121 : ∀ (e : Int) (mid : Nat) (ex : Nat) (W1 : Nat → Nat) (heE : e = E) (hmid : mid = sfA (4 * M) (e0 - 2) (17 - e) / sfB (e0 - 2) (17 - e)) (hex : ex = exV (sfA (4 * M) (e0 - 2) (17 - e)) (sfB (e0 - 2) (17 - e))) (hW1 : bW W1) (hf1 : ∀ j, j ≠ 52 → j ≠ 54 → j ≠ 56 → W1 j = W j) , J l rm_P_setShortestDigits (0, 0) "NumberTower$Pen" b_P_setShortestDigits 18 (Option.some Jvm.ClassFile.FieldType.int) D jCl (jTys g) A (fun _ me => me.name = y_P_setShortestDigits.name) (ji ad N (fun z F' => z = shE u d ∧ (-60 ≤ z ∧ z ≤ 60) ∧ 0 < (shR u d).2 ∧ (1 ≤ (dgR (shR u d).2).length ∧ (dgR (shR u d).2).length ≤ 20) ∧ ∃ (W' : Nat → Nat) (h' : Nat → Int) (ex' : Int), bW W' ∧ tx h' (dgR (shR u d).2) ∧ (∀ j, j ≠ 52 → j ≠ 54 → j ≠ 56 → W' j = W j) ∧ F' = cF ad g (va_up (va_up (va_up F0 43 (oP ad ex')) 51 (aT g h')) 50 (oT ad 50 ((dgR (shR u d).2).length : Int))) W' K S)) ad N 0 0 121 [(0, .ref (ad 43)), (1, .ref (ad p)), (2, .int (iI tb)), (3, .int (iI (e0 - 2))), (4, .long (lI ((4 * M : Nat) : Int))), (6, .int (iI e)), (7, .long (lI (mid : Int)))] [] (cF ad g (va_up F0 43 (.inr (4, [.ref (ad 44), .ref (ad 46), .ref (ad 48), .ref (ad 50), .ref (ad 52), .ref (ad 54), .ref (ad 56), .int (iI (ex : Int))]))) W1 K S) := by
    intro e mid ex W1 heE hmid hex hW1 hf1
    rw [← heE] at hX
    obtain ⟨hw, hbig, hm18⟩ := shW_mk (ev := if M % 2 = 0 then 1 else 0) hu0 hd0 hM he0 hr0 hlu hld hr hX rfl
    have h17 : shN u d e 17 ≠ none := shN_17 (n := -e0) (M := M) hu0 hd0 hM ⟨by omega, by omega⟩ (by rw [Int.neg_neg]; exact hr0) (by rw [Int.neg_neg]; exact hlu) (by rw [Int.neg_neg]; exact hld) hX
    have hxp : expo u d = e := expo_eq hu0 hX
    have hsf2 := hsf (4 * M) e (by omega) (by omega)
    have hsf3 := hsf (LM M) e (by unfold LM; split <;> omega) (by omega)
    have hsf4 := hsf (4 * M + 2) e (by omega) (by omega)
    rw [← hmid] at hbig hm18 hw
    rw [← hex] at hw
    have hexb : ex ≤ 1 := by rw [hex]; exact exV_b _ _
    refine J_aload_n 0 d_P_setShortestDigits_121 rfl rfl ?_
    refine gf_P_142 (by omega) ((cF_0 (by decide)).trans (by rw [va_up_self])) rfl d_P_setShortestDigits_122 ?_
    refine J_istore (lv' := [(9, .int (iI (ex : Int))), (0, .ref (ad 43)), (1, .ref (ad p)), (2, .int (iI tb)), (3, .int (iI (e0 - 2))), (4, .long (lI ((4 * M : Nat) : Int))), (6, .int (iI e)), (7, .long (lI (mid : Int)))]) d_P_setShortestDigits_125 (by decide) rfl ?_
    have lab143 : ∀ (ev : Nat) (hev : ev = if M % 2 = 0 then 1 else 0) , J l rm_P_setShortestDigits (0, 0) "NumberTower$Pen" b_P_setShortestDigits 18 (Option.some Jvm.ClassFile.FieldType.int) D jCl (jTys g) A (fun _ me => me.name = y_P_setShortestDigits.name) (ji ad N (fun z F' => z = shE u d ∧ (-60 ≤ z ∧ z ≤ 60) ∧ 0 < (shR u d).2 ∧ (1 ≤ (dgR (shR u d).2).length ∧ (dgR (shR u d).2).length ≤ 20) ∧ ∃ (W' : Nat → Nat) (h' : Nat → Int) (ex' : Int), bW W' ∧ tx h' (dgR (shR u d).2) ∧ (∀ j, j ≠ 52 → j ≠ 54 → j ≠ 56 → W' j = W j) ∧ F' = cF ad g (va_up (va_up (va_up F0 43 (oP ad ex')) 51 (aT g h')) 50 (oT ad 50 ((dgR (shR u d).2).length : Int))) W' K S)) ad N 0 0 143 [(0, .ref (ad 43)), (1, .ref (ad p)), (3, .int (iI (e0 - 2))), (4, .long (lI ((4 * M : Nat) : Int))), (6, .int (iI e)), (7, .long (lI (mid : Int))), (9, .int (iI (ex : Int)))] [.int (iI (ev : Int))] (cF ad g (va_up F0 43 (.inr (4, [.ref (ad 44), .ref (ad 46), .ref (ad 48), .ref (ad 50), .ref (ad 52), .ref (ad 54), .ref (ad 56), .int (iI (ex : Int))]))) W1 K S) := by
      intro ev hev
      rw [← hev] at hw
      have hevb : ev ≤ 1 := by rw [hev]; split <;> omega
      obtain ⟨lo, hlo⟩ : ∃ lo, lo = loB (sfA (LM M) (e0 - 2) (17 - e)) (sfB (e0 - 2) (17 - e)) ev := ⟨_, rfl⟩
      obtain ⟨hi, hhi⟩ : ∃ hi, hi = hiB (sfA (4 * M + 2) (e0 - 2) (17 - e)) (sfB (e0 - 2) (17 - e)) ev := ⟨_, rfl⟩
      rw [← hlo, ← hhi] at hw
      obtain ⟨fl, hfl1⟩ : ∃ fl, fl = sfA (LM M) (e0 - 2) (17 - e) / sfB (e0 - 2) (17 - e) := ⟨_, rfl⟩
      obtain ⟨fh, hfh1⟩ : ∃ fh, fh = sfA (4 * M + 2) (e0 - 2) (17 - e) / sfB (e0 - 2) (17 - e) := ⟨_, rfl⟩
      rw [← hfl1] at hsf3
      rw [← hfh1] at hsf4
      have hlo9 : lo ≤ fl + 1 := by rw [hlo, hfl1]; unfold loB; split <;> omega
      have hhi9 : hi ≤ fh := by rw [hhi, hfh1]; unfold hiB; omega
      have hxb1 := exV_b (sfA (LM M) (e0 - 2) (17 - e)) (sfB (e0 - 2) (17 - e))
      have hxb2 := exV_b (sfA (4 * M + 2) (e0 - 2) (17 - e)) (sfB (e0 - 2) (17 - e))
      have hhi8 : mid ≤ hi := hw.2.2.2.1
      have hbg : 100000000000000000 ≤ mid := hbig
      refine J_istore (lv' := [(10, .int (iI (ev : Int))), (0, .ref (ad 43)), (1, .ref (ad p)), (3, .int (iI (e0 - 2))), (4, .long (lI ((4 * M : Nat) : Int))), (6, .int (iI e)), (7, .long (lI (mid : Int))), (9, .int (iI (ex : Int)))]) d_P_setShortestDigits_143 (by decide) rfl ?_
      refine J_bipush d_P_setShortestDigits_145 (i8_ok (by decide)) ?_
      refine J_iload 5 d_P_setShortestDigits_147 rfl ?_
      refine J_isub d_P_setShortestDigits_149 ?_
      refine J_istore (lv' := [(11, .int (iI (17 - e))), (10, .int (iI (ev : Int))), (0, .ref (ad 43)), (1, .ref (ad p)), (3, .int (iI (e0 - 2))), (4, .long (lI ((4 * M : Nat) : Int))), (6, .int (iI e)), (7, .long (lI (mid : Int))), (9, .int (iI (ex : Int)))]) d_P_setShortestDigits_150 (by decide) rfl ?_
      have lab168 : ∀ (stp : Nat) (hstp : stp = 4 * M - LM M) (hLM : LM M ≤ 4 * M) , J l rm_P_setShortestDigits (0, 0) "NumberTower$Pen" b_P_setShortestDigits 18 (Option.some Jvm.ClassFile.FieldType.int) D jCl (jTys g) A (fun _ me => me.name = y_P_setShortestDigits.name) (ji ad N (fun z F' => z = shE u d ∧ (-60 ≤ z ∧ z ≤ 60) ∧ 0 < (shR u d).2 ∧ (1 ≤ (dgR (shR u d).2).length ∧ (dgR (shR u d).2).length ≤ 20) ∧ ∃ (W' : Nat → Nat) (h' : Nat → Int) (ex' : Int), bW W' ∧ tx h' (dgR (shR u d).2) ∧ (∀ j, j ≠ 52 → j ≠ 54 → j ≠ 56 → W' j = W j) ∧ F' = cF ad g (va_up (va_up (va_up F0 43 (oP ad ex')) 51 (aT g h')) 50 (oT ad 50 ((dgR (shR u d).2).length : Int))) W' K S)) ad N 0 0 168 [(0, .ref (ad 43)), (3, .int (iI (e0 - 2))), (4, .long (lI ((4 * M : Nat) : Int))), (6, .int (iI e)), (7, .long (lI (mid : Int))), (9, .int (iI (ex : Int))), (10, .int (iI (ev : Int))), (11, .int (iI (17 - e)))] [.long (lI (stp : Int))] (cF ad g (va_up F0 43 (.inr (4, [.ref (ad 44), .ref (ad 46), .ref (ad 48), .ref (ad 50), .ref (ad 52), .ref (ad 54), .ref (ad 56), .int (iI (ex : Int))]))) W1 K S) := by
        intro stp hstp hLM
        refine J_lstore (lv' := [(12, .long (lI (stp : Int))), (0, .ref (ad 43)), (3, .int (iI (e0 - 2))), (4, .long (lI ((4 * M : Nat) : Int))), (6, .int (iI e)), (7, .long (lI (mid : Int))), (9, .int (iI (ex : Int))), (10, .int (iI (ev : Int))), (11, .int (iI (17 - e)))]) d_P_setShortestDigits_168 (by decide) rfl ?_
        refine J_aload_n 1 d_P_setShortestDigits_170 rfl rfl ?_
        refine J_lload 3 d_P_setShortestDigits_171 rfl ?_
        refine J_lload 0 d_P_setShortestDigits_173 rfl ?_
        refine J_lsub d_P_setShortestDigits_175 ?_
        refine J_topl (r := (((LM M) : Nat) : Int)) (congrArg lI (by omega)) ?_
        refine J_iload_n 2 d_P_setShortestDigits_176 rfl rfl ?_
        refine J_iload 8 d_P_setShortestDigits_177 rfl ?_
        refine J_callVl cw_P_136 nh_P_scaledFloor pn_P_scaledFloor rfl rfl (by omega) ((cF_0 (by decide)).trans (by rw [va_up_self])) (As := [.long (lI (((LM M) : Nat) : Int)), .int (iI (e0 - 2)), .int (iI (17 - e))]) (rest := []) rfl (Nat.le_of_ble_eq_true rfl) ⟨by decide, by decide⟩ rfl ⟨by decide, by decide⟩ d_P_setShortestDigits_179 (c_P_scaledFloor hfl (F0 := va_up F0 43 (.inr (4, [.ref (ad 44), .ref (ad 46), .ref (ad 48), .ref (ad 50), .ref (ad 52), .ref (ad 54), .ref (ad 56), .int (iI (ex : Int))]))) (W := W1) (K := K) (S := S) (ex := (ex : Int)) (n := LM M) (tw := e0 - 2) (te := 17 - e) hN hW1 (by rw [va_up_self]) (by unfold LM; split <;> omega) ⟨by omega, by omega⟩ ⟨by omega, by omega⟩ (hsf _ _ (by unfold LM; split <;> omega) (by omega))) (fun z91 F92 hq => ?_)
        obtain ⟨hz91, W87, hW88, hf89, eF90⟩ := hq
        refine J_eqF (F2 := cF ad g (va_up F0 43 (.inr (4, [.ref (ad 44), .ref (ad 46), .ref (ad 48), .ref (ad 50), .ref (ad 52), .ref (ad 54), .ref (ad 56), .int (iI ((exV (sfA (LM M) (e0 - 2) (17 - e)) (sfB (e0 - 2) (17 - e)) : Nat) : Int))]))) W87 K S) (eF90.trans (congrArg (fun qq : Nat → va_E => cF ad g qq W87 K S) (up_in0))) ?_
        refine J_topl (r := (((sfA (LM M) (e0 - 2) (17 - e) / sfB (e0 - 2) (17 - e)) : Nat) : Int)) (congrArg lI hz91) ?_
        refine J_topl (r := (fl : Int)) (congrArg lI (by rw [hfl1])) ?_
        refine J_lstore (lv' := [(14, .long (lI (fl : Int))), (12, .long (lI (stp : Int))), (0, .ref (ad 43)), (3, .int (iI (e0 - 2))), (4, .long (lI ((4 * M : Nat) : Int))), (6, .int (iI e)), (7, .long (lI (mid : Int))), (9, .int (iI (ex : Int))), (10, .int (iI (ev : Int))), (11, .int (iI (17 - e)))]) d_P_setShortestDigits_182 (by decide) rfl ?_
        have lab203 : ∀ (ad1 : Nat) (had1 : lo = fl + ad1) (had2 : ad1 ≤ 1) , J l rm_P_setShortestDigits (0, 0) "NumberTower$Pen" b_P_setShortestDigits 18 (Option.some Jvm.ClassFile.FieldType.int) D jCl (jTys g) A (fun _ me => me.name = y_P_setShortestDigits.name) (ji ad N (fun z F' => z = shE u d ∧ (-60 ≤ z ∧ z ≤ 60) ∧ 0 < (shR u d).2 ∧ (1 ≤ (dgR (shR u d).2).length ∧ (dgR (shR u d).2).length ≤ 20) ∧ ∃ (W' : Nat → Nat) (h' : Nat → Int) (ex' : Int), bW W' ∧ tx h' (dgR (shR u d).2) ∧ (∀ j, j ≠ 52 → j ≠ 54 → j ≠ 56 → W' j = W j) ∧ F' = cF ad g (va_up (va_up (va_up F0 43 (oP ad ex')) 51 (aT g h')) 50 (oT ad 50 ((dgR (shR u d).2).length : Int))) W' K S)) ad N 0 0 203 [(0, .ref (ad 43)), (3, .int (iI (e0 - 2))), (4, .long (lI ((4 * M : Nat) : Int))), (6, .int (iI e)), (7, .long (lI (mid : Int))), (9, .int (iI (ex : Int))), (10, .int (iI (ev : Int))), (11, .int (iI (17 - e)))] [.long (lI (ad1 : Int)), .long (lI (fl : Int))] (cF ad g (va_up F0 43 (.inr (4, [.ref (ad 44), .ref (ad 46), .ref (ad 48), .ref (ad 50), .ref (ad 52), .ref (ad 54), .ref (ad 56), .int (iI ((exV (sfA (LM M) (e0 - 2) (17 - e)) (sfB (e0 - 2) (17 - e)) : Nat) : Int))]))) W87 K S) := by
          intro ad1 had1 had2
          refine J_ladd d_P_setShortestDigits_203 ?_
          refine J_topl (r := (lo : Int)) (congrArg lI (by omega)) ?_
          refine J_lstore (lv' := [(14, .long (lI (lo : Int))), (0, .ref (ad 43)), (3, .int (iI (e0 - 2))), (4, .long (lI ((4 * M : Nat) : Int))), (6, .int (iI e)), (7, .long (lI (mid : Int))), (9, .int (iI (ex : Int))), (10, .int (iI (ev : Int))), (11, .int (iI (17 - e)))]) d_P_setShortestDigits_204 (by decide) rfl ?_
          refine J_aload_n 1 d_P_setShortestDigits_206 rfl rfl ?_
          refine J_lload 3 d_P_setShortestDigits_207 rfl ?_
          refine J_ldc2 (z := 2) d_P_setShortestDigits_209 wd_855 (by decide) ?_
          refine J_ladd d_P_setShortestDigits_212 ?_
          refine J_iload_n 2 d_P_setShortestDigits_213 rfl rfl ?_
          refine J_iload 8 d_P_setShortestDigits_214 rfl ?_
          refine J_callVl cw_P_136 nh_P_scaledFloor pn_P_scaledFloor rfl rfl (by omega) ((cF_0 (by decide)).trans (by rw [va_up_self])) (As := [.long (lI (((4 * M : Nat) : Int) + 2)), .int (iI (e0 - 2)), .int (iI (17 - e))]) (rest := []) rfl (Nat.le_of_ble_eq_true rfl) ⟨by decide, by decide⟩ rfl ⟨by decide, by decide⟩ d_P_setShortestDigits_216 (c_P_scaledFloor hfl (F0 := va_up F0 43 (.inr (4, [.ref (ad 44), .ref (ad 46), .ref (ad 48), .ref (ad 50), .ref (ad 52), .ref (ad 54), .ref (ad 56), .int (iI ((exV (sfA (LM M) (e0 - 2) (17 - e)) (sfB (e0 - 2) (17 - e)) : Nat) : Int))]))) (W := W87) (K := K) (S := S) (ex := ((exV (sfA (LM M) (e0 - 2) (17 - e)) (sfB (e0 - 2) (17 - e)) : Nat) : Int)) (n := 4 * M + 2) (tw := e0 - 2) (te := 17 - e) hN hW88 (by rw [va_up_self]) (by omega) ⟨by omega, by omega⟩ ⟨by omega, by omega⟩ (hsf _ _ (by omega) (by omega))) (fun z97 F98 hq => ?_)
          obtain ⟨hz97, W93, hW94, hf95, eF96⟩ := hq
          refine J_eqF (F2 := cF ad g (va_up F0 43 (.inr (4, [.ref (ad 44), .ref (ad 46), .ref (ad 48), .ref (ad 50), .ref (ad 52), .ref (ad 54), .ref (ad 56), .int (iI ((exV (sfA (4 * M + 2) (e0 - 2) (17 - e)) (sfB (e0 - 2) (17 - e)) : Nat) : Int))]))) W93 K S) (eF96.trans (congrArg (fun qq : Nat → va_E => cF ad g qq W93 K S) (up_in0))) ?_
          refine J_topl (r := (((sfA (4 * M + 2) (e0 - 2) (17 - e) / sfB (e0 - 2) (17 - e)) : Nat) : Int)) (congrArg lI hz97) ?_
          refine J_topl (r := (fh : Int)) (congrArg lI (by rw [hfh1])) ?_
          refine J_lstore (lv' := [(16, .long (lI (fh : Int))), (14, .long (lI (lo : Int))), (0, .ref (ad 43)), (3, .int (iI (e0 - 2))), (4, .long (lI ((4 * M : Nat) : Int))), (6, .int (iI e)), (7, .long (lI (mid : Int))), (9, .int (iI (ex : Int))), (10, .int (iI (ev : Int))), (11, .int (iI (17 - e)))]) d_P_setShortestDigits_219 (by decide) rfl ?_
          have lab240 : ∀ (sb1 : Nat) (hsb1 : hi = fh - sb1) (hsb2 : sb1 ≤ 1) , J l rm_P_setShortestDigits (0, 0) "NumberTower$Pen" b_P_setShortestDigits 18 (Option.some Jvm.ClassFile.FieldType.int) D jCl (jTys g) A (fun _ me => me.name = y_P_setShortestDigits.name) (ji ad N (fun z F' => z = shE u d ∧ (-60 ≤ z ∧ z ≤ 60) ∧ 0 < (shR u d).2 ∧ (1 ≤ (dgR (shR u d).2).length ∧ (dgR (shR u d).2).length ≤ 20) ∧ ∃ (W' : Nat → Nat) (h' : Nat → Int) (ex' : Int), bW W' ∧ tx h' (dgR (shR u d).2) ∧ (∀ j, j ≠ 52 → j ≠ 54 → j ≠ 56 → W' j = W j) ∧ F' = cF ad g (va_up (va_up (va_up F0 43 (oP ad ex')) 51 (aT g h')) 50 (oT ad 50 ((dgR (shR u d).2).length : Int))) W' K S)) ad N 0 0 240 [(0, .ref (ad 43)), (6, .int (iI e)), (7, .long (lI (mid : Int))), (9, .int (iI (ex : Int))), (14, .long (lI (lo : Int)))] [.long (lI (sb1 : Int)), .long (lI (fh : Int))] (cF ad g (va_up F0 43 (.inr (4, [.ref (ad 44), .ref (ad 46), .ref (ad 48), .ref (ad 50), .ref (ad 52), .ref (ad 54), .ref (ad 56), .int (iI ((exV (sfA (4 * M + 2) (e0 - 2) (17 - e)) (sfB (e0 - 2) (17 - e)) : Nat) : Int))]))) W93 K S) := by
            intro sb1 hsb1 hsb2
            refine J_lsub d_P_setShortestDigits_240 ?_
            refine J_topl (r := (hi : Int)) (congrArg lI (by omega)) ?_
            refine J_lstore (lv' := [(16, .long (lI (hi : Int))), (0, .ref (ad 43)), (6, .int (iI e)), (7, .long (lI (mid : Int))), (9, .int (iI (ex : Int))), (14, .long (lI (lo : Int)))]) d_P_setShortestDigits_241 (by decide) rfl ?_
            refine J_aload_n 1 d_P_setShortestDigits_243 rfl rfl ?_
            refine gf_P_30 (by omega) ((cF_0 (by decide)).trans (by rw [va_up_self])) rfl d_P_setShortestDigits_244 ?_
            refine J_lload 5 d_P_setShortestDigits_247 rfl ?_
            refine J_lload 0 d_P_setShortestDigits_249 rfl ?_
            refine J_lload 3 d_P_setShortestDigits_251 rfl ?_
            refine J_iload 4 d_P_setShortestDigits_253 rfl ?_
            refine J_callSl cw_P_152 nh_P_shortestBetween pn_P_shortestBetween rfl (As := [.long (lI (lo : Int)), .long (lI (hi : Int)), .long (lI (mid : Int)), .int (iI (ex : Int))]) (rest := [.ref (ad 52)]) rfl (Nat.le_of_ble_eq_true rfl) ⟨by decide, by decide⟩ rfl ⟨by decide, by decide⟩ d_P_setShortestDigits_255 (c_P_shortestBetween hfl (F0 := va_up F0 43 (.inr (4, [.ref (ad 44), .ref (ad 46), .ref (ad 48), .ref (ad 50), .ref (ad 52), .ref (ad 54), .ref (ad 56), .int (iI ((exV (sfA (4 * M + 2) (e0 - 2) (17 - e)) (sfB (e0 - 2) (17 - e)) : Nat) : Int))]))) (W := W93) (K := K) (S := S) (u := u) (d := d) (E := e) (lo := lo) (hi := hi) (mid := mid) (ex := ex) hN hW94 hw hd0 h17 hbig hm18 (by omega) (by omega) hexb) (fun sb F7 hq => ?_)
            obtain ⟨hsb, eF7⟩ := hq
            refine J_eqF eF7 ?_
            obtain ⟨jj, H, hj1, hj2, hsN, hsG⟩ := shG_ex 17 1 ⟨17, by decide, by decide, h17⟩
            have hHr := shN_rng hd0 hX hj1 hsN
            have hH0 : 0 < H := Nat.lt_of_lt_of_le (Nat.pow_pos (by decide)) hHr.1
            have hsR : shR u d = (jj, H) := by unfold shR; rw [hxp]; exact hsG
            obtain ⟨V, hV⟩ : ∃ V, V = H * 10 ^ (18 - jj) := ⟨_, rfl⟩
            have hVb : V ≤ 10 ^ 18 := by
              rw [hV]
              have := Nat.mul_le_mul_right (10 ^ (18 - jj)) hHr.2
              rw [← Nat.pow_add, show jj + (18 - jj) = 18 by omega] at this
              exact this
            have hng := ndg_rng hj1 hHr
            obtain ⟨c, hc⟩ : ∃ c, c = ndm 10 1 V := ⟨_, rfl⟩
            obtain ⟨hd1, hd2, hd3⟩ := dgR_cut (c := c) ⟨hj1, by omega⟩ hHr (by rw [← hV]; exact hc)
            rw [← hV] at hd1 hd3
            have hshE : shE u d = e + (c : Int) - 18 := by
              unfold shE
              rw [hsR, hxp]
              show (if jj < ndg 10 H then e + 1 else e) = _
              split <;> omega
            have hlzH := lz_lt hH0
            refine J_topl (r := (V : Int)) (congrArg lI (hsb.trans (by rw [hsG, hV]))) ?_
            refine J_callVv cw_P_156 nh_N_set pn_N_set rfl rfl (by omega) (cF_N (by decide) rfl) (As := [.long (lI (V : Int))]) (rest := []) rfl (Nat.le_of_ble_eq_true rfl) ⟨by decide, by decide⟩ rfl ⟨by decide, by decide⟩ d_P_setShortestDigits_258 (n_set hfl (F0 := va_up F0 43 (.inr (4, [.ref (ad 44), .ref (ad 46), .ref (ad 48), .ref (ad 50), .ref (ad 52), .ref (ad 54), .ref (ad 56), .int (iI ((exV (sfA (4 * M + 2) (e0 - 2) (17 - e)) (sfB (e0 - 2) (17 - e)) : Nat) : Int))]))) (W := W93) (K := K) (S := S) (k := 52) (n := V) (hN := by omega) (hW := hW94) (hk := (by decide)) (hn := (by omega))) (fun  F102 hq => ?_)
            obtain ⟨hW100, eF101⟩ := hq
            refine J_eqF (F2 := cF ad g (va_up F0 43 (.inr (4, [.ref (ad 44), .ref (ad 46), .ref (ad 48), .ref (ad 50), .ref (ad 52), .ref (ad 54), .ref (ad 56), .int (iI ((exV (sfA (4 * M + 2) (e0 - 2) (17 - e)) (sfB (e0 - 2) (17 - e)) : Nat) : Int))]))) (va_up W93 52 V) K S) eF101 ?_
            refine J_aload_n 1 d_P_setShortestDigits_261 rfl rfl ?_
            refine J_bipush d_P_setShortestDigits_262 (i8_ok (by decide)) ?_
            refine J_bipush d_P_setShortestDigits_264 (i8_ok (by decide)) ?_
            refine J_iconst d_P_setShortestDigits_266 ?_
            refine J_callVv cw_P_84 nh_P_setDigits pn_P_setDigits rfl rfl (by omega) ((cF_0 (by decide)).trans (by rw [va_up_self])) (As := [.int (iI 10), .int (iI 97), .int (iI 1)]) (rest := []) rfl (Nat.le_of_ble_eq_true rfl) ⟨by decide, by decide⟩ rfl ⟨by decide, by decide⟩ d_P_setShortestDigits_267 (c_P_setDigits hfl (F0 := va_up F0 43 (.inr (4, [.ref (ad 44), .ref (ad 46), .ref (ad 48), .ref (ad 50), .ref (ad 52), .ref (ad 54), .ref (ad 56), .int (iI ((exV (sfA (4 * M + 2) (e0 - 2) (17 - e)) (sfB (e0 - 2) (17 - e)) : Nat) : Int))]))) (W := va_up W93 52 V) (K := K) (S := S) (ex := ((exV (sfA (4 * M + 2) (e0 - 2) (17 - e)) (sfB (e0 - 2) (17 - e)) : Nat) : Int)) (wD := wD) (hD := hD) (b := 10) (lst := 1) (v := V) (ten := 97) (cap := 0) hN hW100 (by rw [va_up_self]) (by rw [va_up_ne _ _ (by decide)]; exact hTD) (by rw [va_up_ne _ _ (by decide)]; exact hAD) ttD hlD ((va_up_self ..)) (by omega) (Or.inl ⟨rfl, rfl⟩) (by omega)) (fun  F107 hq => ?_)
            obtain ⟨hh103, htx104, hW105, eF106⟩ := hq
            have hW108 := (congrArg bW (up_in0)).mp hW105
            refine J_eqF (F2 := cF ad g (va_up (va_up (va_up F0 43 (.inr (4, [.ref (ad 44), .ref (ad 46), .ref (ad 48), .ref (ad 50), .ref (ad 52), .ref (ad 54), .ref (ad 56), .int (iI ((exV (sfA (4 * M + 2) (e0 - 2) (17 - e)) (sfB (e0 - 2) (17 - e)) : Nat) : Int))]))) 51 (.inl (g 1, 200, .inl (aI hh103)))) 50 (.inr (7, [.ref (ad 51), .int (iI (((dgL 10 0 1 V).length : Nat) : Int))]))) (va_up W93 52 0) K S) (eF106.trans (congrArg (fun qq => cF ad g (va_up (va_up (va_up F0 43 (.inr (4, [.ref (ad 44), .ref (ad 46), .ref (ad 48), .ref (ad 50), .ref (ad 52), .ref (ad 54), .ref (ad 56), .int (iI ((exV (sfA (4 * M + 2) (e0 - 2) (17 - e)) (sfB (e0 - 2) (17 - e)) : Nat) : Int))]))) 51 (.inl (g 1, 200, .inl (aI hh103)))) 50 (.inr (7, [.ref (ad 51), .int (iI (((dgL 10 0 1 V).length : Nat) : Int))]))) qq K S) (up_in0))) ?_
            refine J_iload 2 d_P_setShortestDigits_270 rfl ?_
            refine J_aload_n 1 d_P_setShortestDigits_272 rfl rfl ?_
            refine gf_P_24 (by omega) ((cF_0 (by decide)).trans (by rw [va_up_ne _ _ (by decide), va_up_ne _ _ (by decide), va_up_self])) rfl d_P_setShortestDigits_273 ?_
            refine gf_P_88 (by omega) ((cF_0 (by decide)).trans (by rw [va_up_self])) rfl d_P_setShortestDigits_276 ?_
            refine J_bipush d_P_setShortestDigits_279 (i8_ok (by decide)) ?_
            refine J_isub d_P_setShortestDigits_281 ?_
            refine J_iadd d_P_setShortestDigits_282 ?_
            refine J_topi (r := (shE u d)) (congrArg iI (by rw [hshE, dgL_l, ← hc]; omega)) ?_
            refine J_istore (lv' := [(6, .int (iI (shE u d))), (16, .long (lI (hi : Int))), (0, .ref (ad 43)), (7, .long (lI (mid : Int))), (9, .int (iI (ex : Int))), (14, .long (lI (lo : Int)))]) d_P_setShortestDigits_283 (by decide) rfl ?_
            refine J_aload_n 2 d_P_setShortestDigits_285 rfl rfl ?_
            refine gf_P_24 (by omega) ((cF_0 (by decide)).trans (by rw [va_up_ne _ _ (by decide), va_up_ne _ _ (by decide), va_up_self])) rfl d_P_setShortestDigits_286 ?_
            refine J_bipush d_P_setShortestDigits_289 (i8_ok (by decide)) ?_
            refine J_callVi cw_P_160 nh_T_dropZeros pn_T_dropZeros rfl rfl (by omega) ((cF_0 (by decide)).trans (by rw [va_up_self])) (As := [.int (iI 18)]) (rest := []) rfl (Nat.le_of_ble_eq_true rfl) ⟨by decide, by decide⟩ rfl ⟨by decide, by decide⟩ d_P_setShortestDigits_291 (c_T_dropZ hfl (k := 50) (w := (dgL 10 0 1 V)) (hh := hh103) (q := V) (n := 18) (c := c) (by omega) ((cF_0 (by decide)).trans (by rw [va_up_self])) ((cF_0 (by decide)).trans (by rw [va_up_ne _ _ (by decide), va_up_self])) htx104 (by rw [dgL_l]; omega) (by unfold dgL; rw [hc]) (by omega)) (fun z109 F8 hq => ?_)
            obtain ⟨hz109, htx110, eF8⟩ := hq
            refine J_eqF (F2 := cF ad g (va_up (va_up (va_up F0 43 (.inr (4, [.ref (ad 44), .ref (ad 46), .ref (ad 48), .ref (ad 50), .ref (ad 52), .ref (ad 54), .ref (ad 56), .int (iI ((exV (sfA (4 * M + 2) (e0 - 2) (17 - e)) (sfB (e0 - 2) (17 - e)) : Nat) : Int))]))) 51 (.inl (g 1, 200, .inl (aI hh103)))) 50 (.inr (7, [.ref (ad 51), .int (iI (((sgr (dgv 10 V) 0 3 0 (zr V 18) (c - zr V 18)).length : Nat) : Int))]))) (va_up W93 52 0) K S) (eF8.trans ((cF_up0 (by decide)).trans (congrArg (fun qq => cF ad g qq (va_up W93 52 0) K S) (up_in0)))) ?_
            refine J_topi (r := (((zr V 18 : Nat)) : Int)) (congrArg iI hz109) ?_
            refine J_pop d_P_setShortestDigits_294 rfl ?_
            have eT111 : (sgr (dgv 10 V) 0 3 0 (zr V 18) (c - zr V 18)) = dgR (shR u d).2 := (by rw [hsR]; exact hd1)
            have htx112 : tx hh103 (dgR (shR u d).2) := eT111 ▸ htx110
            refine J_eqF (F2 := cF ad g (va_up (va_up (va_up F0 43 (.inr (4, [.ref (ad 44), .ref (ad 46), .ref (ad 48), .ref (ad 50), .ref (ad 52), .ref (ad 54), .ref (ad 56), .int (iI ((exV (sfA (4 * M + 2) (e0 - 2) (17 - e)) (sfB (e0 - 2) (17 - e)) : Nat) : Int))]))) 51 (.inl (g 1, 200, .inl (aI hh103)))) 50 (.inr (7, [.ref (ad 51), .int (iI (((dgR (shR u d).2).length : Nat) : Int))]))) (va_up W93 52 0) K S) (congrArg (fun qq : List Nat => cF ad g (va_up (va_up (va_up F0 43 (.inr (4, [.ref (ad 44), .ref (ad 46), .ref (ad 48), .ref (ad 50), .ref (ad 52), .ref (ad 54), .ref (ad 56), .int (iI ((exV (sfA (4 * M + 2) (e0 - 2) (17 - e)) (sfB (e0 - 2) (17 - e)) : Nat) : Int))]))) 51 (.inl (g 1, 200, .inl (aI hh103)))) 50 (oT ad 50 ((qq.length : Nat) : Int))) (va_up W93 52 0) K S) eT111) ?_
            have hdl9 : 1 ≤ (dgR (shR u d).2).length ∧ (dgR (shR u d).2).length ≤ 20 := by rw [hsR]; show 1 ≤ (dgR H).length ∧ (dgR H).length ≤ 20; rw [dgR_l]; omega
            refine J_iload 0 d_P_setShortestDigits_295 rfl ?_
            refine J_iret rfl rfl d_P_setShortestDigits_297 ⟨by decide, by decide⟩ ?_
            exact ⟨_, rfl, rfl, rfl, rfl, ⟨by omega, by omega⟩, by rw [hsR]; exact hH0, hdl9, _, _, _, hW108, htx112, fun j h1 h2 h3 => ((show (va_up W93 52 0) j = W93 j from by rw [va_up_ne _ _ (by assumption)]).trans ((hf95 j (by assumption) (by assumption) (by assumption)).trans ((show (W87) j = W87 j from by rfl).trans ((hf89 j (by assumption) (by assumption) (by assumption)).trans ((show (W1) j = W1 j from by rfl).trans ((hf1 j (by assumption) (by assumption) (by assumption)).trans (show (W) j = W j from by rfl))))))), rfl⟩
          refine J_lload 0 d_P_setShortestDigits_221 rfl ?_
          refine J_aload_n 2 d_P_setShortestDigits_223 rfl rfl ?_
          refine gf_P_142 (by omega) ((cF_0 (by decide)).trans (by rw [va_up_self])) rfl d_P_setShortestDigits_224 ?_
          refine J_ifeq (tgt := 239) d_P_setShortestDigits_227 (by decide) ⟨by omega, by omega⟩ (fun c227 => ?_) (fun c227 => ?_)
          · refine J_lconst (v := 0) d_P_setShortestDigits_239 rfl ?_
            refine J_pick (lv' := [(0, .ref (ad 43)), (6, .int (iI e)), (7, .long (lI (mid : Int))), (9, .int (iI (ex : Int))), (14, .long (lI (lo : Int)))]) [2, 5, 6, 7, 1] rfl ?_
            refine lab240 0 ?_ (by decide)
            · rw [hhi, hfh1]
              unfold hiB
              have hz1 := exV_1 (A := sfA (4 * M + 2) (e0 - 2) (17 - e)) (B := sfB (e0 - 2) (17 - e))
              rw [if_neg (by omega)]
          · refine J_iload 8 d_P_setShortestDigits_230 rfl ?_
            refine J_ifne (tgt := 239) d_P_setShortestDigits_232 (by decide) ⟨by omega, by omega⟩ (fun c232 => ?_) (fun c232 => ?_)
            · refine J_lconst (v := 0) d_P_setShortestDigits_239 rfl ?_
              refine J_pick (lv' := [(0, .ref (ad 43)), (6, .int (iI e)), (7, .long (lI (mid : Int))), (9, .int (iI (ex : Int))), (14, .long (lI (lo : Int)))]) [2, 5, 6, 7, 1] rfl ?_
              refine lab240 0 ?_ (by decide)
              · rw [hhi, hfh1]
                unfold hiB
                have hz1 := exV_1 (A := sfA (4 * M + 2) (e0 - 2) (17 - e)) (B := sfB (e0 - 2) (17 - e))
                rw [if_neg (by omega)]
            · refine J_lconst (v := 1) d_P_setShortestDigits_235 rfl ?_
              refine J_goto (tgt := 240) d_P_setShortestDigits_236 (by decide) ?_
              refine J_pick (lv' := [(0, .ref (ad 43)), (6, .int (iI e)), (7, .long (lI (mid : Int))), (9, .int (iI (ex : Int))), (14, .long (lI (lo : Int)))]) [2, 5, 6, 7, 1] rfl ?_
              refine lab240 1 ?_ (by decide)
              · rw [hhi, hfh1]
                unfold hiB
                have hz1 := exV_1 (A := sfA (4 * M + 2) (e0 - 2) (17 - e)) (B := sfB (e0 - 2) (17 - e))
                rw [if_pos (by omega)]
        refine J_lload 0 d_P_setShortestDigits_184 rfl ?_
        refine J_aload_n 2 d_P_setShortestDigits_186 rfl rfl ?_
        refine gf_P_142 (by omega) ((cF_0 (by decide)).trans (by rw [va_up_self])) rfl d_P_setShortestDigits_187 ?_
        refine J_ifeq (tgt := 202) d_P_setShortestDigits_190 (by decide) ⟨by omega, by omega⟩ (fun c190 => ?_) (fun c190 => ?_)
        · refine J_lconst (v := 1) d_P_setShortestDigits_202 rfl ?_
          refine J_pick (lv' := [(0, .ref (ad 43)), (3, .int (iI (e0 - 2))), (4, .long (lI ((4 * M : Nat) : Int))), (6, .int (iI e)), (7, .long (lI (mid : Int))), (9, .int (iI (ex : Int))), (10, .int (iI (ev : Int))), (11, .int (iI (17 - e)))]) [2, 3, 4, 5, 6, 7, 8, 9] rfl ?_
          refine lab203 1 ?_ (by decide)
          · rw [hlo, hfl1]
            unfold loB
            have hz1 := exV_1 (A := sfA (LM M) (e0 - 2) (17 - e)) (B := sfB (e0 - 2) (17 - e))
            rw [if_neg (by omega)]
        · refine J_iload 8 d_P_setShortestDigits_193 rfl ?_
          refine J_ifeq (tgt := 202) d_P_setShortestDigits_195 (by decide) ⟨by omega, by omega⟩ (fun c195 => ?_) (fun c195 => ?_)
          · refine J_lconst (v := 1) d_P_setShortestDigits_202 rfl ?_
            refine J_pick (lv' := [(0, .ref (ad 43)), (3, .int (iI (e0 - 2))), (4, .long (lI ((4 * M : Nat) : Int))), (6, .int (iI e)), (7, .long (lI (mid : Int))), (9, .int (iI (ex : Int))), (10, .int (iI (ev : Int))), (11, .int (iI (17 - e)))]) [2, 3, 4, 5, 6, 7, 8, 9] rfl ?_
            refine lab203 1 ?_ (by decide)
            · rw [hlo, hfl1]
              unfold loB
              have hz1 := exV_1 (A := sfA (LM M) (e0 - 2) (17 - e)) (B := sfB (e0 - 2) (17 - e))
              rw [if_neg (by omega)]
          · refine J_lconst (v := 0) d_P_setShortestDigits_198 rfl ?_
            refine J_goto (tgt := 203) d_P_setShortestDigits_199 (by decide) ?_
            refine J_pick (lv' := [(0, .ref (ad 43)), (3, .int (iI (e0 - 2))), (4, .long (lI ((4 * M : Nat) : Int))), (6, .int (iI e)), (7, .long (lI (mid : Int))), (9, .int (iI (ex : Int))), (10, .int (iI (ev : Int))), (11, .int (iI (17 - e)))]) [2, 3, 4, 5, 6, 7, 8, 9] rfl ?_
            refine lab203 0 ?_ (by decide)
            · rw [hlo, hfl1]
              unfold loB
              have hz1 := exV_1 (A := sfA (LM M) (e0 - 2) (17 - e)) (B := sfB (e0 - 2) (17 - e))
              rw [if_pos (by omega)]
      refine J_lload 5 d_P_setShortestDigits_152 rfl ?_
      refine J_ldc2 (z := 18014398509481984) d_P_setShortestDigits_154 wd_854 (by decide) ?_
      refine J_lcmpne (tgt := 165) d_P_setShortestDigits_157 d_P_setShortestDigits_158 (by decide) ⟨by omega, by omega⟩ ⟨by omega, by omega⟩ (fun c157 => ?_) (fun c157 => ?_)
      · refine J_ldc2 (z := 2) d_P_setShortestDigits_165 wd_855 (by decide) ?_
        refine J_pick (lv' := [(0, .ref (ad 43)), (3, .int (iI (e0 - 2))), (4, .long (lI ((4 * M : Nat) : Int))), (6, .int (iI e)), (7, .long (lI (mid : Int))), (9, .int (iI (ex : Int))), (10, .int (iI (ev : Int))), (11, .int (iI (17 - e)))]) [2, 4, 5, 6, 7, 8, 1, 0] rfl ?_
        exact lab168 2 (by unfold LM; split <;> omega) (by unfold LM; split <;> omega)
      · refine J_lconst (v := 1) d_P_setShortestDigits_161 rfl ?_
        refine J_goto (tgt := 168) d_P_setShortestDigits_162 (by decide) ?_
        refine J_pick (lv' := [(0, .ref (ad 43)), (3, .int (iI (e0 - 2))), (4, .long (lI ((4 * M : Nat) : Int))), (6, .int (iI e)), (7, .long (lI (mid : Int))), (9, .int (iI (ex : Int))), (10, .int (iI (ev : Int))), (11, .int (iI (17 - e)))]) [2, 4, 5, 6, 7, 8, 1, 0] rfl ?_
        exact lab168 1 (by unfold LM; split <;> omega) (by unfold LM; split <;> omega)
    refine J_lload 5 d_P_setShortestDigits_127 rfl ?_
    refine J_ldc2 (z := 4) d_P_setShortestDigits_129 wd_853 (by decide) ?_
    refine J_land (r := ((4 * M &&& 4 : Nat) : Int)) d_P_setShortestDigits_132 (lI_ann (a := 4 * M) (b := 4) (by omega) (by omega)) ?_
    refine J_topl (r := ((4 * (M % 2) : Nat) : Int)) (congrArg lI (by rw [land_4])) ?_
    refine J_lconst (v := 0) d_P_setShortestDigits_133 rfl ?_
    refine J_lcmpne (tgt := 142) d_P_setShortestDigits_134 d_P_setShortestDigits_135 (by decide) ⟨by omega, by omega⟩ ⟨by omega, by omega⟩ (fun c134 => ?_) (fun c134 => ?_)
    · refine J_iconst d_P_setShortestDigits_142 ?_
      refine J_pick (lv' := [(0, .ref (ad 43)), (1, .ref (ad p)), (3, .int (iI (e0 - 2))), (4, .long (lI ((4 * M : Nat) : Int))), (6, .int (iI e)), (7, .long (lI (mid : Int))), (9, .int (iI (ex : Int)))]) [1, 2, 4, 5, 6, 7, 0] rfl ?_
      exact lab143 0 (by rw [if_neg (by omega)])
    · refine J_iconst d_P_setShortestDigits_138 ?_
      refine J_goto (tgt := 143) d_P_setShortestDigits_139 (by decide) ?_
      refine J_pick (lv' := [(0, .ref (ad 43)), (1, .ref (ad p)), (3, .int (iI (e0 - 2))), (4, .long (lI ((4 * M : Nat) : Int))), (6, .int (iI e)), (7, .long (lI (mid : Int))), (9, .int (iI (ex : Int)))]) [1, 2, 4, 5, 6, 7, 0] rfl ?_
      exact lab143 1 (by rw [if_pos (by omega)])
  refine J_lload 0 d_P_setShortestDigits_95 rfl ?_
  refine J_ldc2 (z := 1000000000000000000) d_P_setShortestDigits_97 wd_852 (by decide) ?_
  refine J_lcmplt (tgt := 121) d_P_setShortestDigits_100 d_P_setShortestDigits_101 (by decide) ⟨by omega, by omega⟩ ⟨by omega, by omega⟩ (fun c100 => ?_) (fun c100 => ?_)
  · have hEq : el = E := by
      have h9 := (mid_lt (e := el) (by omega) hd0 hr).mp (by rw [← hmd]; omega)
      have := isX_lt hu0 hX h9
      omega
    refine J_pick (lv' := [(0, .ref (ad 43)), (1, .ref (ad p)), (2, .int (iI tb)), (3, .int (iI (e0 - 2))), (4, .long (lI ((4 * M : Nat) : Int))), (6, .int (iI el)), (7, .long (lI (md : Int)))]) [5, 6, 4, 3, 2, 1, 0] rfl ?_
    exact lab121 el md (exV (sfA (4 * M) (e0 - 2) (17 - el)) (sfB (e0 - 2) (17 - el))) W81 hEq hmd rfl hW82 (fun j h1 h2 h3 => ((show (W81) j = W81 j from by rfl).trans ((hf83 j (by assumption) (by assumption) (by assumption)).trans (show (va_up W 52 (4 * M)) j = W j from by rw [va_up_ne _ _ (by assumption)]))))
  · have hEq : el + 1 = E := by
      have h9 : rch u d (el + 1) := Classical.byContradiction (fun q => by have := (mid_lt (e := el) (by omega) hd0 hr).mpr q; rw [← hmd] at this; omega)
      have := isX_ge hu0 hX h9
      omega
    refine J_iinc (j := 1) (b := el + 1) (lv' := [(6, .int (iI (el + 1))), (7, .long (lI (md : Int))), (4, .long (lI ((4 * M : Nat) : Int))), (3, .int (iI (e0 - 2))), (2, .int (iI tb)), (0, .ref (ad 43)), (1, .ref (ad p))]) d_P_setShortestDigits_104 rfl (by omega) (by decide) rfl ?_
    refine J_aload_n 5 d_P_setShortestDigits_107 rfl rfl ?_
    refine J_lload 2 d_P_setShortestDigits_108 rfl ?_
    refine J_iload_n 3 d_P_setShortestDigits_110 rfl rfl ?_
    refine J_bipush d_P_setShortestDigits_111 (i8_ok (by decide)) ?_
    refine J_iload 0 d_P_setShortestDigits_113 rfl ?_
    refine J_isub d_P_setShortestDigits_115 ?_
    refine J_callVl cw_P_136 nh_P_scaledFloor pn_P_scaledFloor rfl rfl (by omega) ((cF_0 (by decide)).trans (by rw [va_up_self])) (As := [.long (lI ((4 * M : Nat) : Int)), .int (iI (e0 - 2)), .int (iI (17 - (el + 1)))]) (rest := []) rfl (Nat.le_of_ble_eq_true rfl) ⟨by decide, by decide⟩ rfl ⟨by decide, by decide⟩ d_P_setShortestDigits_116 (c_P_scaledFloor hfl (F0 := va_up F0 43 (.inr (4, [.ref (ad 44), .ref (ad 46), .ref (ad 48), .ref (ad 50), .ref (ad 52), .ref (ad 54), .ref (ad 56), .int (iI ((exV (sfA (4 * M) (e0 - 2) (17 - el)) (sfB (e0 - 2) (17 - el)) : Nat) : Int))]))) (W := W81) (K := K) (S := S) (ex := ((exV (sfA (4 * M) (e0 - 2) (17 - el)) (sfB (e0 - 2) (17 - el)) : Nat) : Int)) (n := 4 * M) (tw := e0 - 2) (te := 17 - (el + 1)) hN hW82 (by rw [va_up_self]) (by omega) ⟨by omega, by omega⟩ ⟨by omega, by omega⟩ (hsf _ _ (by omega) (by omega))) (fun z117 F118 hq => ?_)
    obtain ⟨hz117, W113, hW114, hf115, eF116⟩ := hq
    refine J_eqF (F2 := cF ad g (va_up F0 43 (.inr (4, [.ref (ad 44), .ref (ad 46), .ref (ad 48), .ref (ad 50), .ref (ad 52), .ref (ad 54), .ref (ad 56), .int (iI ((exV (sfA (4 * M) (e0 - 2) (17 - (el + 1))) (sfB (e0 - 2) (17 - (el + 1))) : Nat) : Int))]))) W113 K S) (eF116.trans (congrArg (fun qq : Nat → va_E => cF ad g qq W113 K S) (up_in0))) ?_
    refine J_topl (r := (((sfA (4 * M) (e0 - 2) (17 - (el + 1)) / sfB (e0 - 2) (17 - (el + 1))) : Nat) : Int)) (congrArg lI hz117) ?_
    obtain ⟨me, hme⟩ : ∃ me, me = sfA (4 * M) (e0 - 2) (17 - (el + 1)) / sfB (e0 - 2) (17 - (el + 1)) := ⟨_, rfl⟩
    have hsme := hsf (4 * M) (el + 1) (by omega) (by omega)
    rw [← hme] at hsme
    refine J_topl (r := (me : Int)) (congrArg lI (by rw [hme])) ?_
    refine J_lstore (lv' := [(7, .long (lI (me : Int))), (6, .int (iI (el + 1))), (4, .long (lI ((4 * M : Nat) : Int))), (3, .int (iI (e0 - 2))), (2, .int (iI tb)), (0, .ref (ad 43)), (1, .ref (ad p))]) d_P_setShortestDigits_119 (by decide) rfl ?_
    refine J_pick (lv' := [(0, .ref (ad 43)), (1, .ref (ad p)), (2, .int (iI tb)), (3, .int (iI (e0 - 2))), (4, .long (lI ((4 * M : Nat) : Int))), (6, .int (iI (el + 1))), (7, .long (lI (me : Int)))]) [5, 6, 4, 3, 2, 1, 0] rfl ?_
    exact lab121 (el + 1) me (exV (sfA (4 * M) (e0 - 2) (17 - (el + 1))) (sfB (e0 - 2) (17 - (el + 1)))) W113 hEq hme rfl hW114 (fun j h1 h2 h3 => ((show (W113) j = W113 j from by rfl).trans ((hf115 j (by assumption) (by assumption) (by assumption)).trans ((show (W81) j = W81 j from by rfl).trans ((hf83 j (by assumption) (by assumption) (by assumption)).trans (show (va_up W 52 (4 * M)) j = W j from by rw [va_up_ne _ _ (by assumption)]))))))
