/-! sayReal -/
set_option maxRecDepth 100000 in
set_option maxHeartbeats 4000000 in
theorem c_M_sayReal {l : Launch} (hfl : l.flags = flags0) {D : va_G} {g : Nat → ClassId} {ad : Nat → Nat} {N : Nat} {F : Nat → va_E} {hh ll f : Nat → Int} {v : UInt64} {V : Nat → Nat} {br : Nat → Nat} {rr : Nat → UInt64} {dh tt : Nat → Int} {w : List Nat} {a u d : Nat} {s s' : Int}
    (hN : 109 ≤ N) (hO : F 98 = oM ad f v) (hB : F 99 = aB g hh) (hL : F 100 = aL g ll) (hR : reg br hh ll V) (hzz : okB br) (hRr : F 103 = .inl (g 3, 8, .inr (.inr (.inr (.inl rr))))) (h106 : F 106 = .inl (g 0, 200, .inl (aI dh))) (h107 : F 107 = .inl (g 0, 260, .inl (aI tt))) (hmt : mtx tt w) (hf18 : f 18 = (w.length : Int)) (hre : near s u d = some (2, s', u, d)) (hd0 : 0 < d) (hrr : rr a = fd false u (1 - (blen d : Int))) (ha : a < 8) (hwl : w.length ≤ 100) :
    JC l y_M_sayReal b_M_sayReal 8 (Option.none : Option Jvm.ClassFile.FieldType) rm_M_sayReal (0, 0) D jCl (jTys g) ad N F [.ref (ad 98), .int (iI (a : Int))] (jv ad N (fun F' => ∃ (hh' ll' f' dh' tt' : Nat → Int) (W : Nat → Nat), reg br hh' ll' W ∧ (∀ k, k < 16 → W k = V k) ∧ (∀ j, j ≠ 8 → j ≠ 16 → j ≠ 18 → f' j = f j) ∧ f' 18 = ((w ++ rlT u d).length : Int) ∧ mtx tt' (w ++ rlT u d) ∧ okT 50 (rlT u d) ∧ F' = va_up (va_up (va_up (va_up (va_up F 98 (oM ad f' v)) 99 (aB g hh')) 100 (aL g ll')) 106 (.inl (g 0, 200, .inl (aI dh')))) 107 (.inl (g 0, 260, .inl (aI tt'))))) := by
  refine JC.go hfl (own := "NumberTowerModel") (lv := [(0, .ref (ad 98)), (1, .int (iI (a : Int)))]) rfl (by decide +kernel) (Nat.le_of_ble_eq_true rfl) rfl (fun A => ?_)
  refine J_aload_n 0 d_M_sayReal_0 rfl rfl ?_
  refine gf_M_23 (by omega) hO rfl d_M_sayReal_1 ?_
  refine J_iload_n 1 d_M_sayReal_4 rfl rfl ?_
  refine J_daload 3 rfl (by omega) hRr (by omega) d_M_sayReal_5 ?_
  refine J_topd (y := rr a) (congrArg (fun q => rr q) (by omega)) ?_
  refine J_dconst0 d_M_sayReal_6 ?_
  refine J_dcmp d_M_sayReal_7 ?_
  refine J_rifne (tgt := 30) d_M_sayReal_8 (by decide) (fun c7 => ?_) (fun c7 => ?_)
  · have hu0 : 0 < u := by
      have h9 : u ≠ 0 := fun q => c7 ((real_z hre hd0 hrr).mpr q)
      omega
    obtain ⟨m0, e0, hfe, hm0, he0, hr0, hlu, hld⟩ := lead_real hre hd0 hu0
    refine J_aload_n 0 d_M_sayReal_30 rfl rfl ?_
    refine J_iload_n 1 d_M_sayReal_31 rfl rfl ?_
    refine J_callVi cw_M_297 nh_M_shortest pn_M_shortest rfl rfl (by omega) hO (As := [.int (iI (a : Int))]) (rest := []) rfl (Nat.le_of_ble_eq_true rfl) ⟨by decide, by decide⟩ rfl ⟨by decide, by decide⟩ d_M_sayReal_32 (c_M_shortest hfl (a := a) (u := u) (d := d) (m0 := m0) (e0 := e0) (rr := rr) (dh := dh) (hh := hh) (ll := ll) (f := f) (v := v) (V := V) (br := br) hN hO hB hL hR hzz hRr h106 ha (hrr.trans hfe) hm0 he0 hu0 hd0 hr0 hlu hld) (fun ze F1 hq => ?_)
    obtain ⟨hzE, hzb, ⟨hHp, hHb⟩, bh9, bl9, dh9, W9, b9, hR9, hW9, hdg, eF1⟩ := hq
    refine J_eqF (F2 := va_up (va_up (va_up (va_up F 98 (oM ad (va_up (va_up f 8 b9) 16 ((ndm 10 1 (shR u d).2 : Nat) : Int)) v)) 99 (.inl (g 0, 858, .inl (aI bh9)))) 100 (.inl (g 0, 33, .inl (aI bl9)))) 106 (.inl (g 0, 200, .inl (aI dh9)))) eF1 ?_
    obtain ⟨H, hH⟩ : ∃ H, H = (shR u d).2 := ⟨_, rfl⟩
    obtain ⟨e, hee⟩ : ∃ e, e = shE u d := ⟨_, rfl⟩
    rw [← hH] at hHp hHb hdg
    rw [← hee] at hzE
    have hnm : ndm 10 1 H = ndg 10 H := ndm_pos (by decide) hHp
    obtain ⟨n9, hn9⟩ : ∃ n9, n9 = ndg 10 H := ⟨_, rfl⟩
    have hn18 : n9 ≤ 18 := by rw [hn9]; exact (ndg_le (by decide)).mpr hHb
    have hnp : 0 < n9 := by rw [hn9]; exact ndg_pos (by decide) hHp
    have htop := ndg_top (b := 10) (by decide) hHp
    rw [hnm, ← hn9] at hdg
    rw [← hn9] at htop
    have hrT : rlT u d = realT H e := by unfold rlT; rw [if_neg (by omega), hH, hee]
    clear hm0 he0 hr0 hlu hld hfe
    refine J_topi (r := e) (congrArg iI hzE) ?_
    rw [hzE] at hzb
    have hokr : okT 50 (rlT u d) := by rw [hrT]; exact okT_real hHb hzb
    clear hHb
    refine J_eqF (F2 := va_up (va_up (va_up (va_up F 98 (oM ad (va_up (va_up f 8 b9) 16 (n9 : Int)) v)) 99 (.inl (g 0, 858, .inl (aI bh9)))) 100 (.inl (g 0, 33, .inl (aI bl9)))) 106 (.inl (g 0, 200, .inl (aI dh9)))) (congrArg (fun qq : Int => va_up (va_up (va_up (va_up F 98 (oM ad (va_up (va_up f 8 b9) 16 qq) v)) 99 (.inl (g 0, 858, .inl (aI bh9)))) 100 (.inl (g 0, 33, .inl (aI bl9)))) 106 (.inl (g 0, 200, .inl (aI dh9)))) (show ((ndm 10 1 (shR u d).2 : Nat) : Int) = (n9 : Int) from by rw [← hH, hnm, hn9])) ?_
    refine J_istore_n (lv' := [(2, .int (iI e)), (0, .ref (ad 98)), (1, .int (iI (a : Int)))]) d_M_sayReal_35 rfl (by decide) rfl ?_
    refine J_iconst d_M_sayReal_36 ?_
    refine J_istore_n (lv' := [(3, .int (iI 0)), (2, .int (iI e)), (0, .ref (ad 98)), (1, .int (iI (a : Int)))]) d_M_sayReal_37 rfl (by decide) rfl ?_
    refine J_pick (lv' := [(0, .ref (ad 98)), (1, .int (iI (a : Int))), (2, .int (iI e)), (3, .int (iI 0))]) [2, 3, 1, 0] rfl ?_
    have loop38 : ∀ (fuel : Nat) (lo : Nat) (hlo : lo < n9) (hzz2 : ∀ k, k < lo → dgv 10 H k = 0) (hfu : n9 - lo < fuel), J l rm_M_sayReal (0, 0) "NumberTowerModel" b_M_sayReal 8 (Option.none : Option Jvm.ClassFile.FieldType) D jCl (jTys g) A (fun _ me => me.name = y_M_sayReal.name) (jv ad N (fun F' => ∃ (hh' ll' f' dh' tt' : Nat → Int) (W : Nat → Nat), reg br hh' ll' W ∧ (∀ k, k < 16 → W k = V k) ∧ (∀ j, j ≠ 8 → j ≠ 16 → j ≠ 18 → f' j = f j) ∧ f' 18 = ((w ++ rlT u d).length : Int) ∧ mtx tt' (w ++ rlT u d) ∧ okT 50 (rlT u d) ∧ F' = va_up (va_up (va_up (va_up (va_up F 98 (oM ad f' v)) 99 (aB g hh')) 100 (aL g ll')) 106 (.inl (g 0, 200, .inl (aI dh')))) 107 (.inl (g 0, 260, .inl (aI tt'))))) ad N 0 0 38 [(0, .ref (ad 98)), (1, .int (iI (a : Int))), (2, .int (iI e)), (3, .int (iI (lo : Int)))] [] (va_up (va_up (va_up (va_up F 98 (oM ad (va_up (va_up f 8 b9) 16 (n9 : Int)) v)) 99 (.inl (g 0, 858, .inl (aI bh9)))) 100 (.inl (g 0, 33, .inl (aI bl9)))) 106 (.inl (g 0, 200, .inl (aI dh9)))) := by
      intro fuel
      induction fuel with
      | zero => intro lo hlo hzz2 hfu; exact absurd hfu (Nat.not_lt_zero _)
      | succ fuel ih =>
        intro lo hlo hzz2 hfu
        refine J_aload_n 0 d_M_sayReal_38 rfl rfl ?_
        refine gf_M_33 (by omega) (by rw [va_up_ne _ _ (by decide), va_up_ne _ _ (by decide), va_up_ne _ _ (by decide), va_up_self]) rfl d_M_sayReal_39 ?_
        refine J_iload_n 3 d_M_sayReal_42 rfl rfl ?_
        refine J_iaload 0 rfl (by omega) (by rw [va_up_self]) (by omega) d_M_sayReal_43 ?_
        refine J_topi (r := dh9 lo) (congrArg (fun q => iI (dh9 q)) (by omega)) ?_
        refine J_topi (r := (((dgv 10 H lo : Nat)) : Int)) (congrArg iI (hdg lo hlo)) ?_
        have hdb := dgv_b (b := 10) (v := H) (k := lo) (by decide)
        refine J_ifne (tgt := 53) d_M_sayReal_44 (by decide) ⟨by omega, by omega⟩ (fun c44 => ?_) (fun c44 => ?_)
        · have hlz : lz10 H = lo := lz_eq hzz2 (fun w => c44 (by rw [w]; rfl))
          refine J_aload_n 0 d_M_sayReal_53 rfl rfl ?_
          refine gf_M_268 (by omega) (by rw [va_up_ne _ _ (by decide), va_up_ne _ _ (by decide), va_up_ne _ _ (by decide), va_up_self]) rfl d_M_sayReal_54 ?_
          refine J_topi (r := (n9 : Int)) (congrArg iI (va_up_self ..)) ?_
          refine J_iload_n 3 d_M_sayReal_57 rfl rfl ?_
          refine J_isub d_M_sayReal_58 ?_
          refine J_istore (lv' := [(4, .int (iI ((n9 : Int) - (lo : Int)))), (0, .ref (ad 98)), (1, .int (iI (a : Int))), (2, .int (iI e)), (3, .int (iI (lo : Int)))]) d_M_sayReal_59 (by decide) rfl ?_
          refine J_iload_n 3 d_M_sayReal_61 rfl rfl ?_
          refine J_bipush d_M_sayReal_62 (i8_ok (by decide)) ?_
          refine J_bipush d_M_sayReal_64 (i8_ok (by decide)) ?_
          refine J_callSi cw_M_138 nh_M_in pn_M_in rfl (As := [.int (iI e), .int (iI (-4)), .int (iI 15)]) (rest := []) rfl (Nat.le_of_ble_eq_true rfl) ⟨by decide, by decide⟩ rfl ⟨by decide, by decide⟩ d_M_sayReal_66 (c_M_in hfl (a := e) (b := -4) (c := 15) ⟨by omega, by omega⟩ (by decide) (by decide)) (fun zi F2 hq => ?_)
          obtain ⟨hzi, eF2⟩ := hq
          refine J_eqF eF2 ?_
          refine J_ifeq (tgt := 177) d_M_sayReal_69 (by decide) ⟨by omega, by omega⟩ (fun c69 => ?_) (fun c69 => ?_)
          · have hne : hold (¬(-4 ≤ e ∧ e ≤ 15)) := by
              show ¬ _
              omega
            clear c69 hzi c44 htop hdb
            refine J_aload_n 1 d_M_sayReal_177 rfl rfl ?_
            refine J_bipush d_M_sayReal_178 (i8_ok (by decide)) ?_
            refine J_aload_n 1 d_M_sayReal_180 rfl rfl ?_
            refine gf_M_33 (by omega) (by rw [va_up_ne _ _ (by decide), va_up_ne _ _ (by decide), va_up_ne _ _ (by decide), va_up_self]) rfl d_M_sayReal_181 ?_
            refine J_aload_n 1 d_M_sayReal_184 rfl rfl ?_
            refine gf_M_268 (by omega) (by rw [va_up_ne _ _ (by decide), va_up_ne _ _ (by decide), va_up_ne _ _ (by decide), va_up_self]) rfl d_M_sayReal_185 ?_
            refine J_topi (r := (n9 : Int)) (congrArg iI (va_up_self ..)) ?_
            refine J_iconst d_M_sayReal_188 ?_
            refine J_isub d_M_sayReal_189 ?_
            refine J_topi (r := ((n9 - 1 : Nat) : Int)) (congrArg iI (by omega)) ?_
            refine J_iaload 0 rfl (by omega) (by rw [va_up_self]) (by omega) d_M_sayReal_190 ?_
            refine J_topi (r := dh9 (n9 - 1)) (congrArg (fun q => iI (dh9 q)) (by omega)) ?_
            refine J_topi (r := (((dgv 10 H (n9 - 1) : Nat)) : Int)) (congrArg iI (hdg _ (by omega))) ?_
            refine J_iadd d_M_sayReal_191 ?_
            have hdt := dgv_b (b := 10) (v := H) (k := n9 - 1) (by decide)
            refine J_callVv cw_M_278 nh_M_say pn_M_say rfl rfl (by omega) (by rw [va_up_ne _ _ (by decide), va_up_ne _ _ (by decide), va_up_ne _ _ (by decide), va_up_self]) (As := [.int (iI (48 + (((dgv 10 H (n9 - 1) : Nat)) : Int)))]) (rest := []) rfl (Nat.le_of_ble_eq_true rfl) ⟨by decide, by decide⟩ rfl ⟨by decide, by decide⟩ d_M_sayReal_192 (c_M_say hfl (f := va_up (va_up f 8 b9) 16 (n9 : Int)) (v := v) (tt := tt) (w := w) (c := (48 + (dgv 10 H (n9 - 1)))) hN (by rw [va_up_ne _ _ (by decide), va_up_ne _ _ (by decide), va_up_ne _ _ (by decide), va_up_self]) (by rw [va_up_ne _ _ (by decide), va_up_ne _ _ (by decide), va_up_ne _ _ (by decide), va_up_ne _ _ (by decide)]; exact h107) hmt ((va_up_ne _ _ (by decide)).trans ((va_up_ne _ _ (by decide)).trans hf18)) (by omega)) (fun  F3 hq => ?_)
            obtain ⟨tx1, hmt2, eF3⟩ := hq
            refine J_eqF (F2 := va_up (va_up (va_up (va_up (va_up F 98 (oM ad (va_up (va_up (va_up f 8 b9) 16 (n9 : Int)) 18 (((w ++ [48 + (dgv 10 H (n9 - 1))]).length : Nat) : Int)) v)) 99 (.inl (g 0, 858, .inl (aI bh9)))) 100 (.inl (g 0, 33, .inl (aI bl9)))) 106 (.inl (g 0, 200, .inl (aI dh9)))) 107 (.inl (g 0, 260, .inl (aI tx1)))) (eF3.trans (up_in4 (by decide) (by decide) (by decide) (by decide))) ?_
            refine J_iload 0 d_M_sayReal_195 rfl ?_
            refine J_iconst d_M_sayReal_197 ?_
            refine J_if_icmple (tgt := 207) d_M_sayReal_198 (by decide) ⟨by omega, by omega⟩ ⟨by omega, by omega⟩ (fun c198 => ?_) (fun c198 => ?_)
            · refine J_aload_n 1 d_M_sayReal_207 rfl rfl ?_
              refine J_aload_n 1 d_M_sayReal_208 rfl rfl ?_
              refine gf_M_268 (by omega) (by rw [va_up_ne _ _ (by decide), va_up_ne _ _ (by decide), va_up_ne _ _ (by decide), va_up_ne _ _ (by decide), va_up_self]) rfl d_M_sayReal_209 ?_
              refine J_topi (r := (n9 : Int)) (congrArg iI ((va_up_ne _ _ (by decide)).trans (va_up_self ..))) ?_
              refine J_iconst d_M_sayReal_212 ?_
              refine J_isub d_M_sayReal_213 ?_
              refine J_iload_n 4 d_M_sayReal_214 rfl rfl ?_
              refine J_iconst d_M_sayReal_215 ?_
              refine J_iconst d_M_sayReal_216 ?_
              refine J_iconst d_M_sayReal_217 ?_
              refine J_callVv cw_M_300 nh_M_sayDigits pn_M_sayDigits rfl rfl (by omega) (by rw [va_up_ne _ _ (by decide), va_up_ne _ _ (by decide), va_up_ne _ _ (by decide), va_up_ne _ _ (by decide), va_up_self]) (As := [.int (iI ((n9 : Int) - 2)), .int (iI (lo : Int)), .int (iI 3), .int (iI 0), .int (iI 0)]) (rest := []) rfl (Nat.le_of_ble_eq_true rfl) ⟨by decide, by decide⟩ rfl ⟨by decide, by decide⟩ d_M_sayReal_218 (c_M_sayDigits hfl (f := va_up (va_up (va_up f 8 b9) 16 (n9 : Int)) 18 (((w ++ [48 + (dgv 10 H (n9 - 1))]).length : Nat) : Int)) (v := v) (tt := tx1) (w := (w ++ [48 + (dgv 10 H (n9 - 1))])) (dh := dh9) (dv := dgv 10 H) (cap := 0) (fro := (n9 : Int) - 2) (grp := 3) (pt := 0) (to := lo) (n := (n9 - 1 - lo)) hN (by rw [va_up_ne _ _ (by decide), va_up_ne _ _ (by decide), va_up_ne _ _ (by decide), va_up_ne _ _ (by decide), va_up_self]) (by rw [va_up_self]) hmt2 (va_up_self ..) (by rw [va_up_ne _ _ (by decide), va_up_self]) (fun k hk => ⟨hdg k (by omega), dgv_b (by decide)⟩) (by omega) (by omega) (by omega) (by omega) (Or.inl rfl) (by simp only [List.length_append, List.length_cons, List.length_nil]; omega)) (fun  F4 hq => ?_)
              obtain ⟨tx3, hmt4, eF4⟩ := hq
              refine J_eqF (F2 := va_up (va_up (va_up (va_up (va_up F 98 (oM ad (va_up (va_up (va_up f 8 b9) 16 (n9 : Int)) 18 ((((w ++ [48 + (dgv 10 H (n9 - 1))]) ++ sgr (dgv 10 H) 0 3 0 lo (n9 - 1 - lo)).length : Nat) : Int)) v)) 99 (.inl (g 0, 858, .inl (aI bh9)))) 100 (.inl (g 0, 33, .inl (aI bl9)))) 106 (.inl (g 0, 200, .inl (aI dh9)))) 107 (.inl (g 0, 260, .inl (aI tx3)))) ((eF4.trans (congrArg (fun qq : Nat → Int => va_up (va_up (va_up (va_up (va_up (va_up (va_up F 98 (oM ad (va_up (va_up (va_up f 8 b9) 16 (n9 : Int)) 18 (((w ++ [48 + (dgv 10 H (n9 - 1))]).length : Nat) : Int)) v)) 99 (.inl (g 0, 858, .inl (aI bh9)))) 100 (.inl (g 0, 33, .inl (aI bl9)))) 106 (.inl (g 0, 200, .inl (aI dh9)))) 107 (.inl (g 0, 260, .inl (aI tx1)))) 107 (.inl (g 0, 260, .inl (aI tx3)))) 98 (oM ad qq v)) (up_in0))).trans (Eq.trans (congrArg (fun q : Nat → va_E => va_up q 98 (oM ad (va_up (va_up (va_up f 8 b9) 16 (n9 : Int)) 18 ((((w ++ [48 + (dgv 10 H (n9 - 1))]) ++ sgr (dgv 10 H) 0 3 0 lo (n9 - 1 - lo)).length : Nat) : Int)) v)) (up_in0)) (up_in4 (by decide) (by decide) (by decide) (by decide)))) ?_
              have hsl := sgr_1 (dv := dgv 10 H) (cap := 0) (grp := 3) (to := lo) (n9 - 1 - lo)
              refine J_aload_n 1 d_M_sayReal_221 rfl rfl ?_
              refine J_iload_n 3 d_M_sayReal_222 rfl rfl ?_
              refine J_bipush d_M_sayReal_223 (i8_ok (by decide)) ?_
              refine J_callVv cw_M_304 nh_M_sayExponent pn_M_sayExponent rfl rfl (by omega) (by rw [va_up_ne _ _ (by decide), va_up_ne _ _ (by decide), va_up_ne _ _ (by decide), va_up_ne _ _ (by decide), va_up_self]) (As := [.int (iI e), .int (iI 101)]) (rest := []) rfl (Nat.le_of_ble_eq_true rfl) ⟨by decide, by decide⟩ rfl ⟨by decide, by decide⟩ d_M_sayReal_225 (c_M_sayExponent hfl (f := va_up (va_up (va_up f 8 b9) 16 (n9 : Int)) 18 ((((w ++ [48 + (dgv 10 H (n9 - 1))]) ++ sgr (dgv 10 H) 0 3 0 lo (n9 - 1 - lo)).length : Nat) : Int)) (v := v) (tt := tx3) (w := ((w ++ [48 + (dgv 10 H (n9 - 1))]) ++ sgr (dgv 10 H) 0 3 0 lo (n9 - 1 - lo))) (e := e) (lt := 101) hN (by rw [va_up_ne _ _ (by decide), va_up_ne _ _ (by decide), va_up_ne _ _ (by decide), va_up_ne _ _ (by decide), va_up_self]) (by rw [va_up_self]) hmt4 (va_up_self ..) (by omega) (by simp only [List.length_append, List.length_cons, List.length_nil]; omega)) (fun  F5 hq => ?_)
              obtain ⟨tx5, hmt6, eF5⟩ := hq
              refine J_eqF (F2 := va_up (va_up (va_up (va_up (va_up F 98 (oM ad (va_up (va_up (va_up f 8 b9) 16 (n9 : Int)) 18 (((((w ++ [48 + (dgv 10 H (n9 - 1))]) ++ sgr (dgv 10 H) 0 3 0 lo (n9 - 1 - lo)) ++ expT e 101).length : Nat) : Int)) v)) 99 (.inl (g 0, 858, .inl (aI bh9)))) 100 (.inl (g 0, 33, .inl (aI bl9)))) 106 (.inl (g 0, 200, .inl (aI dh9)))) 107 (.inl (g 0, 260, .inl (aI tx5)))) ((eF5.trans (congrArg (fun qq : Nat → Int => va_up (va_up (va_up (va_up (va_up (va_up (va_up F 98 (oM ad (va_up (va_up (va_up f 8 b9) 16 (n9 : Int)) 18 ((((w ++ [48 + (dgv 10 H (n9 - 1))]) ++ sgr (dgv 10 H) 0 3 0 lo (n9 - 1 - lo)).length : Nat) : Int)) v)) 99 (.inl (g 0, 858, .inl (aI bh9)))) 100 (.inl (g 0, 33, .inl (aI bl9)))) 106 (.inl (g 0, 200, .inl (aI dh9)))) 107 (.inl (g 0, 260, .inl (aI tx3)))) 107 (.inl (g 0, 260, .inl (aI tx5)))) 98 (oM ad qq v)) (up_in0))).trans (Eq.trans (congrArg (fun q : Nat → va_E => va_up q 98 (oM ad (va_up (va_up (va_up f 8 b9) 16 (n9 : Int)) 18 (((((w ++ [48 + (dgv 10 H (n9 - 1))]) ++ sgr (dgv 10 H) 0 3 0 lo (n9 - 1 - lo)) ++ expT e 101).length : Nat) : Int)) v)) (up_in0)) (up_in4 (by decide) (by decide) (by decide) (by decide)))) ?_
              have ehmt7 : (((w ++ [48 + (dgv 10 H (n9 - 1))]) ++ sgr (dgv 10 H) 0 3 0 lo (n9 - 1 - lo)) ++ expT e 101) = w ++ rlT u d := by rw [hrT]; unfold realT layE; rw [if_neg (show ¬(-4 ≤ e ∧ e ≤ 15) from hne), ← hn9, hlz, if_neg (show ¬ 1 < n9 - lo by omega)]; exact lay_1
              have hmt7 : mtx tx5 (w ++ rlT u d) := ehmt7 ▸ hmt6
              refine J_eqF (F2 := va_up (va_up (va_up (va_up (va_up F 98 (oM ad (va_up (va_up (va_up f 8 b9) 16 (n9 : Int)) 18 ((w ++ rlT u d).length : Int)) v)) 99 (.inl (g 0, 858, .inl (aI bh9)))) 100 (.inl (g 0, 33, .inl (aI bl9)))) 106 (.inl (g 0, 200, .inl (aI dh9)))) 107 (.inl (g 0, 260, .inl (aI tx5)))) (congrArg (fun qq : Int => va_up (va_up (va_up (va_up (va_up F 98 (oM ad (va_up (va_up (va_up f 8 b9) 16 (n9 : Int)) 18 qq) v)) 99 (.inl (g 0, 858, .inl (aI bh9)))) 100 (.inl (g 0, 33, .inl (aI bl9)))) 106 (.inl (g 0, 200, .inl (aI dh9)))) 107 (.inl (g 0, 260, .inl (aI tx5)))) (show (((((w ++ [48 + (dgv 10 H (n9 - 1))]) ++ sgr (dgv 10 H) 0 3 0 lo (n9 - 1 - lo)) ++ expT e 101).length : Nat) : Int) = ((w ++ rlT u d).length : Int) from by rw [ehmt7])) ?_
              refine J_vret rfl d_M_sayReal_228 ⟨by decide, by decide⟩ ?_
              refine ⟨rfl, rfl, rfl, bh9, bl9, (va_up (va_up (va_up f 8 b9) 16 (n9 : Int)) 18 ((w ++ rlT u d).length : Int)), dh9, tx5, W9, hR9, ?_, ?_, (va_up_self ..), hmt7, hokr, rfl⟩
              · exact (fun k hk => ((show (W9) k = W9 k from by rfl).trans ((hW9 k hk).trans (show (V) k = V k from by rfl))))
              · exact (fun j h1 h2 h3 => by rw [va_up_ne _ _ h3, va_up_ne _ _ h2, va_up_ne _ _ h1])
            · refine J_aload_n 1 d_M_sayReal_201 rfl rfl ?_
              refine J_bipush d_M_sayReal_202 (i8_ok (by decide)) ?_
              refine J_callVv cw_M_278 nh_M_say pn_M_say rfl rfl (by omega) (by rw [va_up_ne _ _ (by decide), va_up_ne _ _ (by decide), va_up_ne _ _ (by decide), va_up_ne _ _ (by decide), va_up_self]) (As := [.int (iI 46)]) (rest := []) rfl (Nat.le_of_ble_eq_true rfl) ⟨by decide, by decide⟩ rfl ⟨by decide, by decide⟩ d_M_sayReal_204 (c_M_say hfl (f := va_up (va_up (va_up f 8 b9) 16 (n9 : Int)) 18 (((w ++ [48 + (dgv 10 H (n9 - 1))]).length : Nat) : Int)) (v := v) (tt := tx1) (w := (w ++ [48 + (dgv 10 H (n9 - 1))])) (c := (46 : Nat)) hN (by rw [va_up_ne _ _ (by decide), va_up_ne _ _ (by decide), va_up_ne _ _ (by decide), va_up_ne _ _ (by decide), va_up_self]) (by rw [va_up_self]) hmt2 (va_up_self ..) (by simp only [List.length_append, List.length_cons, List.length_nil]; omega)) (fun  F6 hq => ?_)
              obtain ⟨tx8, hmt9, eF6⟩ := hq
              refine J_eqF (F2 := va_up (va_up (va_up (va_up (va_up F 98 (oM ad (va_up (va_up (va_up f 8 b9) 16 (n9 : Int)) 18 ((((w ++ [48 + (dgv 10 H (n9 - 1))]) ++ [(46 : Nat)]).length : Nat) : Int)) v)) 99 (.inl (g 0, 858, .inl (aI bh9)))) 100 (.inl (g 0, 33, .inl (aI bl9)))) 106 (.inl (g 0, 200, .inl (aI dh9)))) 107 (.inl (g 0, 260, .inl (aI tx8)))) ((eF6.trans (congrArg (fun qq : Nat → Int => va_up (va_up (va_up (va_up (va_up (va_up (va_up F 98 (oM ad (va_up (va_up (va_up f 8 b9) 16 (n9 : Int)) 18 (((w ++ [48 + (dgv 10 H (n9 - 1))]).length : Nat) : Int)) v)) 99 (.inl (g 0, 858, .inl (aI bh9)))) 100 (.inl (g 0, 33, .inl (aI bl9)))) 106 (.inl (g 0, 200, .inl (aI dh9)))) 107 (.inl (g 0, 260, .inl (aI tx1)))) 107 (.inl (g 0, 260, .inl (aI tx8)))) 98 (oM ad qq v)) (up_in0))).trans (Eq.trans (congrArg (fun q : Nat → va_E => va_up q 98 (oM ad (va_up (va_up (va_up f 8 b9) 16 (n9 : Int)) 18 ((((w ++ [48 + (dgv 10 H (n9 - 1))]) ++ [(46 : Nat)]).length : Nat) : Int)) v)) (up_in0)) (up_in4 (by decide) (by decide) (by decide) (by decide)))) ?_
              refine J_aload_n 1 d_M_sayReal_207 rfl rfl ?_
              refine J_aload_n 1 d_M_sayReal_208 rfl rfl ?_
              refine gf_M_268 (by omega) (by rw [va_up_ne _ _ (by decide), va_up_ne _ _ (by decide), va_up_ne _ _ (by decide), va_up_ne _ _ (by decide), va_up_self]) rfl d_M_sayReal_209 ?_
              refine J_topi (r := (n9 : Int)) (congrArg iI ((va_up_ne _ _ (by decide)).trans (va_up_self ..))) ?_
              refine J_iconst d_M_sayReal_212 ?_
              refine J_isub d_M_sayReal_213 ?_
              refine J_iload_n 4 d_M_sayReal_214 rfl rfl ?_
              refine J_iconst d_M_sayReal_215 ?_
              refine J_iconst d_M_sayReal_216 ?_
              refine J_iconst d_M_sayReal_217 ?_
              refine J_callVv cw_M_300 nh_M_sayDigits pn_M_sayDigits rfl rfl (by omega) (by rw [va_up_ne _ _ (by decide), va_up_ne _ _ (by decide), va_up_ne _ _ (by decide), va_up_ne _ _ (by decide), va_up_self]) (As := [.int (iI ((n9 : Int) - 2)), .int (iI (lo : Int)), .int (iI 3), .int (iI 0), .int (iI 0)]) (rest := []) rfl (Nat.le_of_ble_eq_true rfl) ⟨by decide, by decide⟩ rfl ⟨by decide, by decide⟩ d_M_sayReal_218 (c_M_sayDigits hfl (f := va_up (va_up (va_up f 8 b9) 16 (n9 : Int)) 18 ((((w ++ [48 + (dgv 10 H (n9 - 1))]) ++ [(46 : Nat)]).length : Nat) : Int)) (v := v) (tt := tx8) (w := ((w ++ [48 + (dgv 10 H (n9 - 1))]) ++ [(46 : Nat)])) (dh := dh9) (dv := dgv 10 H) (cap := 0) (fro := (n9 : Int) - 2) (grp := 3) (pt := 0) (to := lo) (n := (n9 - 1 - lo)) hN (by rw [va_up_ne _ _ (by decide), va_up_ne _ _ (by decide), va_up_ne _ _ (by decide), va_up_ne _ _ (by decide), va_up_self]) (by rw [va_up_self]) hmt9 (va_up_self ..) (by rw [va_up_ne _ _ (by decide), va_up_self]) (fun k hk => ⟨hdg k (by omega), dgv_b (by decide)⟩) (by omega) (by omega) (by omega) (by omega) (Or.inl rfl) (by simp only [List.length_append, List.length_cons, List.length_nil]; omega)) (fun  F7 hq => ?_)
              obtain ⟨tx10, hmt11, eF7⟩ := hq
              refine J_eqF (F2 := va_up (va_up (va_up (va_up (va_up F 98 (oM ad (va_up (va_up (va_up f 8 b9) 16 (n9 : Int)) 18 (((((w ++ [48 + (dgv 10 H (n9 - 1))]) ++ [(46 : Nat)]) ++ sgr (dgv 10 H) 0 3 0 lo (n9 - 1 - lo)).length : Nat) : Int)) v)) 99 (.inl (g 0, 858, .inl (aI bh9)))) 100 (.inl (g 0, 33, .inl (aI bl9)))) 106 (.inl (g 0, 200, .inl (aI dh9)))) 107 (.inl (g 0, 260, .inl (aI tx10)))) ((eF7.trans (congrArg (fun qq : Nat → Int => va_up (va_up (va_up (va_up (va_up (va_up (va_up F 98 (oM ad (va_up (va_up (va_up f 8 b9) 16 (n9 : Int)) 18 ((((w ++ [48 + (dgv 10 H (n9 - 1))]) ++ [(46 : Nat)]).length : Nat) : Int)) v)) 99 (.inl (g 0, 858, .inl (aI bh9)))) 100 (.inl (g 0, 33, .inl (aI bl9)))) 106 (.inl (g 0, 200, .inl (aI dh9)))) 107 (.inl (g 0, 260, .inl (aI tx8)))) 107 (.inl (g 0, 260, .inl (aI tx10)))) 98 (oM ad qq v)) (up_in0))).trans (Eq.trans (congrArg (fun q : Nat → va_E => va_up q 98 (oM ad (va_up (va_up (va_up f 8 b9) 16 (n9 : Int)) 18 (((((w ++ [48 + (dgv 10 H (n9 - 1))]) ++ [(46 : Nat)]) ++ sgr (dgv 10 H) 0 3 0 lo (n9 - 1 - lo)).length : Nat) : Int)) v)) (up_in0)) (up_in4 (by decide) (by decide) (by decide) (by decide)))) ?_
              have hsl := sgr_1 (dv := dgv 10 H) (cap := 0) (grp := 3) (to := lo) (n9 - 1 - lo)
              refine J_aload_n 1 d_M_sayReal_221 rfl rfl ?_
              refine J_iload_n 3 d_M_sayReal_222 rfl rfl ?_
              refine J_bipush d_M_sayReal_223 (i8_ok (by decide)) ?_
              refine J_callVv cw_M_304 nh_M_sayExponent pn_M_sayExponent rfl rfl (by omega) (by rw [va_up_ne _ _ (by decide), va_up_ne _ _ (by decide), va_up_ne _ _ (by decide), va_up_ne _ _ (by decide), va_up_self]) (As := [.int (iI e), .int (iI 101)]) (rest := []) rfl (Nat.le_of_ble_eq_true rfl) ⟨by decide, by decide⟩ rfl ⟨by decide, by decide⟩ d_M_sayReal_225 (c_M_sayExponent hfl (f := va_up (va_up (va_up f 8 b9) 16 (n9 : Int)) 18 (((((w ++ [48 + (dgv 10 H (n9 - 1))]) ++ [(46 : Nat)]) ++ sgr (dgv 10 H) 0 3 0 lo (n9 - 1 - lo)).length : Nat) : Int)) (v := v) (tt := tx10) (w := (((w ++ [48 + (dgv 10 H (n9 - 1))]) ++ [(46 : Nat)]) ++ sgr (dgv 10 H) 0 3 0 lo (n9 - 1 - lo))) (e := e) (lt := 101) hN (by rw [va_up_ne _ _ (by decide), va_up_ne _ _ (by decide), va_up_ne _ _ (by decide), va_up_ne _ _ (by decide), va_up_self]) (by rw [va_up_self]) hmt11 (va_up_self ..) (by omega) (by simp only [List.length_append, List.length_cons, List.length_nil]; omega)) (fun  F8 hq => ?_)
              obtain ⟨tx12, hmt13, eF8⟩ := hq
              refine J_eqF (F2 := va_up (va_up (va_up (va_up (va_up F 98 (oM ad (va_up (va_up (va_up f 8 b9) 16 (n9 : Int)) 18 ((((((w ++ [48 + (dgv 10 H (n9 - 1))]) ++ [(46 : Nat)]) ++ sgr (dgv 10 H) 0 3 0 lo (n9 - 1 - lo)) ++ expT e 101).length : Nat) : Int)) v)) 99 (.inl (g 0, 858, .inl (aI bh9)))) 100 (.inl (g 0, 33, .inl (aI bl9)))) 106 (.inl (g 0, 200, .inl (aI dh9)))) 107 (.inl (g 0, 260, .inl (aI tx12)))) ((eF8.trans (congrArg (fun qq : Nat → Int => va_up (va_up (va_up (va_up (va_up (va_up (va_up F 98 (oM ad (va_up (va_up (va_up f 8 b9) 16 (n9 : Int)) 18 (((((w ++ [48 + (dgv 10 H (n9 - 1))]) ++ [(46 : Nat)]) ++ sgr (dgv 10 H) 0 3 0 lo (n9 - 1 - lo)).length : Nat) : Int)) v)) 99 (.inl (g 0, 858, .inl (aI bh9)))) 100 (.inl (g 0, 33, .inl (aI bl9)))) 106 (.inl (g 0, 200, .inl (aI dh9)))) 107 (.inl (g 0, 260, .inl (aI tx10)))) 107 (.inl (g 0, 260, .inl (aI tx12)))) 98 (oM ad qq v)) (up_in0))).trans (Eq.trans (congrArg (fun q : Nat → va_E => va_up q 98 (oM ad (va_up (va_up (va_up f 8 b9) 16 (n9 : Int)) 18 ((((((w ++ [48 + (dgv 10 H (n9 - 1))]) ++ [(46 : Nat)]) ++ sgr (dgv 10 H) 0 3 0 lo (n9 - 1 - lo)) ++ expT e 101).length : Nat) : Int)) v)) (up_in0)) (up_in4 (by decide) (by decide) (by decide) (by decide)))) ?_
              have ehmt14 : ((((w ++ [48 + (dgv 10 H (n9 - 1))]) ++ [(46 : Nat)]) ++ sgr (dgv 10 H) 0 3 0 lo (n9 - 1 - lo)) ++ expT e 101) = w ++ rlT u d := by rw [hrT]; unfold realT layE; rw [if_neg (show ¬(-4 ≤ e ∧ e ≤ 15) from hne), ← hn9, hlz, if_pos (show 1 < n9 - lo by omega)]; exact lay_2
              have hmt14 : mtx tx12 (w ++ rlT u d) := ehmt14 ▸ hmt13
              refine J_eqF (F2 := va_up (va_up (va_up (va_up (va_up F 98 (oM ad (va_up (va_up (va_up f 8 b9) 16 (n9 : Int)) 18 ((w ++ rlT u d).length : Int)) v)) 99 (.inl (g 0, 858, .inl (aI bh9)))) 100 (.inl (g 0, 33, .inl (aI bl9)))) 106 (.inl (g 0, 200, .inl (aI dh9)))) 107 (.inl (g 0, 260, .inl (aI tx12)))) (congrArg (fun qq : Int => va_up (va_up (va_up (va_up (va_up F 98 (oM ad (va_up (va_up (va_up f 8 b9) 16 (n9 : Int)) 18 qq) v)) 99 (.inl (g 0, 858, .inl (aI bh9)))) 100 (.inl (g 0, 33, .inl (aI bl9)))) 106 (.inl (g 0, 200, .inl (aI dh9)))) 107 (.inl (g 0, 260, .inl (aI tx12)))) (show ((((((w ++ [48 + (dgv 10 H (n9 - 1))]) ++ [(46 : Nat)]) ++ sgr (dgv 10 H) 0 3 0 lo (n9 - 1 - lo)) ++ expT e 101).length : Nat) : Int) = ((w ++ rlT u d).length : Int) from by rw [ehmt14])) ?_
              refine J_vret rfl d_M_sayReal_228 ⟨by decide, by decide⟩ ?_
              refine ⟨rfl, rfl, rfl, bh9, bl9, (va_up (va_up (va_up f 8 b9) 16 (n9 : Int)) 18 ((w ++ rlT u d).length : Int)), dh9, tx12, W9, hR9, ?_, ?_, (va_up_self ..), hmt14, hokr, rfl⟩
              · exact (fun k hk => ((show (W9) k = W9 k from by rfl).trans ((hW9 k hk).trans (show (V) k = V k from by rfl))))
              · exact (fun j h1 h2 h3 => by rw [va_up_ne _ _ h3, va_up_ne _ _ h2, va_up_ne _ _ h1])
          · have lab92 : ∀ (la : Int) (hla : la = (if e - ((n9 : Int) - (lo : Int)) + 1 < -1 then e - ((n9 : Int) - (lo : Int)) + 1 else -1)) , J l rm_M_sayReal (0, 0) "NumberTowerModel" b_M_sayReal 8 (Option.none : Option Jvm.ClassFile.FieldType) D jCl (jTys g) A (fun _ me => me.name = y_M_sayReal.name) (jv ad N (fun F' => ∃ (hh' ll' f' dh' tt' : Nat → Int) (W : Nat → Nat), reg br hh' ll' W ∧ (∀ k, k < 16 → W k = V k) ∧ (∀ j, j ≠ 8 → j ≠ 16 → j ≠ 18 → f' j = f j) ∧ f' 18 = ((w ++ rlT u d).length : Int) ∧ mtx tt' (w ++ rlT u d) ∧ okT 50 (rlT u d) ∧ F' = va_up (va_up (va_up (va_up (va_up F 98 (oM ad f' v)) 99 (aB g hh')) 100 (aL g ll')) 106 (.inl (g 0, 200, .inl (aI dh')))) 107 (.inl (g 0, 260, .inl (aI tt'))))) ad N 0 0 92 [(0, .ref (ad 98)), (1, .int (iI (a : Int))), (2, .int (iI e)), (3, .int (iI (lo : Int))), (4, .int (iI ((n9 : Int) - (lo : Int))))] [.int (iI la)] (va_up (va_up (va_up (va_up F 98 (oM ad (va_up (va_up f 8 b9) 16 (n9 : Int)) v)) 99 (.inl (g 0, 858, .inl (aI bh9)))) 100 (.inl (g 0, 33, .inl (aI bl9)))) 106 (.inl (g 0, 200, .inl (aI dh9)))) := by
              intro la hla
              refine J_istore (lv' := [(5, .int (iI la)), (0, .ref (ad 98)), (1, .int (iI (a : Int))), (2, .int (iI e)), (3, .int (iI (lo : Int))), (4, .int (iI ((n9 : Int) - (lo : Int))))]) d_M_sayReal_92 (by decide) rfl ?_
              have lab103 : ∀ (pa : Int) (hpa : pa = if 0 < e then e else 0) , J l rm_M_sayReal (0, 0) "NumberTowerModel" b_M_sayReal 8 (Option.none : Option Jvm.ClassFile.FieldType) D jCl (jTys g) A (fun _ me => me.name = y_M_sayReal.name) (jv ad N (fun F' => ∃ (hh' ll' f' dh' tt' : Nat → Int) (W : Nat → Nat), reg br hh' ll' W ∧ (∀ k, k < 16 → W k = V k) ∧ (∀ j, j ≠ 8 → j ≠ 16 → j ≠ 18 → f' j = f j) ∧ f' 18 = ((w ++ rlT u d).length : Int) ∧ mtx tt' (w ++ rlT u d) ∧ okT 50 (rlT u d) ∧ F' = va_up (va_up (va_up (va_up (va_up F 98 (oM ad f' v)) 99 (aB g hh')) 100 (aL g ll')) 106 (.inl (g 0, 200, .inl (aI dh')))) 107 (.inl (g 0, 260, .inl (aI tt'))))) ad N 0 0 103 [(0, .ref (ad 98)), (1, .int (iI (a : Int))), (2, .int (iI e)), (3, .int (iI (lo : Int))), (4, .int (iI ((n9 : Int) - (lo : Int)))), (5, .int (iI la))] [.int (iI pa)] (va_up (va_up (va_up (va_up F 98 (oM ad (va_up (va_up f 8 b9) 16 (n9 : Int)) v)) 99 (.inl (g 0, 858, .inl (aI bh9)))) 100 (.inl (g 0, 33, .inl (aI bl9)))) 106 (.inl (g 0, 200, .inl (aI dh9)))) := by
                intro pa hpa
                have hlab : -22 ≤ la ∧ la ≤ -1 := by rw [hla]; split <;> omega
                have hpab : 0 ≤ pa ∧ pa ≤ 15 := by rw [hpa]; split <;> omega
                replace hla : hold _ := hla
                replace hpa : hold _ := hpa
                refine J_istore (lv' := [(6, .int (iI pa)), (0, .ref (ad 98)), (1, .int (iI (a : Int))), (2, .int (iI e)), (3, .int (iI (lo : Int))), (4, .int (iI ((n9 : Int) - (lo : Int)))), (5, .int (iI la))]) d_M_sayReal_103 (by decide) rfl ?_
                refine J_pick (lv' := [(0, .ref (ad 98)), (1, .int (iI (a : Int))), (2, .int (iI e)), (3, .int (iI (lo : Int))), (4, .int (iI ((n9 : Int) - (lo : Int)))), (5, .int (iI la)), (6, .int (iI pa))]) [1, 2, 3, 4, 5, 6, 0] rfl ?_
                refine J_eqF (F2 := va_up (va_up (va_up (va_up (va_up F 98 (oM ad (va_up (va_up f 8 b9) 16 (n9 : Int)) v)) 99 (.inl (g 0, 858, .inl (aI bh9)))) 100 (.inl (g 0, 33, .inl (aI bl9)))) 106 (.inl (g 0, 200, .inl (aI dh9)))) 107 (.inl (g 0, 260, .inl (aI tt)))) (up_same1 (by rw [va_up_ne _ _ (by decide), va_up_ne _ _ (by decide), va_up_ne _ _ (by decide), va_up_ne _ _ (by decide)]; exact h107)) ?_
                refine J_eqF (F2 := va_up (va_up (va_up (va_up (va_up F 98 (oM ad (va_up (va_up (va_up f 8 b9) 16 (n9 : Int)) 18 (w.length : Int)) v)) 99 (.inl (g 0, 858, .inl (aI bh9)))) 100 (.inl (g 0, 33, .inl (aI bl9)))) 106 (.inl (g 0, 200, .inl (aI dh9)))) 107 (.inl (g 0, 260, .inl (aI tt)))) (congrArg (fun qq : Nat → Int => va_up (va_up (va_up (va_up (va_up F 98 (oM ad qq v)) 99 (.inl (g 0, 858, .inl (aI bh9)))) 100 (.inl (g 0, 33, .inl (aI bl9)))) 106 (.inl (g 0, 200, .inl (aI dh9)))) 107 (.inl (g 0, 260, .inl (aI tt)))) (up_same1 (i := 18) (a := (w.length : Int)) ((va_up_ne _ _ (by decide)).trans ((va_up_ne _ _ (by decide)).trans hf18)))) ?_
                have loop105 : ∀ (fuel : Nat) (p : Int) (nn : Nat) (w2 : List Nat) (t2 : Nat → Int) (hnn : (nn : Int) = p - la + 1) (hp9 : p ≤ pa) (hm2 : mtx t2 w2) (hl2 : w2.length + 2 * nn ≤ 220) (htg : w2 ++ layP (layC H e) nn p = w ++ layP (layC H e) (pa - la + 1).toNat pa) (hfu : nn < fuel), J l rm_M_sayReal (0, 0) "NumberTowerModel" b_M_sayReal 8 (Option.none : Option Jvm.ClassFile.FieldType) D jCl (jTys g) A (fun _ me => me.name = y_M_sayReal.name) (jv ad N (fun F' => ∃ (hh' ll' f' dh' tt' : Nat → Int) (W : Nat → Nat), reg br hh' ll' W ∧ (∀ k, k < 16 → W k = V k) ∧ (∀ j, j ≠ 8 → j ≠ 16 → j ≠ 18 → f' j = f j) ∧ f' 18 = ((w ++ rlT u d).length : Int) ∧ mtx tt' (w ++ rlT u d) ∧ okT 50 (rlT u d) ∧ F' = va_up (va_up (va_up (va_up (va_up F 98 (oM ad f' v)) 99 (aB g hh')) 100 (aL g ll')) 106 (.inl (g 0, 200, .inl (aI dh')))) 107 (.inl (g 0, 260, .inl (aI tt'))))) ad N 0 0 105 [(0, .ref (ad 98)), (1, .int (iI (a : Int))), (2, .int (iI e)), (3, .int (iI (lo : Int))), (4, .int (iI ((n9 : Int) - (lo : Int)))), (5, .int (iI la)), (6, .int (iI p))] [] (va_up (va_up (va_up (va_up (va_up F 98 (oM ad (va_up (va_up (va_up f 8 b9) 16 (n9 : Int)) 18 ((w2.length : Nat) : Int)) v)) 99 (.inl (g 0, 858, .inl (aI bh9)))) 100 (.inl (g 0, 33, .inl (aI bl9)))) 106 (.inl (g 0, 200, .inl (aI dh9)))) 107 (.inl (g 0, 260, .inl (aI t2)))) := by
                  intro fuel
                  induction fuel with
                  | zero => intro p nn w2 t2 hnn hp9 hm2 hl2 htg hfu; exact absurd hfu (Nat.not_lt_zero _)
                  | succ fuel ih =>
                    intro p nn w2 t2 hnn hp9 hm2 hl2 htg hfu
                    refine J_iload 6 d_M_sayReal_105 rfl ?_
                    refine J_iload 5 d_M_sayReal_107 rfl ?_
                    refine J_if_icmplt (tgt := 176) d_M_sayReal_109 (by decide) ⟨by omega, by omega⟩ ⟨by omega, by omega⟩ (fun c109 => ?_) (fun c109 => ?_)
                    · have ehmt15 : w2 = w ++ rlT u d := by rw [hrT]; unfold realT layF; rw [if_pos ⟨by omega, by omega⟩, ← hn9, hlz, ← show la = (if e - ((n9 : Int) - (lo : Int)) + 1 < -1 then e - ((n9 : Int) - (lo : Int)) + 1 else -1) from hla, ← show pa = (if 0 < e then e else 0) from hpa, ← htg, show nn = 0 by omega]; exact (nil_ap _).symm
                      have hmt15 : mtx t2 (w ++ rlT u d) := ehmt15 ▸ hm2
                      refine J_eqF (F2 := va_up (va_up (va_up (va_up (va_up F 98 (oM ad (va_up (va_up (va_up f 8 b9) 16 (n9 : Int)) 18 ((w ++ rlT u d).length : Int)) v)) 99 (.inl (g 0, 858, .inl (aI bh9)))) 100 (.inl (g 0, 33, .inl (aI bl9)))) 106 (.inl (g 0, 200, .inl (aI dh9)))) 107 (.inl (g 0, 260, .inl (aI t2)))) (congrArg (fun qq : Int => va_up (va_up (va_up (va_up (va_up F 98 (oM ad (va_up (va_up (va_up f 8 b9) 16 (n9 : Int)) 18 qq) v)) 99 (.inl (g 0, 858, .inl (aI bh9)))) 100 (.inl (g 0, 33, .inl (aI bl9)))) 106 (.inl (g 0, 200, .inl (aI dh9)))) 107 (.inl (g 0, 260, .inl (aI t2)))) (show ((w2.length : Nat) : Int) = ((w ++ rlT u d).length : Int) from by rw [ehmt15])) ?_
                      refine J_vret rfl d_M_sayReal_176 ⟨by decide, by decide⟩ ?_
                      refine ⟨rfl, rfl, rfl, bh9, bl9, (va_up (va_up (va_up f 8 b9) 16 (n9 : Int)) 18 ((w ++ rlT u d).length : Int)), dh9, t2, W9, hR9, ?_, ?_, (va_up_self ..), hmt15, hokr, rfl⟩
                      · exact (fun k hk => ((show (W9) k = W9 k from by rfl).trans ((hW9 k hk).trans (show (V) k = V k from by rfl))))
                      · exact (fun j h1 h2 h3 => by rw [va_up_ne _ _ h3, va_up_ne _ _ h2, va_up_ne _ _ h1])
                    · refine J_aload_n 0 d_M_sayReal_112 rfl rfl ?_
                      refine gf_M_268 (by omega) (by rw [va_up_ne _ _ (by decide), va_up_ne _ _ (by decide), va_up_ne _ _ (by decide), va_up_ne _ _ (by decide), va_up_self]) rfl d_M_sayReal_113 ?_
                      refine J_topi (r := (n9 : Int)) (congrArg iI ((va_up_ne _ _ (by decide)).trans (va_up_self ..))) ?_
                      refine J_iconst d_M_sayReal_116 ?_
                      refine J_isub d_M_sayReal_117 ?_
                      refine J_iload_n 2 d_M_sayReal_118 rfl rfl ?_
                      refine J_iload 6 d_M_sayReal_119 rfl ?_
                      refine J_isub d_M_sayReal_121 ?_
                      refine J_isub d_M_sayReal_122 ?_
                      obtain ⟨kk9, hkk⟩ : ∃ k9 : Int, k9 = (n9 : Int) - 1 - (e - p) := ⟨_, rfl⟩
                      refine J_topi (r := kk9) (congrArg iI (by rw [hkk])) ?_
                      refine J_istore (lv' := [(7, .int (iI kk9)), (0, .ref (ad 98)), (1, .int (iI (a : Int))), (2, .int (iI e)), (3, .int (iI (lo : Int))), (4, .int (iI ((n9 : Int) - (lo : Int)))), (5, .int (iI la)), (6, .int (iI p))]) d_M_sayReal_123 (by decide) rfl ?_
                      have lab156 : ∀ (cc : Nat) (hlc : layC H e p = cc) (hcb : cc < 100) , J l rm_M_sayReal (0, 0) "NumberTowerModel" b_M_sayReal 8 (Option.none : Option Jvm.ClassFile.FieldType) D jCl (jTys g) A (fun _ me => me.name = y_M_sayReal.name) (jv ad N (fun F' => ∃ (hh' ll' f' dh' tt' : Nat → Int) (W : Nat → Nat), reg br hh' ll' W ∧ (∀ k, k < 16 → W k = V k) ∧ (∀ j, j ≠ 8 → j ≠ 16 → j ≠ 18 → f' j = f j) ∧ f' 18 = ((w ++ rlT u d).length : Int) ∧ mtx tt' (w ++ rlT u d) ∧ okT 50 (rlT u d) ∧ F' = va_up (va_up (va_up (va_up (va_up F 98 (oM ad f' v)) 99 (aB g hh')) 100 (aL g ll')) 106 (.inl (g 0, 200, .inl (aI dh')))) 107 (.inl (g 0, 260, .inl (aI tt'))))) ad N 0 0 156 [(0, .ref (ad 98)), (1, .int (iI (a : Int))), (2, .int (iI e)), (3, .int (iI (lo : Int))), (4, .int (iI ((n9 : Int) - (lo : Int)))), (5, .int (iI la)), (6, .int (iI p)), (7, .int (iI kk9))] [.int (iI (cc : Int)), .ref (ad 98)] (va_up (va_up (va_up (va_up (va_up F 98 (oM ad (va_up (va_up (va_up f 8 b9) 16 (n9 : Int)) 18 ((w2.length : Nat) : Int)) v)) 99 (.inl (g 0, 858, .inl (aI bh9)))) 100 (.inl (g 0, 33, .inl (aI bl9)))) 106 (.inl (g 0, 200, .inl (aI dh9)))) 107 (.inl (g 0, 260, .inl (aI t2)))) := by
                        intro cc hlc hcb
                        refine J_callVv cw_M_278 nh_M_say pn_M_say rfl rfl (by omega) (by rw [va_up_ne _ _ (by decide), va_up_ne _ _ (by decide), va_up_ne _ _ (by decide), va_up_ne _ _ (by decide), va_up_self]) (As := [.int (iI (cc : Int))]) (rest := []) rfl (Nat.le_of_ble_eq_true rfl) ⟨by decide, by decide⟩ rfl ⟨by decide, by decide⟩ d_M_sayReal_156 (c_M_say hfl (f := va_up (va_up (va_up f 8 b9) 16 (n9 : Int)) 18 ((w2.length : Nat) : Int)) (v := v) (tt := t2) (w := w2) (c := cc) hN (by rw [va_up_ne _ _ (by decide), va_up_ne _ _ (by decide), va_up_ne _ _ (by decide), va_up_ne _ _ (by decide), va_up_self]) (by rw [va_up_self]) hm2 (va_up_self ..) (by omega)) (fun  F9 hq => ?_)
                        obtain ⟨tx16, hmt17, eF9⟩ := hq
                        refine J_eqF (F2 := va_up (va_up (va_up (va_up (va_up F 98 (oM ad (va_up (va_up (va_up f 8 b9) 16 (n9 : Int)) 18 (((w2 ++ [cc]).length : Nat) : Int)) v)) 99 (.inl (g 0, 858, .inl (aI bh9)))) 100 (.inl (g 0, 33, .inl (aI bl9)))) 106 (.inl (g 0, 200, .inl (aI dh9)))) 107 (.inl (g 0, 260, .inl (aI tx16)))) ((eF9.trans (congrArg (fun qq : Nat → Int => va_up (va_up (va_up (va_up (va_up (va_up (va_up F 98 (oM ad (va_up (va_up (va_up f 8 b9) 16 (n9 : Int)) 18 ((w2.length : Nat) : Int)) v)) 99 (.inl (g 0, 858, .inl (aI bh9)))) 100 (.inl (g 0, 33, .inl (aI bl9)))) 106 (.inl (g 0, 200, .inl (aI dh9)))) 107 (.inl (g 0, 260, .inl (aI t2)))) 107 (.inl (g 0, 260, .inl (aI tx16)))) 98 (oM ad qq v)) (up_in0))).trans (Eq.trans (congrArg (fun q : Nat → va_E => va_up q 98 (oM ad (va_up (va_up (va_up f 8 b9) 16 (n9 : Int)) 18 (((w2 ++ [cc]).length : Nat) : Int)) v)) (up_in0)) (up_in4 (by decide) (by decide) (by decide) (by decide)))) ?_
                        refine J_iload 6 d_M_sayReal_159 rfl ?_
                        refine J_ifne (tgt := 170) d_M_sayReal_161 (by decide) ⟨by omega, by omega⟩ (fun c161 => ?_) (fun c161 => ?_)
                        · refine J_iinc (j := 6) (b := p - 1) (lv' := [(6, .int (iI (p - 1))), (0, .ref (ad 98)), (1, .int (iI (a : Int))), (2, .int (iI e)), (3, .int (iI (lo : Int))), (4, .int (iI ((n9 : Int) - (lo : Int)))), (5, .int (iI la)), (7, .int (iI kk9))]) d_M_sayReal_170 rfl (by omega) (by decide) rfl ?_
                          refine J_goto (tgt := 105) d_M_sayReal_173 (by decide) ?_
                          refine J_pick (lv' := [(0, .ref (ad 98)), (1, .int (iI (a : Int))), (2, .int (iI e)), (3, .int (iI (lo : Int))), (4, .int (iI ((n9 : Int) - (lo : Int)))), (5, .int (iI la)), (6, .int (iI (p - 1)))]) [1, 2, 3, 4, 5, 6, 0] rfl ?_
                          have hst := layP_1 (c := layC H e) (n := nn - 1) (p := p) (by omega)
                          rw [show nn - 1 + 1 = nn by omega, hlc] at hst
                          rw [hst] at htg
                          exact ih (p - 1) (nn - 1) (w2 ++ [cc]) tx16 (by omega) (by omega) hmt17 (by simp only [List.length_append, List.length_cons, List.length_nil]; omega) (by rw [← htg, ap1]) (by omega)
                        · refine J_aload_n 0 d_M_sayReal_164 rfl rfl ?_
                          refine J_bipush d_M_sayReal_165 (i8_ok (by decide)) ?_
                          refine J_callVv cw_M_278 nh_M_say pn_M_say rfl rfl (by omega) (by rw [va_up_ne _ _ (by decide), va_up_ne _ _ (by decide), va_up_ne _ _ (by decide), va_up_ne _ _ (by decide), va_up_self]) (As := [.int (iI 46)]) (rest := []) rfl (Nat.le_of_ble_eq_true rfl) ⟨by decide, by decide⟩ rfl ⟨by decide, by decide⟩ d_M_sayReal_167 (c_M_say hfl (f := va_up (va_up (va_up f 8 b9) 16 (n9 : Int)) 18 (((w2 ++ [cc]).length : Nat) : Int)) (v := v) (tt := tx16) (w := (w2 ++ [cc])) (c := (46 : Nat)) hN (by rw [va_up_ne _ _ (by decide), va_up_ne _ _ (by decide), va_up_ne _ _ (by decide), va_up_ne _ _ (by decide), va_up_self]) (by rw [va_up_self]) hmt17 (va_up_self ..) (by simp only [List.length_append, List.length_cons, List.length_nil]; omega)) (fun  F10 hq => ?_)
                          obtain ⟨tx18, hmt19, eF10⟩ := hq
                          refine J_eqF (F2 := va_up (va_up (va_up (va_up (va_up F 98 (oM ad (va_up (va_up (va_up f 8 b9) 16 (n9 : Int)) 18 ((((w2 ++ [cc]) ++ [(46 : Nat)]).length : Nat) : Int)) v)) 99 (.inl (g 0, 858, .inl (aI bh9)))) 100 (.inl (g 0, 33, .inl (aI bl9)))) 106 (.inl (g 0, 200, .inl (aI dh9)))) 107 (.inl (g 0, 260, .inl (aI tx18)))) ((eF10.trans (congrArg (fun qq : Nat → Int => va_up (va_up (va_up (va_up (va_up (va_up (va_up F 98 (oM ad (va_up (va_up (va_up f 8 b9) 16 (n9 : Int)) 18 (((w2 ++ [cc]).length : Nat) : Int)) v)) 99 (.inl (g 0, 858, .inl (aI bh9)))) 100 (.inl (g 0, 33, .inl (aI bl9)))) 106 (.inl (g 0, 200, .inl (aI dh9)))) 107 (.inl (g 0, 260, .inl (aI tx16)))) 107 (.inl (g 0, 260, .inl (aI tx18)))) 98 (oM ad qq v)) (up_in0))).trans (Eq.trans (congrArg (fun q : Nat → va_E => va_up q 98 (oM ad (va_up (va_up (va_up f 8 b9) 16 (n9 : Int)) 18 ((((w2 ++ [cc]) ++ [(46 : Nat)]).length : Nat) : Int)) v)) (up_in0)) (up_in4 (by decide) (by decide) (by decide) (by decide)))) ?_
                          refine J_iinc (j := 6) (b := p - 1) (lv' := [(6, .int (iI (p - 1))), (0, .ref (ad 98)), (1, .int (iI (a : Int))), (2, .int (iI e)), (3, .int (iI (lo : Int))), (4, .int (iI ((n9 : Int) - (lo : Int)))), (5, .int (iI la)), (7, .int (iI kk9))]) d_M_sayReal_170 rfl (by omega) (by decide) rfl ?_
                          refine J_goto (tgt := 105) d_M_sayReal_173 (by decide) ?_
                          refine J_pick (lv' := [(0, .ref (ad 98)), (1, .int (iI (a : Int))), (2, .int (iI e)), (3, .int (iI (lo : Int))), (4, .int (iI ((n9 : Int) - (lo : Int)))), (5, .int (iI la)), (6, .int (iI (p - 1)))]) [1, 2, 3, 4, 5, 6, 0] rfl ?_
                          have hst := layP_0 (c := layC H e) (n := nn - 1) (p := p) (by omega)
                          rw [show nn - 1 + 1 = nn by omega, hlc] at hst
                          rw [hst] at htg
                          exact ih (p - 1) (nn - 1) ((w2 ++ [cc]) ++ [(46 : Nat)]) tx18 (by omega) (by omega) hmt19 (by simp only [List.length_append, List.length_cons, List.length_nil]; omega) (by rw [← htg, ap2]) (by omega)
                      refine J_aload_n 1 d_M_sayReal_125 rfl rfl ?_
                      refine J_iload 0 d_M_sayReal_126 rfl ?_
                      refine J_aload_n 1 d_M_sayReal_128 rfl rfl ?_
                      refine gf_M_268 (by omega) (by rw [va_up_ne _ _ (by decide), va_up_ne _ _ (by decide), va_up_ne _ _ (by decide), va_up_ne _ _ (by decide), va_up_self]) rfl d_M_sayReal_129 ?_
                      refine J_topi (r := (n9 : Int)) (congrArg iI ((va_up_ne _ _ (by decide)).trans (va_up_self ..))) ?_
                      refine J_if_icmpge (tgt := 154) d_M_sayReal_132 (by decide) ⟨by omega, by omega⟩ ⟨by omega, by omega⟩ (fun c132 => ?_) (fun c132 => ?_)
                      · refine J_bipush d_M_sayReal_154 (i8_ok (by decide)) ?_
                        refine J_pick (lv' := [(0, .ref (ad 98)), (1, .int (iI (a : Int))), (2, .int (iI e)), (3, .int (iI (lo : Int))), (4, .int (iI ((n9 : Int) - (lo : Int)))), (5, .int (iI la)), (6, .int (iI p)), (7, .int (iI kk9))]) [1, 2, 3, 4, 5, 6, 7, 0] rfl ?_
                        exact lab156 48 (by unfold layC; rw [← hn9, hlz, if_neg (fun w => by have w1 := w.1; have w2 := w.2; omega)]) (by decide)
                      · refine J_iload 0 d_M_sayReal_135 rfl ?_
                        refine J_iload_n 4 d_M_sayReal_137 rfl rfl ?_
                        refine J_if_icmplt (tgt := 154) d_M_sayReal_138 (by decide) ⟨by omega, by omega⟩ ⟨by omega, by omega⟩ (fun c138 => ?_) (fun c138 => ?_)
                        · refine J_bipush d_M_sayReal_154 (i8_ok (by decide)) ?_
                          refine J_pick (lv' := [(0, .ref (ad 98)), (1, .int (iI (a : Int))), (2, .int (iI e)), (3, .int (iI (lo : Int))), (4, .int (iI ((n9 : Int) - (lo : Int)))), (5, .int (iI la)), (6, .int (iI p)), (7, .int (iI kk9))]) [1, 2, 3, 4, 5, 6, 7, 0] rfl ?_
                          exact lab156 48 (by unfold layC; rw [← hn9, hlz, if_neg (fun w => by have w1 := w.1; have w2 := w.2; omega)]) (by decide)
                        · refine J_bipush d_M_sayReal_141 (i8_ok (by decide)) ?_
                          refine J_aload_n 1 d_M_sayReal_143 rfl rfl ?_
                          refine gf_M_33 (by omega) (by rw [va_up_ne _ _ (by decide), va_up_ne _ _ (by decide), va_up_ne _ _ (by decide), va_up_ne _ _ (by decide), va_up_self]) rfl d_M_sayReal_144 ?_
                          refine J_iload 0 d_M_sayReal_147 rfl ?_
                          refine J_topi (r := ((kk9.toNat : Nat) : Int)) (congrArg iI (by omega)) ?_
                          refine J_iaload 0 rfl (by omega) (by rw [va_up_ne _ _ (by decide), va_up_self]) (by omega) d_M_sayReal_149 ?_
                          refine J_topi (r := dh9 kk9.toNat) (congrArg (fun q => iI (dh9 q)) (by omega)) ?_
                          refine J_topi (r := (((dgv 10 H kk9.toNat : Nat)) : Int)) (congrArg iI (hdg _ (by omega))) ?_
                          refine J_iadd d_M_sayReal_150 ?_
                          refine J_goto (tgt := 156) d_M_sayReal_151 (by decide) ?_
                          refine J_pick (lv' := [(0, .ref (ad 98)), (1, .int (iI (a : Int))), (2, .int (iI e)), (3, .int (iI (lo : Int))), (4, .int (iI ((n9 : Int) - (lo : Int)))), (5, .int (iI la)), (6, .int (iI p)), (7, .int (iI kk9))]) [1, 2, 3, 4, 5, 6, 7, 0] rfl ?_
                          exact lab156 (48 + (dgv 10 H kk9.toNat)) (by unfold layC; rw [← hn9, hlz, if_pos ⟨by omega, by omega⟩, ← hkk]) (by have := dgv_b (b := 10) (v := H) (k := kk9.toNat) (by decide); omega)
                exact loop105 (((pa - la + 1).toNat) + 1) pa ((pa - la + 1).toNat) w tt (by omega) (by omega) hmt (by omega) rfl (Nat.lt_succ_self _)
              refine J_iload_n 3 d_M_sayReal_94 rfl rfl ?_
              refine J_ifle (tgt := 102) d_M_sayReal_95 (by decide) ⟨by omega, by omega⟩ (fun c95 => ?_) (fun c95 => ?_)
              · refine J_iconst d_M_sayReal_102 ?_
                refine J_pick (lv' := [(0, .ref (ad 98)), (1, .int (iI (a : Int))), (2, .int (iI e)), (3, .int (iI (lo : Int))), (4, .int (iI ((n9 : Int) - (lo : Int)))), (5, .int (iI la))]) [1, 2, 3, 4, 5, 0] rfl ?_
                exact lab103 (0) (by rw [if_neg (by omega)])
              · refine J_iload_n 3 d_M_sayReal_98 rfl rfl ?_
                refine J_goto (tgt := 103) d_M_sayReal_99 (by decide) ?_
                refine J_pick (lv' := [(0, .ref (ad 98)), (1, .int (iI (a : Int))), (2, .int (iI e)), (3, .int (iI (lo : Int))), (4, .int (iI ((n9 : Int) - (lo : Int)))), (5, .int (iI la))]) [1, 2, 3, 4, 5, 0] rfl ?_
                exact lab103 (e) (by rw [if_pos (by omega)])
            refine J_iload_n 3 d_M_sayReal_72 rfl rfl ?_
            refine J_iload 0 d_M_sayReal_73 rfl ?_
            refine J_isub d_M_sayReal_75 ?_
            refine J_iconst d_M_sayReal_76 ?_
            refine J_iadd d_M_sayReal_77 ?_
            refine J_iconst d_M_sayReal_78 ?_
            refine J_if_icmpge (tgt := 91) d_M_sayReal_79 (by decide) ⟨by omega, by omega⟩ ⟨by omega, by omega⟩ (fun c79 => ?_) (fun c79 => ?_)
            · refine J_iconst d_M_sayReal_91 ?_
              refine J_pick (lv' := [(0, .ref (ad 98)), (1, .int (iI (a : Int))), (2, .int (iI e)), (3, .int (iI (lo : Int))), (4, .int (iI ((n9 : Int) - (lo : Int))))]) [1, 2, 3, 4, 0] rfl ?_
              exact lab92 (-1) (by rw [if_neg (by omega)])
            · refine J_iload_n 3 d_M_sayReal_82 rfl rfl ?_
              refine J_iload 0 d_M_sayReal_83 rfl ?_
              refine J_isub d_M_sayReal_85 ?_
              refine J_iconst d_M_sayReal_86 ?_
              refine J_iadd d_M_sayReal_87 ?_
              refine J_goto (tgt := 92) d_M_sayReal_88 (by decide) ?_
              refine J_pick (lv' := [(0, .ref (ad 98)), (1, .int (iI (a : Int))), (2, .int (iI e)), (3, .int (iI (lo : Int))), (4, .int (iI ((n9 : Int) - (lo : Int))))]) [1, 2, 3, 4, 0] rfl ?_
              exact lab92 ((e - ((n9 : Int) - (lo : Int))) + 1) (by rw [if_pos (by omega)])
        · refine J_iinc (j := 3) (b := (lo : Int) + 1) (lv' := [(3, .int (iI ((lo : Int) + 1))), (0, .ref (ad 98)), (1, .int (iI (a : Int))), (2, .int (iI e))]) d_M_sayReal_47 rfl (by omega) (by decide) rfl ?_
          refine J_goto (tgt := 38) d_M_sayReal_50 (by decide) ?_
          refine J_pick (lv' := [(0, .ref (ad 98)), (1, .int (iI (a : Int))), (2, .int (iI e)), (3, .int (iI ((lo : Int) + 1)))]) [1, 2, 3, 0] rfl ?_
          refine ih (lo + 1) ?_ (fun k hk => by
              by_cases q : k = lo
              · subst q; omega
              · exact hzz2 k (by omega)) (by omega)
          · have h9 : dgv 10 H lo = 0 := by omega
            have h8 : lo ≠ n9 - 1 := fun q => htop (by rw [← q]; exact h9)
            omega
    exact loop38 ((n9 - 0) + 1) 0 (by omega) (fun k hk => absurd hk (Nat.not_lt_zero _)) (Nat.lt_succ_self _)
  · refine J_aload_n 0 d_M_sayReal_11 rfl rfl ?_
    refine J_bipush d_M_sayReal_12 (i8_ok (by decide)) ?_
    refine J_callVv cw_M_278 nh_M_say pn_M_say rfl rfl (by omega) hO (As := [.int (iI 48)]) (rest := []) rfl (Nat.le_of_ble_eq_true rfl) ⟨by decide, by decide⟩ rfl ⟨by decide, by decide⟩ d_M_sayReal_14 (c_M_say hfl (f := f) (v := v) (tt := tt) (w := w) (c := (48 : Nat)) hN hO h107 hmt (hf18) (by omega)) (fun  F11 hq => ?_)
    obtain ⟨tx20, hmt21, eF11⟩ := hq
    refine J_eqF (F2 := va_up (va_up F 107 (.inl (g 0, 260, .inl (aI tx20)))) 98 (oM ad (va_up f 18 (((w ++ [(48 : Nat)]).length : Nat) : Int)) v)) eF11 ?_
    refine J_aload_n 0 d_M_sayReal_17 rfl rfl ?_
    refine J_bipush d_M_sayReal_18 (i8_ok (by decide)) ?_
    refine J_callVv cw_M_278 nh_M_say pn_M_say rfl rfl (by omega) (by rw [va_up_self]) (As := [.int (iI 46)]) (rest := []) rfl (Nat.le_of_ble_eq_true rfl) ⟨by decide, by decide⟩ rfl ⟨by decide, by decide⟩ d_M_sayReal_20 (c_M_say hfl (f := va_up f 18 (((w ++ [(48 : Nat)]).length : Nat) : Int)) (v := v) (tt := tx20) (w := (w ++ [(48 : Nat)])) (c := (46 : Nat)) hN (by rw [va_up_self]) (by rw [va_up_ne _ _ (by decide), va_up_self]) hmt21 (va_up_self ..) (by simp only [List.length_append, List.length_cons, List.length_nil]; omega)) (fun  F12 hq => ?_)
    obtain ⟨tx22, hmt23, eF12⟩ := hq
    refine J_eqF (F2 := va_up (va_up F 107 (.inl (g 0, 260, .inl (aI tx22)))) 98 (oM ad (va_up f 18 ((((w ++ [(48 : Nat)]) ++ [(46 : Nat)]).length : Nat) : Int)) v)) ((eF12.trans (congrArg (fun qq : Nat → Int => va_up (va_up (va_up (va_up F 107 (.inl (g 0, 260, .inl (aI tx20)))) 98 (oM ad (va_up f 18 (((w ++ [(48 : Nat)]).length : Nat) : Int)) v)) 107 (.inl (g 0, 260, .inl (aI tx22)))) 98 (oM ad qq v)) (up_in0))).trans (Eq.trans (congrArg (fun q : Nat → va_E => va_up q 98 (oM ad (va_up f 18 ((((w ++ [(48 : Nat)]) ++ [(46 : Nat)]).length : Nat) : Int)) v)) (up_in1 (by decide))) (up_in0))) ?_
    refine J_aload_n 0 d_M_sayReal_23 rfl rfl ?_
    refine J_bipush d_M_sayReal_24 (i8_ok (by decide)) ?_
    refine J_callVv cw_M_278 nh_M_say pn_M_say rfl rfl (by omega) (by rw [va_up_self]) (As := [.int (iI 48)]) (rest := []) rfl (Nat.le_of_ble_eq_true rfl) ⟨by decide, by decide⟩ rfl ⟨by decide, by decide⟩ d_M_sayReal_26 (c_M_say hfl (f := va_up f 18 ((((w ++ [(48 : Nat)]) ++ [(46 : Nat)]).length : Nat) : Int)) (v := v) (tt := tx22) (w := ((w ++ [(48 : Nat)]) ++ [(46 : Nat)])) (c := (48 : Nat)) hN (by rw [va_up_self]) (by rw [va_up_ne _ _ (by decide), va_up_self]) hmt23 (va_up_self ..) (by simp only [List.length_append, List.length_cons, List.length_nil]; omega)) (fun  F13 hq => ?_)
    obtain ⟨tx24, hmt25, eF13⟩ := hq
    refine J_eqF (F2 := va_up (va_up F 107 (.inl (g 0, 260, .inl (aI tx24)))) 98 (oM ad (va_up f 18 (((((w ++ [(48 : Nat)]) ++ [(46 : Nat)]) ++ [(48 : Nat)]).length : Nat) : Int)) v)) ((eF13.trans (congrArg (fun qq : Nat → Int => va_up (va_up (va_up (va_up F 107 (.inl (g 0, 260, .inl (aI tx22)))) 98 (oM ad (va_up f 18 ((((w ++ [(48 : Nat)]) ++ [(46 : Nat)]).length : Nat) : Int)) v)) 107 (.inl (g 0, 260, .inl (aI tx24)))) 98 (oM ad qq v)) (up_in0))).trans (Eq.trans (congrArg (fun q : Nat → va_E => va_up q 98 (oM ad (va_up f 18 (((((w ++ [(48 : Nat)]) ++ [(46 : Nat)]) ++ [(48 : Nat)]).length : Nat) : Int)) v)) (up_in1 (by decide))) (up_in0))) ?_
    refine J_eqF (F2 := va_up (va_up (va_up F 107 (.inl (g 0, 260, .inl (aI tx24)))) 98 (oM ad (va_up f 18 (((((w ++ [(48 : Nat)]) ++ [(46 : Nat)]) ++ [(48 : Nat)]).length : Nat) : Int)) v)) 99 (.inl (g 0, 858, .inl (aI hh)))) (up_same1 (by rw [va_up_ne _ _ (by decide), va_up_ne _ _ (by decide)]; exact hB)) ?_
    refine J_eqF (F2 := va_up (va_up (va_up (va_up F 107 (.inl (g 0, 260, .inl (aI tx24)))) 98 (oM ad (va_up f 18 (((((w ++ [(48 : Nat)]) ++ [(46 : Nat)]) ++ [(48 : Nat)]).length : Nat) : Int)) v)) 99 (.inl (g 0, 858, .inl (aI hh)))) 100 (.inl (g 0, 33, .inl (aI ll)))) (up_same1 (by rw [va_up_ne _ _ (by decide), va_up_ne _ _ (by decide), va_up_ne _ _ (by decide)]; exact hL)) ?_
    refine J_eqF (F2 := va_up (va_up (va_up (va_up (va_up F 107 (.inl (g 0, 260, .inl (aI tx24)))) 98 (oM ad (va_up f 18 (((((w ++ [(48 : Nat)]) ++ [(46 : Nat)]) ++ [(48 : Nat)]).length : Nat) : Int)) v)) 99 (.inl (g 0, 858, .inl (aI hh)))) 100 (.inl (g 0, 33, .inl (aI ll)))) 106 (.inl (g 0, 200, .inl (aI dh)))) (up_same1 (by rw [va_up_ne _ _ (by decide), va_up_ne _ _ (by decide), va_up_ne _ _ (by decide), va_up_ne _ _ (by decide)]; exact h106)) ?_
    refine J_eqF (F2 := va_up (va_up (va_up (va_up (va_up F 98 (oM ad (va_up f 18 (((((w ++ [(48 : Nat)]) ++ [(46 : Nat)]) ++ [(48 : Nat)]).length : Nat) : Int)) v)) 99 (.inl (g 0, 858, .inl (aI hh)))) 100 (.inl (g 0, 33, .inl (aI ll)))) 106 (.inl (g 0, 200, .inl (aI dh)))) 107 (.inl (g 0, 260, .inl (aI tx24)))) (Eq.trans (congrArg (fun qq : Nat → va_E => va_up (va_up (va_up qq 99 (.inl (g 0, 858, .inl (aI hh)))) 100 (.inl (g 0, 33, .inl (aI ll)))) 106 (.inl (g 0, 200, .inl (aI dh)))) (up_cm (by decide))) (Eq.trans (congrArg (fun qq : Nat → va_E => va_up (va_up qq 100 (.inl (g 0, 33, .inl (aI ll)))) 106 (.inl (g 0, 200, .inl (aI dh)))) (up_cm (by decide))) (Eq.trans (congrArg (fun qq : Nat → va_E => va_up qq 106 (.inl (g 0, 200, .inl (aI dh)))) (up_cm (by decide))) (up_cm (by decide))))) ?_
    have hokr : okT 50 (rlT u d) := by have h9 : u = 0 := (real_z hre hd0 hrr).mp c7; unfold rlT; rw [if_pos h9]; exact okT_le (okT_cons (by decide) (okT_cons (by decide) (okT_one (by decide)))) (by decide)
    have ehmt26 : (((w ++ [(48 : Nat)]) ++ [(46 : Nat)]) ++ [(48 : Nat)]) = w ++ rlT u d := by have h9 : u = 0 := (real_z hre hd0 hrr).mp c7; unfold rlT; rw [if_pos h9]; simp only [List.append_assoc]; rfl
    have hmt26 : mtx tx24 (w ++ rlT u d) := ehmt26 ▸ hmt25
    refine J_eqF (F2 := va_up (va_up (va_up (va_up (va_up F 98 (oM ad (va_up f 18 ((w ++ rlT u d).length : Int)) v)) 99 (.inl (g 0, 858, .inl (aI hh)))) 100 (.inl (g 0, 33, .inl (aI ll)))) 106 (.inl (g 0, 200, .inl (aI dh)))) 107 (.inl (g 0, 260, .inl (aI tx24)))) (congrArg (fun qq : Int => va_up (va_up (va_up (va_up (va_up F 98 (oM ad (va_up f 18 qq) v)) 99 (.inl (g 0, 858, .inl (aI hh)))) 100 (.inl (g 0, 33, .inl (aI ll)))) 106 (.inl (g 0, 200, .inl (aI dh)))) 107 (.inl (g 0, 260, .inl (aI tx24)))) (show (((((w ++ [(48 : Nat)]) ++ [(46 : Nat)]) ++ [(48 : Nat)]).length : Nat) : Int) = ((w ++ rlT u d).length : Int) from by rw [ehmt26])) ?_
    refine J_vret rfl d_M_sayReal_29 ⟨by decide, by decide⟩ ?_
    refine ⟨rfl, rfl, rfl, hh, ll, (va_up f 18 ((w ++ rlT u d).length : Int)), dh, tx24, V, hR, ?_, ?_, (va_up_self ..), hmt26, hokr, rfl⟩
    · exact (fun k hk => (show (V) k = V k from by rfl))
    · exact (fun j h1 h2 h3 => by rw [va_up_ne _ _ h3])
