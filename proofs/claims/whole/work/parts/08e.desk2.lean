/-! the class's desk: kinds settled, sums of parts, floors -/
theorem euc_end {A B p q i : Nat} (h : i = 0 ∨ p * q * 2 ^ (i - 1) ≤ A * B) (hA : A < 2 ^ 400) (hB : B < 2 ^ 400) (hp : q ≠ 0) (hpp : p ≠ 0) : i < 1000 := by
  rcases h with h | h
  · omega
  · have h1 : 1 ≤ p * q := Nat.mul_pos (Nat.pos_of_ne_zero hpp) (Nat.pos_of_ne_zero hp)
    have h2 : 1 * 2 ^ (i - 1) ≤ p * q * 2 ^ (i - 1) := Nat.mul_le_mul_right _ h1
    have h3 : A * B < 2 ^ 400 * 2 ^ 400 := Nat.mul_lt_mul'' hA hB
    rw [← Nat.pow_add] at h3
    have h4 : 2 ^ (i - 1) < 2 ^ 800 := by omega
    have h5 := (Nat.pow_lt_pow_iff_right (by decide : 1 < 2)).mp h4
    omega
theorem euc_step {A B p q i : Nat} (h : i = 0 ∨ p * q * 2 ^ (i - 1) ≤ A * B) (h0 : i = 0 → p * q ≤ A * B) (hq : q ≠ 0) (hlt : i = 0 ∨ q < p) : q * (p % q) * 2 ^ i ≤ A * B := by
  have hm := Nat.mod_lt p (Nat.pos_of_ne_zero hq)
  by_cases z : i = 0
  · subst z
    rw [Nat.pow_zero, Nat.mul_one]
    exact Nat.le_trans (by rw [Nat.mul_comm p]; exact Nat.mul_le_mul_left _ (Nat.mod_le _ _)) (h0 rfl)
  · have h1 := h.resolve_left z
    have h2 := hlt.resolve_left z
    refine Nat.le_trans ?_ h1
    have h3 : p % q * 2 ≤ p := by
      have h4 := Nat.div_add_mod p q
      have h5 : 1 ≤ p / q := by rw [Nat.le_div_iff_mul_le (Nat.pos_of_ne_zero hq)]; omega
      have h6 : q * 1 ≤ q * (p / q) := Nat.mul_le_mul_left _ h5
      omega
    obtain ⟨k, rfl⟩ : ∃ k, i = k + 1 := ⟨i - 1, by omega⟩
    rw [Nat.add_sub_cancel, Nat.pow_succ, show q * (p % q) * (2 ^ k * 2) = q * (p % q * 2) * 2 ^ k by ac_rfl, Nat.mul_comm p q]
    exact Nat.mul_le_mul_right _ (Nat.mul_le_mul_left _ h3)
theorem euc_gcd {p q : Nat} : Nat.gcd (p % q) q = Nat.gcd q p := (Nat.gcd_rec q p).symm
set_option maxRecDepth 100000 in
set_option maxHeartbeats 4000000 in
theorem c_D_reduceOut {l : Launch} (hfl : l.flags = flags0) {D : va_G} {g : Nat → ClassId} {ad : Nat → Nat} {N : Nat} {F0 : Nat → va_E} {W : Nat → Nat} {K S : Nat → Int} {X Y : Nat}
    (hN : 109 ≤ N) (hW : bW W) (hDk : F0 9 = oD ad) (hX : W 11 = X) (hY : W 13 = Y) (hY0 : 0 < Y) (hXb : X < 2 ^ 400) (hYb : Y < 2 ^ 400) :
    JC l y_D_reduceOut b_D_reduceOut 5 (Option.none : Option Jvm.ClassFile.FieldType) rm_D_reduceOut (0, 0) D jCl (jTys g) ad N (cF ad g F0 W K S) [.ref (ad 9)] (jv ad N (fun F' => ∃ W' : Nat → Nat, bW W' ∧ (∀ j, j ≠ 11 → j ≠ 13 → j ≠ 25 → j ≠ 27 → j ≠ 29 → W' j = W j) ∧ W' 11 = lowu X Y ∧ W' 13 = lowd X Y ∧ F' = cF ad g F0 W' K S)) := by
  have hg0 := Nat.gcd_pos_of_pos_right X hY0
  have hgY := Nat.gcd_le_right X hY0
  refine JC.go hfl (own := "NumberTower$Desk") (lv := [(0, .ref (ad 9))]) rfl (by decide +kernel) (Nat.le_of_ble_eq_true rfl) rfl (fun A => ?_)
  refine J_aload_n 0 d_D_reduceOut_0 rfl rfl ?_
  refine gf_D_31 (by omega) ((cF_0 (by decide)).trans hDk) rfl d_D_reduceOut_1 ?_
  refine J_astore_n (lv' := [(1, .ref (ad 27)), (0, .ref (ad 9))]) d_D_reduceOut_4 rfl (by decide) rfl ?_
  refine J_aload_n 1 d_D_reduceOut_5 rfl rfl ?_
  refine gf_D_34 (by omega) ((cF_0 (by decide)).trans hDk) rfl d_D_reduceOut_6 ?_
  refine J_astore_n (lv' := [(2, .ref (ad 29)), (1, .ref (ad 27)), (0, .ref (ad 9))]) d_D_reduceOut_9 rfl (by decide) rfl ?_
  refine J_aload_n 1 d_D_reduceOut_10 rfl rfl ?_
  refine J_aload_n 2 d_D_reduceOut_11 rfl rfl ?_
  refine gf_D_12 (by omega) ((cF_0 (by decide)).trans hDk) rfl d_D_reduceOut_12 ?_
  refine gf_D_76 (by omega) (cF_U (by decide) rfl rfl) rfl d_D_reduceOut_15 ?_
  refine J_callVv cw_D_89 nh_N_copyFrom pn_N_copyFrom rfl rfl (by omega) (cF_N (by decide) rfl) (As := [.ref (ad 11)]) (rest := []) rfl (Nat.le_of_ble_eq_true rfl) ⟨by decide, by decide⟩ rfl ⟨by decide, by decide⟩ d_D_reduceOut_18 (n_copyFrom hfl (F0 := F0) (W := W) (K := K) (S := S) (k := 27) (m := 11) (hN := by omega) (hW := hW) (hk := (by decide)) (hm := (by decide)) (x := X) (hx := hX) (hd := (by decide))) (fun  F4 hq => ?_)
  obtain ⟨hW2, eF3⟩ := hq
  refine J_eqF (F2 := cF ad g F0 (va_up W 27 X) K S) eF3 ?_
  refine J_aload_n 0 d_D_reduceOut_21 rfl rfl ?_
  refine J_aload_n 2 d_D_reduceOut_22 rfl rfl ?_
  refine gf_D_12 (by omega) ((cF_0 (by decide)).trans hDk) rfl d_D_reduceOut_23 ?_
  refine gf_D_79 (by omega) (cF_U (by decide) rfl rfl) rfl d_D_reduceOut_26 ?_
  refine J_callVv cw_D_89 nh_N_copyFrom pn_N_copyFrom rfl rfl (by omega) (cF_N (by decide) (va_up_ne _ _ (by decide))) (As := [.ref (ad 13)]) (rest := []) rfl (Nat.le_of_ble_eq_true rfl) ⟨by decide, by decide⟩ rfl ⟨by decide, by decide⟩ d_D_reduceOut_29 (n_copyFrom hfl (F0 := F0) (W := va_up W 27 X) (K := K) (S := S) (k := 29) (m := 13) (hN := by omega) (hW := hW2) (hk := (by decide)) (hm := (by decide)) (x := Y) (hx := ((va_up_ne _ _ (by decide)).trans hY)) (hd := (by decide))) (fun  F8 hq => ?_)
  obtain ⟨hW6, eF7⟩ := hq
  refine J_eqF (F2 := cF ad g F0 (va_up (va_up W 27 X) 29 Y) K S) eF7 ?_
  refine J_iconst d_D_reduceOut_32 ?_
  refine J_istore_n (lv' := [(3, .int (iI 0)), (2, .ref (ad 29)), (1, .ref (ad 27)), (0, .ref (ad 9))]) d_D_reduceOut_33 rfl (by decide) rfl ?_
  refine J_pick (lv' := [(0, .ref (ad 9)), (1, .ref (ad 27)), (2, .ref (ad 29)), (3, .int (iI 0))]) [3, 2, 1, 0] rfl ?_
  have loop34 : ∀ (fuel : Nat) (i : Nat) (pa : Nat) (pb : Nat) (p : Nat) (q : Nat) (W1 : Nat → Nat) (hi : i ≤ 1000) (hab : ((pa = 27 ∧ pb = 29) ∨ (pa = 29 ∧ pb = 27))) (hpa : isN pa) (hpb : isN pb) (hW1 : bW W1) (hfr : ∀ j, j ≠ 25 → j ≠ 27 → j ≠ 29 → W1 j = W j) (hvp : W1 pa = p) (hvq : W1 pb = q) (hgc : Nat.gcd q p = Nat.gcd X Y) (hpq : p < 2 ^ 400 ∧ q < 2 ^ 400) (hpm : i = 0 ∨ p * q * 2 ^ (i - 1) ≤ X * Y) (hp0 : i = 0 → p * q ≤ X * Y) (hlt : i = 0 ∨ q < p) (hfu : q < fuel), J l rm_D_reduceOut (0, 0) "NumberTower$Desk" b_D_reduceOut 5 (Option.none : Option Jvm.ClassFile.FieldType) D jCl (jTys g) A (fun _ me => me.name = y_D_reduceOut.name) (jv ad N (fun F' => ∃ W' : Nat → Nat, bW W' ∧ (∀ j, j ≠ 11 → j ≠ 13 → j ≠ 25 → j ≠ 27 → j ≠ 29 → W' j = W j) ∧ W' 11 = lowu X Y ∧ W' 13 = lowd X Y ∧ F' = cF ad g F0 W' K S)) ad N 0 0 34 [(0, .ref (ad 9)), (1, .ref (ad pa)), (2, .ref (ad pb)), (3, .int (iI (i : Int)))] [] (cF ad g F0 W1 K S) := by
    intro fuel
    induction fuel with
    | zero => intro i pa pb p q W1 hi hab hpa hpb hW1 hfr hvp hvq hgc hpq hpm hp0 hlt hfu; exact absurd hfu (Nat.not_lt_zero _)
    | succ fuel ih =>
      intro i pa pb p q W1 hi hab hpa hpb hW1 hfr hvp hvq hgc hpq hpm hp0 hlt hfu
      refine J_iload_n 3 d_D_reduceOut_34 rfl rfl ?_
      refine J_sipush d_D_reduceOut_35 (i16_ok (by decide)) ?_
      have lab71 : ∀  (hvg : W1 pa = Nat.gcd X Y) , J l rm_D_reduceOut (0, 0) "NumberTower$Desk" b_D_reduceOut 5 (Option.none : Option Jvm.ClassFile.FieldType) D jCl (jTys g) A (fun _ me => me.name = y_D_reduceOut.name) (jv ad N (fun F' => ∃ W' : Nat → Nat, bW W' ∧ (∀ j, j ≠ 11 → j ≠ 13 → j ≠ 25 → j ≠ 27 → j ≠ 29 → W' j = W j) ∧ W' 11 = lowu X Y ∧ W' 13 = lowd X Y ∧ F' = cF ad g F0 W' K S)) ad N 0 0 71 [(0, .ref (ad 9)), (1, .ref (ad pa))] [] (cF ad g F0 W1 K S) := by
        intro  hvg
        refine J_aload_n 1 d_D_reduceOut_71 rfl rfl ?_
        refine J_callVi cw_D_174 nh_N_isOne pn_N_isOne rfl rfl (by omega) (cF_N hpa hvg) (As := []) (rest := []) rfl (Nat.le_of_ble_eq_true rfl) ⟨by decide, by decide⟩ rfl ⟨by decide, by decide⟩ d_D_reduceOut_72 (n_isOne hfl (F0 := F0) (W := W1) (K := K) (S := S) (k := pa) (hN := by omega) (hW := hW1) (hk := hpa) (x := Nat.gcd X Y) (hx := hvg)) (fun z9 F1 hq => ?_)
        obtain ⟨hz9, eF1⟩ := hq
        refine J_eqF eF1 ?_
        refine J_ifne (tgt := 136) d_D_reduceOut_75 (by decide) ⟨by omega, by omega⟩ (fun c75 => ?_) (fun c75 => ?_)
        · refine J_vret rfl d_D_reduceOut_136 ⟨by decide, by decide⟩ ?_
          have hg1 : Nat.gcd X Y = 1 := by omega
          obtain ⟨e1, e2⟩ := low_same (show Nat.Coprime X Y from hg1)
          exact ⟨rfl, rfl, rfl, _, hW1, fun j j1 j2 j3 j4 j5 => (show (W1) j = W1 j from by rfl).trans (hfr j j3 j4 j5), by rw [e1]; exact ((hfr _ (by omega) (by omega) (by omega)).trans hX), by rw [e2]; exact ((hfr _ (by omega) (by omega) (by omega)).trans hY), rfl⟩
        · refine J_aload_n 0 d_D_reduceOut_78 rfl rfl ?_
          refine gf_D_12 (by omega) ((cF_0 (by decide)).trans hDk) rfl d_D_reduceOut_79 ?_
          refine gf_D_76 (by omega) (cF_U (by decide) rfl rfl) rfl d_D_reduceOut_82 ?_
          refine J_aload_n 1 d_D_reduceOut_85 rfl rfl ?_
          refine J_aload_n 0 d_D_reduceOut_86 rfl rfl ?_
          refine gf_D_27 (by omega) ((cF_0 (by decide)).trans hDk) rfl d_D_reduceOut_87 ?_
          refine J_callVv cw_D_117 nh_N_divide pn_N_divide rfl rfl (by omega) (cF_N (by decide) ((hfr _ (by omega) (by omega) (by omega)).trans hX)) (As := [.ref (ad pa), .ref (ad 25)]) (rest := []) rfl (Nat.le_of_ble_eq_true rfl) ⟨by decide, by decide⟩ rfl ⟨by decide, by decide⟩ d_D_reduceOut_90 (n_divide hfl (F0 := F0) (W := W1) (K := K) (S := S) (k := 11) (m := pa) (p := 25) (hN := by omega) (hW := hW1) (hk := (by decide)) (hm := hpa) (hp := (by decide)) (x := X) (hx := ((hfr _ (by omega) (by omega) (by omega)).trans hX)) (y := Nat.gcd X Y) (hy := hvg) (hd := (by omega)) (hd1 := (by decide)) (hd2 := (by omega)) (hx4 := Nat.lt_trans hXb (by decide)) (hy4 := Nat.lt_of_le_of_lt hgY (Nat.lt_trans hYb (by decide)))) (fun  F13 hq => ?_)
          obtain ⟨hW11, eF12⟩ := hq
          refine J_eqF (F2 := cF ad g F0 (va_up (va_up W1 25 (X / (Nat.gcd X Y))) 11 (X % (Nat.gcd X Y))) K S) eF12 ?_
          refine J_aload_n 0 d_D_reduceOut_93 rfl rfl ?_
          refine gf_D_12 (by omega) ((cF_0 (by decide)).trans hDk) rfl d_D_reduceOut_94 ?_
          refine gf_D_76 (by omega) (cF_U (by decide) rfl rfl) rfl d_D_reduceOut_97 ?_
          refine J_aload_n 0 d_D_reduceOut_100 rfl rfl ?_
          refine gf_D_27 (by omega) ((cF_0 (by decide)).trans hDk) rfl d_D_reduceOut_101 ?_
          refine J_callVv cw_D_89 nh_N_copyFrom pn_N_copyFrom rfl rfl (by omega) (cF_N (by decide) (va_up_self ..)) (As := [.ref (ad 25)]) (rest := []) rfl (Nat.le_of_ble_eq_true rfl) ⟨by decide, by decide⟩ rfl ⟨by decide, by decide⟩ d_D_reduceOut_104 (n_copyFrom hfl (F0 := F0) (W := va_up (va_up W1 25 (X / (Nat.gcd X Y))) 11 (X % (Nat.gcd X Y))) (K := K) (S := S) (k := 11) (m := 25) (hN := by omega) (hW := hW11) (hk := (by decide)) (hm := (by decide)) (x := X / (Nat.gcd X Y)) (hx := ((va_up_ne _ _ (by decide)).trans (va_up_self ..))) (hd := (by decide))) (fun  F17 hq => ?_)
          obtain ⟨hW15, eF16⟩ := hq
          have hW18 := (congrArg bW (up_in0)).mp hW15
          refine J_eqF (F2 := cF ad g F0 (va_up (va_up W1 25 (X / (Nat.gcd X Y))) 11 (X / (Nat.gcd X Y))) K S) (eF16.trans (congrArg (fun qq => cF ad g F0 qq K S) (up_in0))) ?_
          refine J_aload_n 0 d_D_reduceOut_107 rfl rfl ?_
          refine gf_D_12 (by omega) ((cF_0 (by decide)).trans hDk) rfl d_D_reduceOut_108 ?_
          refine gf_D_79 (by omega) (cF_U (by decide) rfl rfl) rfl d_D_reduceOut_111 ?_
          refine J_aload_n 1 d_D_reduceOut_114 rfl rfl ?_
          refine J_aload_n 0 d_D_reduceOut_115 rfl rfl ?_
          refine gf_D_27 (by omega) ((cF_0 (by decide)).trans hDk) rfl d_D_reduceOut_116 ?_
          refine J_callVv cw_D_117 nh_N_divide pn_N_divide rfl rfl (by omega) (cF_N (by decide) ((va_up_ne _ _ (by decide)).trans ((va_up_ne _ _ (by decide)).trans ((hfr _ (by omega) (by omega) (by omega)).trans hY)))) (As := [.ref (ad pa), .ref (ad 25)]) (rest := []) rfl (Nat.le_of_ble_eq_true rfl) ⟨by decide, by decide⟩ rfl ⟨by decide, by decide⟩ d_D_reduceOut_119 (n_divide hfl (F0 := F0) (W := va_up (va_up W1 25 (X / (Nat.gcd X Y))) 11 (X / (Nat.gcd X Y))) (K := K) (S := S) (k := 13) (m := pa) (p := 25) (hN := by omega) (hW := hW18) (hk := (by decide)) (hm := hpa) (hp := (by decide)) (x := Y) (hx := ((va_up_ne _ _ (by decide)).trans ((va_up_ne _ _ (by decide)).trans ((hfr _ (by omega) (by omega) (by omega)).trans hY)))) (y := Nat.gcd X Y) (hy := ((va_up_ne _ _ (by omega)).trans ((va_up_ne _ _ (by omega)).trans hvg))) (hd := (by omega)) (hd1 := (by decide)) (hd2 := (by omega)) (hx4 := Nat.lt_trans hYb (by decide)) (hy4 := Nat.lt_of_le_of_lt hgY (Nat.lt_trans hYb (by decide)))) (fun  F22 hq => ?_)
          obtain ⟨hW20, eF21⟩ := hq
          have hW23 := (congrArg bW (congrArg (fun qq : Nat → Nat => va_up qq 13 (Y % (Nat.gcd X Y))) (up_in1 (by decide)))).mp hW20
          refine J_eqF (F2 := cF ad g F0 (va_up (va_up (va_up W1 25 (Y / (Nat.gcd X Y))) 11 (X / (Nat.gcd X Y))) 13 (Y % (Nat.gcd X Y))) K S) (eF21.trans (congrArg (fun qq => cF ad g F0 qq K S) (congrArg (fun qq : Nat → Nat => va_up qq 13 (Y % (Nat.gcd X Y))) (up_in1 (by decide))))) ?_
          refine J_aload_n 0 d_D_reduceOut_122 rfl rfl ?_
          refine gf_D_12 (by omega) ((cF_0 (by decide)).trans hDk) rfl d_D_reduceOut_123 ?_
          refine gf_D_79 (by omega) (cF_U (by decide) rfl rfl) rfl d_D_reduceOut_126 ?_
          refine J_aload_n 0 d_D_reduceOut_129 rfl rfl ?_
          refine gf_D_27 (by omega) ((cF_0 (by decide)).trans hDk) rfl d_D_reduceOut_130 ?_
          refine J_callVv cw_D_89 nh_N_copyFrom pn_N_copyFrom rfl rfl (by omega) (cF_N (by decide) (va_up_self ..)) (As := [.ref (ad 25)]) (rest := []) rfl (Nat.le_of_ble_eq_true rfl) ⟨by decide, by decide⟩ rfl ⟨by decide, by decide⟩ d_D_reduceOut_133 (n_copyFrom hfl (F0 := F0) (W := va_up (va_up (va_up W1 25 (Y / (Nat.gcd X Y))) 11 (X / (Nat.gcd X Y))) 13 (Y % (Nat.gcd X Y))) (K := K) (S := S) (k := 13) (m := 25) (hN := by omega) (hW := hW23) (hk := (by decide)) (hm := (by decide)) (x := Y / (Nat.gcd X Y)) (hx := ((va_up_ne _ _ (by decide)).trans ((va_up_ne _ _ (by decide)).trans (va_up_self ..)))) (hd := (by decide))) (fun  F27 hq => ?_)
          obtain ⟨hW25, eF26⟩ := hq
          have hW28 := (congrArg bW (up_in0)).mp hW25
          refine J_eqF (F2 := cF ad g F0 (va_up (va_up (va_up W1 25 (Y / (Nat.gcd X Y))) 11 (X / (Nat.gcd X Y))) 13 (Y / (Nat.gcd X Y))) K S) (eF26.trans (congrArg (fun qq => cF ad g F0 qq K S) (up_in0))) ?_
          refine J_vret rfl d_D_reduceOut_136 ⟨by decide, by decide⟩ ?_
          exact ⟨rfl, rfl, rfl, _, hW28, fun j j1 j2 j3 j4 j5 => (show (va_up (va_up (va_up W1 25 (Y / (Nat.gcd X Y))) 11 (X / (Nat.gcd X Y))) 13 (Y / (Nat.gcd X Y))) j = W1 j from by rw [va_up_ne _ _ (by omega), va_up_ne _ _ (by omega), va_up_ne _ _ (by omega)]).trans (hfr j j3 j4 j5), ((va_up_ne _ _ (by decide)).trans (va_up_self ..)), (va_up_self ..), rfl⟩
      refine J_if_icmpge (tgt := 71) d_D_reduceOut_38 (by decide) ⟨by omega, by omega⟩ ⟨by omega, by omega⟩ (fun c38 => ?_) (fun c38 => ?_)
      · refine J_pick (lv' := [(0, .ref (ad 9)), (1, .ref (ad pa))]) [0, 1] rfl ?_
        exact lab71  (by
          have hq0 : q = 0 := by
            first
            | omega
            | (apply Classical.byContradiction
               intro hq1
               by_cases hpz : p = 0
               · rcases hlt with e | e <;> omega
               · have := euc_end hpm hXb hYb hq1 hpz
                 omega)
          rw [hvp, ← hgc, hq0, Nat.gcd_zero_left])
      · refine J_aload_n 2 d_D_reduceOut_41 rfl rfl ?_
        refine J_callVi cw_D_120 nh_N_isZero pn_N_isZero rfl rfl (by omega) (cF_N hpb hvq) (As := []) (rest := []) rfl (Nat.le_of_ble_eq_true rfl) ⟨by decide, by decide⟩ rfl ⟨by decide, by decide⟩ d_D_reduceOut_42 (n_isZero hfl (F0 := F0) (W := W1) (K := K) (S := S) (k := pb) (hN := by omega) (hW := hW1) (hk := hpb) (x := q) (hx := hvq)) (fun z29 F2 hq => ?_)
        obtain ⟨hz29, eF2⟩ := hq
        refine J_eqF eF2 ?_
        refine J_ifne (tgt := 71) d_D_reduceOut_45 (by decide) ⟨by omega, by omega⟩ (fun c45 => ?_) (fun c45 => ?_)
        · refine J_pick (lv' := [(0, .ref (ad 9)), (1, .ref (ad pa))]) [0, 1] rfl ?_
          exact lab71  (by
            have hq0 : q = 0 := by
              first
              | omega
              | (apply Classical.byContradiction
                 intro hq1
                 by_cases hpz : p = 0
                 · rcases hlt with e | e <;> omega
                 · have := euc_end hpm hXb hYb hq1 hpz
                   omega)
            rw [hvp, ← hgc, hq0, Nat.gcd_zero_left])
        · have hq0 : q ≠ 0 := by omega
          refine J_aload_n 1 d_D_reduceOut_48 rfl rfl ?_
          refine J_aload_n 2 d_D_reduceOut_49 rfl rfl ?_
          refine J_aload_n 0 d_D_reduceOut_50 rfl rfl ?_
          refine gf_D_27 (by omega) ((cF_0 (by decide)).trans hDk) rfl d_D_reduceOut_51 ?_
          refine J_callVv cw_D_117 nh_N_divide pn_N_divide rfl rfl (by omega) (cF_N hpa hvp) (As := [.ref (ad pb), .ref (ad 25)]) (rest := []) rfl (Nat.le_of_ble_eq_true rfl) ⟨by decide, by decide⟩ rfl ⟨by decide, by decide⟩ d_D_reduceOut_54 (n_divide hfl (F0 := F0) (W := W1) (K := K) (S := S) (k := pa) (m := pb) (p := 25) (hN := by omega) (hW := hW1) (hk := hpa) (hm := hpb) (hp := (by decide)) (x := p) (hx := hvp) (y := q) (hy := hvq) (hd := (by omega)) (hd1 := (by omega)) (hd2 := (by omega)) (hx4 := Nat.lt_trans hpq.1 (by decide)) (hy4 := Nat.lt_trans hpq.2 (by decide))) (fun  F33 hq => ?_)
          obtain ⟨hW31, eF32⟩ := hq
          refine J_eqF (F2 := cF ad g F0 (va_up (va_up W1 25 (p / q)) pa (p % q)) K S) eF32 ?_
          refine J_aload_n 1 d_D_reduceOut_57 rfl rfl ?_
          refine J_astore (lv' := [(4, .ref (ad pa)), (0, .ref (ad 9)), (1, .ref (ad pa)), (2, .ref (ad pb)), (3, .int (iI (i : Int)))]) d_D_reduceOut_58 (by decide) rfl ?_
          refine J_aload_n 3 d_D_reduceOut_60 rfl rfl ?_
          refine J_astore_n (lv' := [(1, .ref (ad pb)), (4, .ref (ad pa)), (0, .ref (ad 9)), (2, .ref (ad pb)), (3, .int (iI (i : Int)))]) d_D_reduceOut_61 rfl (by decide) rfl ?_
          refine J_aload 1 d_D_reduceOut_62 rfl ?_
          refine J_astore_n (lv' := [(2, .ref (ad pa)), (1, .ref (ad pb)), (4, .ref (ad pa)), (0, .ref (ad 9)), (3, .int (iI (i : Int)))]) d_D_reduceOut_64 rfl (by decide) rfl ?_
          refine J_iinc (j := 4) (b := (i : Int) + 1) (lv' := [(3, .int (iI ((i : Int) + 1))), (2, .ref (ad pa)), (1, .ref (ad pb)), (4, .ref (ad pa)), (0, .ref (ad 9))]) d_D_reduceOut_65 rfl (by omega) (by decide) rfl ?_
          refine J_goto (tgt := 34) d_D_reduceOut_68 (by decide) ?_
          refine J_pick (lv' := [(0, .ref (ad 9)), (1, .ref (ad pb)), (2, .ref (ad pa)), (3, .int (iI ((i : Int) + 1)))]) [4, 2, 1, 0] rfl ?_
          exact ih (i + 1) pb pa q (p % q) (va_up (va_up W1 25 (p / q)) pa (p % q)) (by omega) (by omega) hpb hpa hW31 (fun j j1 j2 j3 => (show (va_up (va_up W1 25 (p / q)) pa (p % q)) j = W1 j from by rw [va_up_ne _ _ (by omega), va_up_ne _ _ (by omega)]).trans (hfr j j1 j2 j3)) ((va_up_ne _ _ (by omega)).trans ((va_up_ne _ _ (by omega)).trans hvq)) (va_up_self ..) (euc_gcd.trans hgc) ⟨hpq.2, Nat.lt_of_le_of_lt (Nat.mod_le _ _) hpq.1⟩ (Or.inr (euc_step hpm hp0 hq0 hlt)) (fun z => absurd z (Nat.succ_ne_zero _)) (Or.inr (Nat.mod_lt _ (Nat.pos_of_ne_zero hq0))) (by have := Nat.mod_lt p (Nat.pos_of_ne_zero hq0); omega)
  exact loop34 (Y + 1) 0 27 29 X Y (va_up (va_up W 27 X) 29 Y) (by omega) (by omega) (by decide) (by decide) hW6 (fun j j1 j2 j3 => by rw [va_up_ne _ _ (by omega), va_up_ne _ _ (by omega)]) ((va_up_ne _ _ (by decide)).trans (va_up_self ..)) (va_up_self ..) (Nat.gcd_comm _ _) ⟨hXb, hYb⟩ (Or.inl rfl) (fun _ => Nat.le_refl _) (Or.inl rfl) (Nat.lt_succ_self _)
set_option maxRecDepth 100000 in
set_option maxHeartbeats 4000000 in
theorem c_D_makeNearestUnlessReal {l : Launch} (hfl : l.flags = flags0) {D : va_G} {g : Nat → ClassId} {ad : Nat → Nat} {N : Nat} {F0 : Nat → va_E} {W : Nat → Nat} {K S : Nat → Int} {p X Y : Nat}
    (hN : 109 ≤ N) (hW : bW W) (hDk : F0 9 = oD ad) (hp : isU p) (hp2 : p = 10 ∨ p = 15 ∨ p = 20) (hX : W (p + 1) = X) (hY : W (p + 3) = Y) (hY0 : 0 < Y) (hXb : X < 2 ^ 310) (hYb : Y < 2 ^ 310) (hs : -1 ≤ S p ∧ S p ≤ 1) (hK : -1 ≤ K p ∧ K p ≤ 2) :
    JC l y_D_makeNearestUnlessReal b_D_makeNearestUnlessReal 2 (Option.none : Option Jvm.ClassFile.FieldType) rm_D_makeNearestUnlessReal (0, 0) D jCl (jTys g) ad N (cF ad g F0 W K S) [.ref (ad 9), .ref (ad p)] (jvx ad N (fun F' => ∃ (W' : Nat → Nat) (s' : Int) (u d : Nat), (if K p = 2 then some (2, S p, X, Y) else near (S p) X Y) = some (2, s', u, d) ∧ bW W' ∧ (∀ j, j ≠ p + 1 → j ≠ p + 3 → j ≠ 25 → W' j = W j) ∧ W' (p + 1) = u ∧ W' (p + 3) = d ∧ F' = cF ad g F0 W' (va_up K p 2) (va_up S p s')) (fun k F' => k = 2 ∧ (if K p = 2 then some (2, S p, X, Y) else near (S p) X Y) = none ∧ scr ad g F0 W K S F')) := by
  refine JC.go hfl (own := "NumberTower$Desk") (lv := [(0, .ref (ad 9)), (1, .ref (ad p))]) rfl (by decide +kernel) (Nat.le_of_ble_eq_true rfl) rfl (fun A => ?_)
  refine J_aload_n 1 d_D_makeNearestUnlessReal_0 rfl rfl ?_
  refine gf_D_52 (by omega) (cF_U hp rfl rfl) rfl d_D_makeNearestUnlessReal_1 ?_
  refine J_iconst d_D_makeNearestUnlessReal_4 ?_
  refine J_if_icmpeq (tgt := 13) d_D_makeNearestUnlessReal_5 (by decide) ⟨by omega, by omega⟩ ⟨by omega, by omega⟩ (fun c5 => ?_) (fun c5 => ?_)
  · refine J_vret rfl d_D_makeNearestUnlessReal_13 ⟨by decide, by decide⟩ ?_
    first
    | exact Or.inl ⟨rfl, rfl, rfl, W2, s2, u2, d2, by rw [if_neg (by omega)]; exact q1, q2, q3, q4, q5, rfl⟩
    | exact Or.inl ⟨rfl, rfl, rfl, W, S p, X, Y, by rw [if_pos (by omega)], hW, fun _ _ _ _ => rfl, hX, hY, by rw [← up_same1 (show K p = 2 by omega), ← up_same1 (f := S) rfl]⟩
  · refine J_aload_n 0 d_D_makeNearestUnlessReal_8 rfl rfl ?_
    refine J_aload_n 1 d_D_makeNearestUnlessReal_9 rfl rfl ?_
    refine J_callVvx cw_D_177 nh_D_makeNearest pn_D_makeNearest rfl rfl (by omega) ((cF_0 (by decide)).trans hDk) (As := [.ref (ad p)]) (rest := []) rfl (Nat.le_of_ble_eq_true rfl) ⟨by decide, by decide⟩ rfl ⟨by decide, by decide⟩ d_D_makeNearestUnlessReal_10 (c_D_makeNearest hfl (F0 := F0) (W := W) (K := K) (S := S) (p := p) hN hW hDk hp hp2 hX hY hY0 hXb hYb hs) (fun  F34 hq => ?_) (fun k9 F9 hq => by (obtain ⟨q1, q2, q3⟩ := hq; exact Or.inr ⟨_, rfl, rfl, rfl, q1, by rw [if_neg (by omega)]; exact q2, q3⟩))
    obtain ⟨W2, s2, u2, d2, q1, q2, q3, q4, q5, eFn⟩ := hq
    refine J_eqF eFn ?_
    refine J_vret rfl d_D_makeNearestUnlessReal_13 ⟨by decide, by decide⟩ ?_
    first
    | exact Or.inl ⟨rfl, rfl, rfl, W2, s2, u2, d2, by rw [if_neg (by omega)]; exact q1, q2, q3, q4, q5, rfl⟩
    | exact Or.inl ⟨rfl, rfl, rfl, W, S p, X, Y, by rw [if_pos (by omega)], hW, fun _ _ _ _ => rfl, hX, hY, by rw [← up_same1 (show K p = 2 by omega), ← up_same1 (f := S) rfl]⟩
