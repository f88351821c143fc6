/-! the class's desk: settling -/
abbrev oD (ad : Nat → Nat) : va_E := .inr (1, [.ref (ad 10), .ref (ad 15), .ref (ad 20), .ref (ad 25), .ref (ad 27), .ref (ad 29), .ref (ad 31), .ref (ad 33), .ref (ad 35), .ref (ad 37), .ref (ad 39)])
/-- a world whose registers are these, whatever is on the desk -/
def scr (ad : Nat → Nat) (g : Nat → ClassId) (F0 : Nat → va_E) (W : Nat → Nat) (K S : Nat → Int) (F' : Nat → va_E) : Prop :=
  ∃ (W' : Nat → Nat) (K' S' : Nat → Int), bW W' ∧ (∀ j, (j < 10 ∨ 40 < j) → W' j = W j ∧ K' j = K j ∧ S' j = S j) ∧ F' = cF ad g F0 W' K' S'
theorem scr_0 {ad : Nat → Nat} {g : Nat → ClassId} {F0 : Nat → va_E} {W W1 : Nat → Nat} {K S K1 S1 : Nat → Int} (h : bW W1) (hf : ∀ j, (j < 10 ∨ 40 < j) → W1 j = W j ∧ K1 j = K j ∧ S1 j = S j) : scr ad g F0 W K S (cF ad g F0 W1 K1 S1) := ⟨W1, K1, S1, h, hf, rfl⟩
theorem scr_t {ad : Nat → Nat} {g : Nat → ClassId} {F0 F' : Nat → va_E} {W W1 : Nat → Nat} {K S K1 S1 : Nat → Int} (h : scr ad g F0 W1 K1 S1 F') (hf : ∀ j, (j < 10 ∨ 40 < j) → W1 j = W j ∧ K1 j = K j ∧ S1 j = S j) : scr ad g F0 W K S F' := by
  obtain ⟨W', K', S', h1, h2, h3⟩ := h
  exact ⟨W', K', S', h1, fun j hj => ⟨(h2 j hj).1.trans (hf j hj).1, (h2 j hj).2.1.trans (hf j hj).2.1, (h2 j hj).2.2.trans (hf j hj).2.2⟩, h3⟩
theorem near_steps {U D : Nat} {pl : Int} (hU : 0 < U) (hD : 0 < D) (hpl : pl = 54 - ((blen U : Int) - blen D)) {q dr : Nat} (hq : q = su U pl / sd D pl) (hdr : dr = blen q - 53) :
    9007199254740992 ≤ q ∧ q < 36028797018963968 ∧ blen q = 53 + dr ∧ 1 ≤ dr ∧ dr ≤ 2 ∧ ns U D = pl - dr ∧
    nq U D (ns U D) = if 2 ^ dr < 2 * (q % 2 ^ dr) + (if su U pl % sd D pl = 0 then 0 else 1) ∨ (2 * (q % 2 ^ dr) + (if su U pl % sd D pl = 0 then 0 else 1) = 2 ^ dr ∧ q / 2 ^ dr % 2 = 1) then q / 2 ^ dr + 1 else q / 2 ^ dr := by
  obtain ⟨r1, r2⟩ := s_rng hU hD
  rw [show (53 + blen D - blen U : Int) = pl - 1 by omega] at r1 r2
  have p := sd_pos hD pl
  have h1 : 9007199254740992 ≤ q := by
    rw [hq, Nat.le_div_iff_mul_le p]
    exact (s_half hD (c := 4503599627370496)).mpr (Nat.le_of_lt r1)
  have h2 : q < 36028797018963968 := by
    rw [hq, Nat.div_lt_iff_lt_mul p]
    apply Nat.lt_of_not_le
    intro z
    have := (s_half hD (c := 18014398509481984)).mp z
    omega
  have b1 : blen q ≤ 55 := blen_le.mpr (by omega)
  have b2 : ¬ blen q ≤ 53 := fun z => by
    have := blen_le.mp z
    omega
  have hb : blen q = 53 + dr := by omega
  have hns : inR U D (pl - dr) := by
    have hge : ∀ c : Nat, c ≤ q ↔ c * sd D pl ≤ su U pl := fun c => by rw [hq, Nat.le_div_iff_mul_le p]
    obtain h3 | h3 : dr = 1 ∨ dr = 2 := by omega
    · have hl : q < 2 ^ 54 := blen_le.mp (by omega)
      rw [h3, show pl - ((1 : Nat) : Int) = pl - 1 from rfl]
      refine ⟨(s_half hD (c := 4503599627370496)).mp ((hge _).mp h1), ?_⟩
      apply Nat.lt_of_not_le
      intro z
      have := (hge (2 * 9007199254740992)).mpr ((s_half hD (c := 9007199254740992)).mpr z)
      omega
    · have hl : ¬ q < 2 ^ 54 := fun z => by have := blen_le.mpr z; omega
      rw [h3, show pl - ((2 : Nat) : Int) = pl - 1 - 1 by omega]
      refine ⟨(s_half hD (c := 4503599627370496)).mp ((s_half hD (c := 9007199254740992)).mp ((hge (2 * 9007199254740992)).mp (by omega))), ?_⟩
      apply Nat.lt_of_not_le
      intro z
      have := (hge (2 * (2 * 9007199254740992))).mpr ((s_half hD (c := 2 * 9007199254740992)).mpr ((s_half hD (c := 9007199254740992)).mpr z))
      omega
  have hn := ns_eq hU hD hns
  refine ⟨h1, h2, hb, by omega, by omega, hn, ?_⟩
  rw [hn]
  have c := s_cross (U := U) (D := D) (show pl - (dr : Int) ≤ pl by omega)
  rw [show (pl - (pl - (dr : Int))).toNat = dr by omega] at c
  have e := rnd_ratio (a := su U (pl - dr)) (b := sd D (pl - dr)) (a' := su U pl) (b' := sd D pl * 2 ^ dr) (sd_pos hD _) (Nat.mul_pos p (Nat.two_pow_pos _)) (by rw [c]; ac_rfl)
  unfold nq
  rw [e, rnd_drop p (by omega), ← hq]
set_option maxRecDepth 100000 in
set_option maxHeartbeats 4000000 in
theorem c_D_refuseBeyond {l : Launch} (hfl : l.flags = flags0) {D : va_G} {g : Nat → ClassId} {ad : Nat → Nat} {N : Nat} {F0 : Nat → va_E} {W : Nat → Nat} {K S : Nat → Int} {p : Nat}
    (hN : 109 ≤ N) (hW : bW W) (hp : isU p) :
    JC l y_D_refuseBeyond b_D_refuseBeyond 1 (Option.none : Option Jvm.ClassFile.FieldType) rm_D_refuseBeyond (0, 0) D jCl (jTys g) ad N (cF ad g F0 W K S) [.ref (ad p)] (jvx ad N (fun F' => (blen (W (p + 1)) ≤ 120 ∧ blen (W (p + 3)) ≤ 120) ∧ F' = cF ad g F0 W K S) (fun k F' => k = 2 ∧ ¬ (blen (W (p + 1)) ≤ 120 ∧ blen (W (p + 3)) ≤ 120) ∧ F' = cF ad g F0 W K S)) := by
  have hp4 := (isU_1 hp).1
  have hb1 := (blen_le (v := W (p + 1)) (m := 480)).mpr (hW _)
  have hb2 := (blen_le (v := W (p + 3)) (m := 480)).mpr (hW _)
  refine JC.go hfl (own := "NumberTower$Desk") (lv := [(0, .ref (ad p))]) rfl (by decide +kernel) (Nat.le_of_ble_eq_true rfl) rfl (fun A => ?_)
  refine J_aload_n 0 d_D_refuseBeyond_0 rfl rfl ?_
  refine gf_D_76 (by omega) (cF_U hp rfl rfl) rfl d_D_refuseBeyond_1 ?_
  refine J_callVi cw_D_189 nh_N_bits pn_N_bits rfl rfl (by omega) (cF_N (isU_1 hp).2.1 rfl) (As := []) (rest := []) rfl (Nat.le_of_ble_eq_true rfl) ⟨by decide, by decide⟩ rfl ⟨by decide, by decide⟩ d_D_refuseBeyond_4 (n_bits hfl (F0 := F0) (W := W) (K := K) (S := S) (k := p + 1) (hN := by omega) (hW := hW) (hk := (isU_1 hp).2.1) (x := W (p + 1)) (hx := rfl)) (fun z1 F1 hq => ?_)
  obtain ⟨hz1, eF1⟩ := hq
  refine J_eqF eF1 ?_
  refine J_topi (r := (((blen (W (p + 1)) : Nat)) : Int)) (congrArg iI hz1) ?_
  refine J_bipush d_D_refuseBeyond_7 (i8_ok (by decide)) ?_
  refine J_if_icmpgt (tgt := 24) d_D_refuseBeyond_9 (by decide) ⟨by omega, by omega⟩ ⟨by omega, by omega⟩ (fun c9 => ?_) (fun c9 => ?_)
  · refine J_throw (k := 2) (by decide) wd_614 wd_615 wd_17 wd_624 (List.mem_of_getElem? (i := 2) rfl) d_D_refuseBeyond_24 d_D_refuseBeyond_27 d_D_refuseBeyond_28 d_D_refuseBeyond_30 d_D_refuseBeyond_33 ⟨by decide, by decide⟩ (by decide) (by decide) ?_
    exact Or.inr ⟨_, rfl, rfl, rfl, rfl, by omega, rfl⟩
  · refine J_aload_n 0 d_D_refuseBeyond_12 rfl rfl ?_
    refine gf_D_79 (by omega) (cF_U hp rfl rfl) rfl d_D_refuseBeyond_13 ?_
    refine J_callVi cw_D_189 nh_N_bits pn_N_bits rfl rfl (by omega) (cF_N (isU_1 hp).2.2 rfl) (As := []) (rest := []) rfl (Nat.le_of_ble_eq_true rfl) ⟨by decide, by decide⟩ rfl ⟨by decide, by decide⟩ d_D_refuseBeyond_16 (n_bits hfl (F0 := F0) (W := W) (K := K) (S := S) (k := p + 3) (hN := by omega) (hW := hW) (hk := (isU_1 hp).2.2) (x := W (p + 3)) (hx := rfl)) (fun z2 F2 hq => ?_)
    obtain ⟨hz2, eF2⟩ := hq
    refine J_eqF eF2 ?_
    refine J_topi (r := (((blen (W (p + 3)) : Nat)) : Int)) (congrArg iI hz2) ?_
    refine J_bipush d_D_refuseBeyond_19 (i8_ok (by decide)) ?_
    refine J_if_icmple (tgt := 34) d_D_refuseBeyond_21 (by decide) ⟨by omega, by omega⟩ ⟨by omega, by omega⟩ (fun c21 => ?_) (fun c21 => ?_)
    · refine J_vret rfl d_D_refuseBeyond_34 ⟨by decide, by decide⟩ ?_
      exact Or.inl ⟨rfl, rfl, rfl, ⟨by omega, by omega⟩, rfl⟩
    · refine J_throw (k := 2) (by decide) wd_614 wd_615 wd_17 wd_624 (List.mem_of_getElem? (i := 2) rfl) d_D_refuseBeyond_24 d_D_refuseBeyond_27 d_D_refuseBeyond_28 d_D_refuseBeyond_30 d_D_refuseBeyond_33 ⟨by decide, by decide⟩ (by decide) (by decide) ?_
      exact Or.inr ⟨_, rfl, rfl, rfl, rfl, by omega, rfl⟩
set_option maxRecDepth 100000 in
set_option maxHeartbeats 4000000 in
theorem c_D_setParts {l : Launch} (hfl : l.flags = flags0) {D : va_G} {g : Nat → ClassId} {ad : Nat → Nat} {N : Nat} {F0 : Nat → va_E} {W : Nat → Nat} {K S : Nat → Int} {a b c d xa xb xc xd : Nat}
    (hN : 109 ≤ N) (hW : bW W) (hDk : F0 9 = oD ad) (ha : isN a) (hb : isN b) (hc : isN c) (hd : isN d) (h1 : 16 ≤ a ∧ 16 ≤ b ∧ 16 ≤ c ∧ 16 ≤ d) (hxa : W a = xa) (hxb : W b = xb) (hxc : W c = xc) (hxd : W d = xd) (hu : xa * xb < 2 ^ 480) (hl : xc * xd < 2 ^ 480) :
    JC l y_D_setParts b_D_setParts 5 (Option.none : Option Jvm.ClassFile.FieldType) rm_D_setParts (0, 0) D jCl (jTys g) ad N (cF ad g F0 W K S) [.ref (ad 9), .ref (ad a), .ref (ad b), .ref (ad c), .ref (ad d)] (jv ad N (fun F' => bW (va_up (va_up W 11 (xa * xb)) 13 (xc * xd)) ∧ F' = cF ad g F0 (va_up (va_up W 11 (xa * xb)) 13 (xc * xd)) K (va_up S 10 (S 15 * S 20)))) := by
  refine JC.go hfl (own := "NumberTower$Desk") (lv := [(0, .ref (ad 9)), (1, .ref (ad a)), (2, .ref (ad b)), (3, .ref (ad c)), (4, .ref (ad d))]) rfl (by decide +kernel) (Nat.le_of_ble_eq_true rfl) rfl (fun A => ?_)
  refine J_aload_n 0 d_D_setParts_0 rfl rfl ?_
  refine gf_D_12 (by omega) ((cF_0 (by decide)).trans hDk) rfl d_D_setParts_1 ?_
  refine gf_D_76 (by omega) (cF_U (by decide) rfl rfl) rfl d_D_setParts_4 ?_
  refine J_aload_n 1 d_D_setParts_7 rfl rfl ?_
  refine J_aload_n 2 d_D_setParts_8 rfl rfl ?_
  refine J_callVv cw_D_97 nh_N_setProduct pn_N_setProduct rfl rfl (by omega) (cF_N (by decide) rfl) (As := [.ref (ad a), .ref (ad b)]) (rest := []) rfl (Nat.le_of_ble_eq_true rfl) ⟨by decide, by decide⟩ rfl ⟨by decide, by decide⟩ d_D_setParts_9 (n_setProduct hfl (F0 := F0) (W := W) (K := K) (S := S) (k := 11) (m := a) (p := b) (hN := by omega) (hW := hW) (hk := (by decide)) (hm := ha) (hp := hb) (x := xa) (hx := hxa) (y := xb) (hy := hxb) (hd := (by omega)) (hd2 := (by omega)) (ht := hu)) (fun  F6 hq => ?_)
  obtain ⟨hW4, eF5⟩ := hq
  refine J_eqF (F2 := cF ad g F0 (va_up W 11 (xa * xb)) K S) eF5 ?_
  refine J_aload_n 0 d_D_setParts_12 rfl rfl ?_
  refine gf_D_12 (by omega) ((cF_0 (by decide)).trans hDk) rfl d_D_setParts_13 ?_
  refine gf_D_79 (by omega) (cF_U (by decide) rfl rfl) rfl d_D_setParts_16 ?_
  refine J_aload_n 3 d_D_setParts_19 rfl rfl ?_
  refine J_aload 4 d_D_setParts_20 rfl ?_
  refine J_callVv cw_D_97 nh_N_setProduct pn_N_setProduct rfl rfl (by omega) (cF_N (by decide) (va_up_ne _ _ (by decide))) (As := [.ref (ad c), .ref (ad d)]) (rest := []) rfl (Nat.le_of_ble_eq_true rfl) ⟨by decide, by decide⟩ rfl ⟨by decide, by decide⟩ d_D_setParts_22 (n_setProduct hfl (F0 := F0) (W := va_up W 11 (xa * xb)) (K := K) (S := S) (k := 13) (m := c) (p := d) (hN := by omega) (hW := hW4) (hk := (by decide)) (hm := hc) (hp := hd) (x := xc) (hx := ((va_up_ne _ _ (by omega)).trans hxc)) (y := xd) (hy := ((va_up_ne _ _ (by omega)).trans hxd)) (hd := (by omega)) (hd2 := (by omega)) (ht := hl)) (fun  F10 hq => ?_)
  obtain ⟨hW8, eF9⟩ := hq
  refine J_eqF (F2 := cF ad g F0 (va_up (va_up W 11 (xa * xb)) 13 (xc * xd)) K S) eF9 ?_
  refine J_aload_n 0 d_D_setParts_25 rfl rfl ?_
  refine gf_D_12 (by omega) ((cF_0 (by decide)).trans hDk) rfl d_D_setParts_26 ?_
  refine J_aload_n 0 d_D_setParts_29 rfl rfl ?_
  refine gf_D_18 (by omega) ((cF_0 (by decide)).trans hDk) rfl d_D_setParts_30 ?_
  refine gf_D_69 (by omega) (cF_U (by decide) rfl rfl) rfl d_D_setParts_33 ?_
  refine J_aload_n 0 d_D_setParts_36 rfl rfl ?_
  refine gf_D_21 (by omega) ((cF_0 (by decide)).trans hDk) rfl d_D_setParts_37 ?_
  refine gf_D_69 (by omega) (cF_U (by decide) rfl rfl) rfl d_D_setParts_40 ?_
  refine J_imul d_D_setParts_43 ?_
  refine pf_D_69 (by omega) (cF_U (by decide) rfl rfl) (Nat.le_of_ble_eq_true rfl) d_D_setParts_44 ?_
  refine J_eqF (F2 := cF ad g F0 (va_up (va_up W 11 (xa * xb)) 13 (xc * xd)) K (va_up S 10 ((S 15) * (S 20)))) ((cF_upU (by decide)).trans (congrArg (fun qq => cF ad g F0 (va_up (va_up W 11 (xa * xb)) 13 (xc * xd)) qq (va_up S 10 ((S 15) * (S 20)))) (up_same1 rfl).symm)) ?_
  refine J_vret rfl d_D_setParts_47 ⟨by decide, by decide⟩ ?_
  exact ⟨rfl, rfl, rfl, hW8, rfl⟩
set_option maxRecDepth 100000 in
set_option maxHeartbeats 4000000 in
theorem c_D_subtractAmounts {l : Launch} (hfl : l.flags = flags0) {D : va_G} {g : Nat → ClassId} {ad : Nat → Nat} {N : Nat} {F0 : Nat → va_E} {W : Nat → Nat} {K S : Nat → Int} {x y : Nat} {s : Int}
    (hN : 109 ≤ N) (hW : bW W) (hDk : F0 9 = oD ad) (hx : W 27 = x) (hy : W 29 = y) :
    JC l y_D_subtractAmounts b_D_subtractAmounts 2 (Option.none : Option Jvm.ClassFile.FieldType) rm_D_subtractAmounts (0, 0) D jCl (jTys g) ad N (cF ad g F0 W K S) [.ref (ad 9), .int (iI s)] (jv ad N (fun F' => ∃ W' : Nat → Nat, bW W' ∧ (∀ j, j ≠ 11 → j ≠ 27 → j ≠ 29 → W' j = W j) ∧ W' 11 = (if y ≤ x then x - y else y - x) ∧ F' = cF ad g F0 W' K (va_up S 10 (if y ≤ x then s else -s)))) := by
  have hcg := cmpN_ge (a := x) (b := y)
  have hcr := cmpN_rng x y
  refine JC.go hfl (own := "NumberTower$Desk") (lv := [(0, .ref (ad 9)), (1, .int (iI s))]) rfl (by decide +kernel) (Nat.le_of_ble_eq_true rfl) rfl (fun A => ?_)
  refine J_aload_n 0 d_D_subtractAmounts_0 rfl rfl ?_
  refine gf_D_31 (by omega) ((cF_0 (by decide)).trans hDk) rfl d_D_subtractAmounts_1 ?_
  refine J_aload_n 0 d_D_subtractAmounts_4 rfl rfl ?_
  refine gf_D_34 (by omega) ((cF_0 (by decide)).trans hDk) rfl d_D_subtractAmounts_5 ?_
  refine J_callVi cw_D_110 nh_N_order pn_N_order rfl rfl (by omega) (cF_N (by decide) hx) (As := [.ref (ad 29)]) (rest := []) rfl (Nat.le_of_ble_eq_true rfl) ⟨by decide, by decide⟩ rfl ⟨by decide, by decide⟩ d_D_subtractAmounts_8 (n_order hfl (F0 := F0) (W := W) (K := K) (S := S) (k := 27) (m := 29) (hN := by omega) (hW := hW) (hk := (by decide)) (hm := (by decide)) (x := x) (hx := hx) (y := y) (hy := hy)) (fun z11 F1 hq => ?_)
  obtain ⟨hz11, eF1⟩ := hq
  refine J_eqF eF1 ?_
  refine J_topi (r := cmpN x y) (congrArg iI hz11) ?_
  refine J_iflt (tgt := 50) d_D_subtractAmounts_11 (by decide) ⟨by omega, by omega⟩ (fun c11 => ?_) (fun c11 => ?_)
  · refine J_aload_n 0 d_D_subtractAmounts_50 rfl rfl ?_
    refine gf_D_34 (by omega) ((cF_0 (by decide)).trans hDk) rfl d_D_subtractAmounts_51 ?_
    refine J_aload_n 0 d_D_subtractAmounts_54 rfl rfl ?_
    refine gf_D_31 (by omega) ((cF_0 (by decide)).trans hDk) rfl d_D_subtractAmounts_55 ?_
    refine J_callVv cw_D_114 nh_N_subtract pn_N_subtract rfl rfl (by omega) (cF_N (by decide) hy) (As := [.ref (ad 27)]) (rest := []) rfl (Nat.le_of_ble_eq_true rfl) ⟨by decide, by decide⟩ rfl ⟨by decide, by decide⟩ d_D_subtractAmounts_58 (n_subtract hfl (F0 := F0) (W := W) (K := K) (S := S) (k := 29) (m := 27) (r := (y - x)) (hN := by omega) (hW := hW) (hk := (by decide)) (hm := (by decide)) (x := y) (hx := hy) (y := x) (hy := hx) (hd := (by decide)) (hr := by omega)) (fun  F15 hq => ?_)
    obtain ⟨hW13, eF14⟩ := hq
    refine J_eqF (F2 := cF ad g F0 (va_up W 29 (y - x)) K S) eF14 ?_
    refine J_aload_n 0 d_D_subtractAmounts_61 rfl rfl ?_
    refine gf_D_12 (by omega) ((cF_0 (by decide)).trans hDk) rfl d_D_subtractAmounts_62 ?_
    refine gf_D_76 (by omega) (cF_U (by decide) rfl rfl) rfl d_D_subtractAmounts_65 ?_
    refine J_aload_n 0 d_D_subtractAmounts_68 rfl rfl ?_
    refine gf_D_34 (by omega) ((cF_0 (by decide)).trans hDk) rfl d_D_subtractAmounts_69 ?_
    refine J_callVv cw_D_89 nh_N_copyFrom pn_N_copyFrom rfl rfl (by omega) (cF_N (by decide) (va_up_ne _ _ (by decide))) (As := [.ref (ad 29)]) (rest := []) rfl (Nat.le_of_ble_eq_true rfl) ⟨by decide, by decide⟩ rfl ⟨by decide, by decide⟩ d_D_subtractAmounts_72 (n_copyFrom hfl (F0 := F0) (W := va_up W 29 (y - x)) (K := K) (S := S) (k := 11) (m := 29) (hN := by omega) (hW := hW13) (hk := (by decide)) (hm := (by decide)) (x := (y - x)) (hx := (va_up_self ..)) (hd := (by decide))) (fun  F19 hq => ?_)
    obtain ⟨hW17, eF18⟩ := hq
    refine J_eqF (F2 := cF ad g F0 (va_up (va_up W 29 (y - x)) 11 (y - x)) K S) eF18 ?_
    refine J_aload_n 0 d_D_subtractAmounts_75 rfl rfl ?_
    refine gf_D_12 (by omega) ((cF_0 (by decide)).trans hDk) rfl d_D_subtractAmounts_76 ?_
    refine J_iload_n 1 d_D_subtractAmounts_79 rfl rfl ?_
    refine J_ineg d_D_subtractAmounts_80 ?_
    refine pf_D_69 (by omega) (cF_U (by decide) rfl rfl) (Nat.le_of_ble_eq_true rfl) d_D_subtractAmounts_81 ?_
    refine J_eqF (F2 := cF ad g F0 (va_up (va_up W 29 (y - x)) 11 (y - x)) K (va_up S 10 (-s))) ((cF_upU (by decide)).trans (congrArg (fun qq => cF ad g F0 (va_up (va_up W 29 (y - x)) 11 (y - x)) qq (va_up S 10 (-s))) (up_same1 rfl).symm)) ?_
    refine J_vret rfl d_D_subtractAmounts_84 ⟨by decide, by decide⟩ ?_
    first
    | exact ⟨rfl, rfl, rfl, _, hW17, fun j h1 h2 h3 => by rw [va_up_ne _ _ (by omega), va_up_ne _ _ (by omega)], by rw [if_pos (by omega)]; simp only [va_up]; rfl, by rw [if_pos (by omega)]⟩
    | exact ⟨rfl, rfl, rfl, _, hW17, fun j h1 h2 h3 => by rw [va_up_ne _ _ (by omega), va_up_ne _ _ (by omega)], by rw [if_neg (by omega)]; simp only [va_up]; rfl, by rw [if_neg (by omega)]⟩
  · refine J_aload_n 0 d_D_subtractAmounts_14 rfl rfl ?_
    refine gf_D_31 (by omega) ((cF_0 (by decide)).trans hDk) rfl d_D_subtractAmounts_15 ?_
    refine J_aload_n 0 d_D_subtractAmounts_18 rfl rfl ?_
    refine gf_D_34 (by omega) ((cF_0 (by decide)).trans hDk) rfl d_D_subtractAmounts_19 ?_
    refine J_callVv cw_D_114 nh_N_subtract pn_N_subtract rfl rfl (by omega) (cF_N (by decide) hx) (As := [.ref (ad 29)]) (rest := []) rfl (Nat.le_of_ble_eq_true rfl) ⟨by decide, by decide⟩ rfl ⟨by decide, by decide⟩ d_D_subtractAmounts_22 (n_subtract hfl (F0 := F0) (W := W) (K := K) (S := S) (k := 27) (m := 29) (r := (x - y)) (hN := by omega) (hW := hW) (hk := (by decide)) (hm := (by decide)) (x := x) (hx := hx) (y := y) (hy := hy) (hd := (by decide)) (hr := by omega)) (fun  F23 hq => ?_)
    obtain ⟨hW21, eF22⟩ := hq
    refine J_eqF (F2 := cF ad g F0 (va_up W 27 (x - y)) K S) eF22 ?_
    refine J_aload_n 0 d_D_subtractAmounts_25 rfl rfl ?_
    refine gf_D_12 (by omega) ((cF_0 (by decide)).trans hDk) rfl d_D_subtractAmounts_26 ?_
    refine gf_D_76 (by omega) (cF_U (by decide) rfl rfl) rfl d_D_subtractAmounts_29 ?_
    refine J_aload_n 0 d_D_subtractAmounts_32 rfl rfl ?_
    refine gf_D_31 (by omega) ((cF_0 (by decide)).trans hDk) rfl d_D_subtractAmounts_33 ?_
    refine J_callVv cw_D_89 nh_N_copyFrom pn_N_copyFrom rfl rfl (by omega) (cF_N (by decide) (va_up_ne _ _ (by decide))) (As := [.ref (ad 27)]) (rest := []) rfl (Nat.le_of_ble_eq_true rfl) ⟨by decide, by decide⟩ rfl ⟨by decide, by decide⟩ d_D_subtractAmounts_36 (n_copyFrom hfl (F0 := F0) (W := va_up W 27 (x - y)) (K := K) (S := S) (k := 11) (m := 27) (hN := by omega) (hW := hW21) (hk := (by decide)) (hm := (by decide)) (x := (x - y)) (hx := (va_up_self ..)) (hd := (by decide))) (fun  F27 hq => ?_)
    obtain ⟨hW25, eF26⟩ := hq
    refine J_eqF (F2 := cF ad g F0 (va_up (va_up W 27 (x - y)) 11 (x - y)) K S) eF26 ?_
    refine J_aload_n 0 d_D_subtractAmounts_39 rfl rfl ?_
    refine gf_D_12 (by omega) ((cF_0 (by decide)).trans hDk) rfl d_D_subtractAmounts_40 ?_
    refine J_iload_n 1 d_D_subtractAmounts_43 rfl rfl ?_
    refine pf_D_69 (by omega) (cF_U (by decide) rfl rfl) (Nat.le_of_ble_eq_true rfl) d_D_subtractAmounts_44 ?_
    refine J_eqF (F2 := cF ad g F0 (va_up (va_up W 27 (x - y)) 11 (x - y)) K (va_up S 10 s)) ((cF_upU (by decide)).trans (congrArg (fun qq => cF ad g F0 (va_up (va_up W 27 (x - y)) 11 (x - y)) qq (va_up S 10 s)) (up_same1 rfl).symm)) ?_
    refine J_goto (tgt := 84) d_D_subtractAmounts_47 (by decide) ?_
    refine J_vret rfl d_D_subtractAmounts_84 ⟨by decide, by decide⟩ ?_
    first
    | exact ⟨rfl, rfl, rfl, _, hW25, fun j h1 h2 h3 => by rw [va_up_ne _ _ (by omega), va_up_ne _ _ (by omega)], by rw [if_pos (by omega)]; simp only [va_up]; rfl, by rw [if_pos (by omega)]⟩
    | exact ⟨rfl, rfl, rfl, _, hW25, fun j h1 h2 h3 => by rw [va_up_ne _ _ (by omega), va_up_ne _ _ (by omega)], by rw [if_neg (by omega)]; simp only [va_up]; rfl, by rw [if_neg (by omega)]⟩
set_option maxRecDepth 100000 in
set_option maxHeartbeats 4000000 in
theorem c_D_makeNearest {l : Launch} (hfl : l.flags = flags0) {D : va_G} {g : Nat → ClassId} {ad : Nat → Nat} {N : Nat} {F0 : Nat → va_E} {W : Nat → Nat} {K S : Nat → Int} {p U Y : Nat}
    (hN : 109 ≤ N) (hW : bW W) (hDk : F0 9 = oD ad) (hp : isU p) (hp2 : p = 10 ∨ p = 15 ∨ p = 20) (hU : W (p + 1) = U) (hDd : W (p + 3) = Y) (hD : 0 < Y) (hUb : U < 2 ^ 310) (hDb : Y < 2 ^ 310) (hs : -1 ≤ S p ∧ S p ≤ 1) :
    JC l y_D_makeNearest b_D_makeNearest 14 (Option.none : Option Jvm.ClassFile.FieldType) rm_D_makeNearest (0, 0) D jCl (jTys g) ad N (cF ad g F0 W K S) [.ref (ad 9), .ref (ad p)] (jvx ad N (fun F' => ∃ (W' : Nat → Nat) (s' : Int) (u d : Nat), near (S p) U Y = some (2, s', u, d) ∧ bW W' ∧ (∀ j, j ≠ p + 1 → j ≠ p + 3 → j ≠ 25 → W' j = W j) ∧ W' (p + 1) = u ∧ W' (p + 3) = d ∧ F' = cF ad g F0 W' (va_up K p 2) (va_up S p s')) (fun k F' => k = 2 ∧ near (S p) U Y = none ∧ scr ad g F0 W K S F')) := by
  refine JC.go hfl (own := "NumberTower$Desk") (lv := [(0, .ref (ad 9)), (1, .ref (ad p))]) rfl (by decide +kernel) (Nat.le_of_ble_eq_true rfl) rfl (fun A => ?_)
  refine J_aload_n 1 d_D_makeNearest_0 rfl rfl ?_
  refine gf_D_76 (by omega) (cF_U hp rfl rfl) rfl d_D_makeNearest_1 ?_
  refine J_callVi cw_D_120 nh_N_isZero pn_N_isZero rfl rfl (by omega) (cF_N (isU_1 hp).2.1 hU) (As := []) (rest := []) rfl (Nat.le_of_ble_eq_true rfl) ⟨by decide, by decide⟩ rfl ⟨by decide, by decide⟩ d_D_makeNearest_4 (n_isZero hfl (F0 := F0) (W := W) (K := K) (S := S) (k := p + 1) (hN := by omega) (hW := hW) (hk := (isU_1 hp).2.1) (x := U) (hx := hU)) (fun z28 F1 hq => ?_)
  obtain ⟨hz28, eF1⟩ := hq
  refine J_eqF eF1 ?_
  refine J_ifeq (tgt := 18) d_D_makeNearest_7 (by decide) ⟨by omega, by omega⟩ (fun c7 => ?_) (fun c7 => ?_)
  · refine J_bipush d_D_makeNearest_18 (i8_ok (by decide)) ?_
    refine J_aload_n 1 d_D_makeNearest_20 rfl rfl ?_
    refine gf_D_76 (by omega) (cF_U hp rfl rfl) rfl d_D_makeNearest_21 ?_
    refine J_callVi cw_D_189 nh_N_bits pn_N_bits rfl rfl (by omega) (cF_N (isU_1 hp).2.1 hU) (As := []) (rest := [.int (iI 54)]) rfl (Nat.le_of_ble_eq_true rfl) ⟨by decide, by decide⟩ rfl ⟨by decide, by decide⟩ d_D_makeNearest_24 (n_bits hfl (F0 := F0) (W := W) (K := K) (S := S) (k := p + 1) (hN := by omega) (hW := hW) (hk := (isU_1 hp).2.1) (x := U) (hx := hU)) (fun z29 F2 hq => ?_)
    obtain ⟨hz29, eF2⟩ := hq
    refine J_eqF eF2 ?_
    refine J_topi (r := (((blen U : Nat)) : Int)) (congrArg iI hz29) ?_
    refine J_aload_n 1 d_D_makeNearest_27 rfl rfl ?_
    refine gf_D_79 (by omega) (cF_U hp rfl rfl) rfl d_D_makeNearest_28 ?_
    refine J_callVi cw_D_189 nh_N_bits pn_N_bits rfl rfl (by omega) (cF_N (isU_1 hp).2.2 hDd) (As := []) (rest := [.int (iI (((blen U : Nat)) : Int)), .int (iI 54)]) rfl (Nat.le_of_ble_eq_true rfl) ⟨by decide, by decide⟩ rfl ⟨by decide, by decide⟩ d_D_makeNearest_31 (n_bits hfl (F0 := F0) (W := W) (K := K) (S := S) (k := p + 3) (hN := by omega) (hW := hW) (hk := (isU_1 hp).2.2) (x := Y) (hx := hDd)) (fun z30 F3 hq => ?_)
    obtain ⟨hz30, eF3⟩ := hq
    refine J_eqF eF3 ?_
    refine J_topi (r := (((blen Y : Nat)) : Int)) (congrArg iI hz30) ?_
    refine J_isub d_D_makeNearest_34 ?_
    refine J_isub d_D_makeNearest_35 ?_
    obtain ⟨pl, hpl⟩ : ∃ pl : Int, pl = 54 - ((blen U : Int) - blen Y) := ⟨_, rfl⟩
    have hU0 : 0 < U := by omega
    have hbU := (blen_le (v := U) (m := 310)).mpr hUb
    have hbD := (blen_le (v := Y) (m := 310)).mpr hDb
    have hb1 : U * 2 ^ pl.toNat < 2 ^ 420 := by
      by_cases z : 0 ≤ pl
      · have h1 : U * 2 ^ pl.toNat < 2 ^ blen U * 2 ^ pl.toNat := Nat.mul_lt_mul_of_pos_right (blen_lt U) (Nat.two_pow_pos _)
        rw [← Nat.pow_add] at h1
        exact Nat.lt_of_lt_of_le h1 (Nat.pow_le_pow_right (by decide) (by omega))
      · rw [show pl.toNat = 0 by omega, Nat.pow_zero, Nat.mul_one]
        exact Nat.lt_trans hUb (by decide)
    have hb2 : Y * 2 ^ (-pl).toNat < 2 ^ 420 := by
      by_cases z : 0 ≤ -pl
      · have h1 : Y * 2 ^ (-pl).toNat < 2 ^ blen Y * 2 ^ (-pl).toNat := Nat.mul_lt_mul_of_pos_right (blen_lt Y) (Nat.two_pow_pos _)
        rw [← Nat.pow_add] at h1
        exact Nat.lt_of_lt_of_le h1 (Nat.pow_le_pow_right (by decide) (by omega))
      · rw [show (-pl).toNat = 0 by omega, Nat.pow_zero, Nat.mul_one]
        exact Nat.lt_trans hDb (by decide)
    obtain ⟨q, hq⟩ : ∃ q, q = su U pl / sd Y pl := ⟨_, rfl⟩
    obtain ⟨dr, hdr⟩ : ∃ dr, dr = blen q - 53 := ⟨_, rfl⟩
    obtain ⟨hq1, hq2, hbq, hdr1, hdr2, hns, hnq⟩ := near_steps hU0 hD hpl hq hdr
    obtain ⟨sk, hsk⟩ : ∃ sk : Nat, sk = if su U pl % sd Y pl = 0 then 0 else 1 := ⟨_, rfl⟩
    rw [← hsk] at hnq
    have hsk1 : sk ≤ 1 := by rw [hsk]; split <;> omega
    have hk2 : q / 2 ^ dr ≤ q := Nat.div_le_self _ _
    have hkm := Nat.div_add_mod q (2 ^ dr)
    have hk3 : 2 ^ dr ≤ 4 := by
      have := Nat.pow_le_pow_right (n := 2) (by decide) hdr2
      omega
    have hk4 := Nat.mod_lt q (Nat.two_pow_pos dr)
    have hk5 : q / 2 ^ dr * 2 ^ dr ≤ q := Nat.div_mul_le_self _ _
    have hk6 := Nat.mul_comm (2 ^ dr) (q / 2 ^ dr)
    have hnr := nq_rng hD (ns_inR hU0 hD)
    have hnear : near (S p) U Y = if -100 ≤ (blen (nq U Y (ns U Y)) : Int) - 1 - ns U Y ∧ (blen (nq U Y (ns U Y)) : Int) - 1 - ns U Y ≤ 99 then some (2, S p, lowu (su (nq U Y (ns U Y)) (-ns U Y)) (sd 1 (-ns U Y)), lowd (su (nq U Y (ns U Y)) (-ns U Y)) (sd 1 (-ns U Y))) else none := by
      unfold near; rw [if_neg (by omega)]
    refine J_topi (r := pl) (congrArg iI (by rw [hpl])) ?_
    refine J_istore_n (lv' := [(2, .int (iI pl)), (0, .ref (ad 9)), (1, .ref (ad p))]) d_D_makeNearest_36 rfl (by decide) rfl ?_
    refine J_aload_n 2 d_D_makeNearest_37 rfl rfl ?_
    refine gf_D_76 (by omega) (cF_U hp rfl rfl) rfl d_D_makeNearest_38 ?_
    refine J_iload_n 0 d_D_makeNearest_41 rfl rfl ?_
    refine J_callVv cw_D_155 nh_N_shiftUp pn_N_shiftUp rfl rfl (by omega) (cF_N (isU_1 hp).2.1 hU) (As := [.int (iI pl)]) (rest := []) rfl (Nat.le_of_ble_eq_true rfl) ⟨by decide, by decide⟩ rfl ⟨by decide, by decide⟩ d_D_makeNearest_42 (n_shiftUp hfl (F0 := F0) (W := W) (K := K) (S := S) (k := p + 1) (n := pl) (hN := by omega) (hW := hW) (hk := (isU_1 hp).2.1) (x := U) (hx := hU) (hn := ⟨by omega, by omega⟩) (ht := Nat.lt_trans hb1 (by decide))) (fun  F34 hq => ?_)
    obtain ⟨hW32, eF33⟩ := hq
    refine J_eqF (F2 := cF ad g F0 (va_up W (p + 1) (U * 2 ^ pl.toNat)) K S) eF33 ?_
    refine J_aload_n 2 d_D_makeNearest_45 rfl rfl ?_
    refine gf_D_79 (by omega) (cF_U hp rfl rfl) rfl d_D_makeNearest_46 ?_
    refine J_iload_n 0 d_D_makeNearest_49 rfl rfl ?_
    refine J_ineg d_D_makeNearest_50 ?_
    refine J_callVv cw_D_155 nh_N_shiftUp pn_N_shiftUp rfl rfl (by omega) (cF_N (isU_1 hp).2.2 ((va_up_ne _ _ (by omega)).trans hDd)) (As := [.int (iI (-pl))]) (rest := []) rfl (Nat.le_of_ble_eq_true rfl) ⟨by decide, by decide⟩ rfl ⟨by decide, by decide⟩ d_D_makeNearest_51 (n_shiftUp hfl (F0 := F0) (W := va_up W (p + 1) (U * 2 ^ pl.toNat)) (K := K) (S := S) (k := p + 3) (n := -pl) (hN := by omega) (hW := hW32) (hk := (isU_1 hp).2.2) (x := Y) (hx := ((va_up_ne _ _ (by omega)).trans hDd)) (hn := ⟨by omega, by omega⟩) (ht := Nat.lt_trans hb2 (by decide))) (fun  F38 hq => ?_)
    obtain ⟨hW36, eF37⟩ := hq
    refine J_eqF (F2 := cF ad g F0 (va_up (va_up W (p + 1) (U * 2 ^ pl.toNat)) (p + 3) (Y * 2 ^ ((-pl).toNat))) K S) eF37 ?_
    have hW39 := (congrArg (fun qq : Nat => bW (va_up (va_up W (p + 1) qq) (p + 3) (Y * 2 ^ ((-pl).toNat)))) (show U * 2 ^ pl.toNat = su U pl from rfl)).mp hW36
    refine J_eqF (F2 := cF ad g F0 (va_up (va_up W (p + 1) (su U pl)) (p + 3) (Y * 2 ^ ((-pl).toNat))) K S) (congrArg (fun qq : Nat => cF ad g F0 (va_up (va_up W (p + 1) qq) (p + 3) (Y * 2 ^ ((-pl).toNat))) K S) (show U * 2 ^ pl.toNat = su U pl from rfl)) ?_
    have hW40 := (congrArg (fun qq : Nat => bW (va_up (va_up W (p + 1) (su U pl)) (p + 3) qq)) (show Y * 2 ^ ((-pl).toNat) = sd Y pl from rfl)).mp hW39
    refine J_eqF (F2 := cF ad g F0 (va_up (va_up W (p + 1) (su U pl)) (p + 3) (sd Y pl)) K S) (congrArg (fun qq : Nat => cF ad g F0 (va_up (va_up W (p + 1) (su U pl)) (p + 3) qq) K S) (show Y * 2 ^ ((-pl).toNat) = sd Y pl from rfl)) ?_
    refine J_aload_n 2 d_D_makeNearest_54 rfl rfl ?_
    refine gf_D_76 (by omega) (cF_U hp rfl rfl) rfl d_D_makeNearest_55 ?_
    refine J_aload_n 2 d_D_makeNearest_58 rfl rfl ?_
    refine gf_D_79 (by omega) (cF_U hp rfl rfl) rfl d_D_makeNearest_59 ?_
    refine J_aload_n 1 d_D_makeNearest_62 rfl rfl ?_
    refine gf_D_27 (by omega) ((cF_0 (by decide)).trans hDk) rfl d_D_makeNearest_63 ?_
    refine J_callVv cw_D_117 nh_N_divide pn_N_divide rfl rfl (by omega) (cF_N (isU_1 hp).2.1 ((va_up_ne _ _ (by omega)).trans (va_up_self ..))) (As := [.ref (ad (p + 3)), .ref (ad 25)]) (rest := []) rfl (Nat.le_of_ble_eq_true rfl) ⟨by decide, by decide⟩ rfl ⟨by decide, by decide⟩ d_D_makeNearest_66 (n_divide hfl (F0 := F0) (W := va_up (va_up W (p + 1) (su U pl)) (p + 3) (sd Y pl)) (K := K) (S := S) (k := p + 1) (m := p + 3) (p := 25) (hN := by omega) (hW := hW40) (hk := (isU_1 hp).2.1) (hm := (isU_1 hp).2.2) (hp := (by decide)) (x := su U pl) (hx := ((va_up_ne _ _ (by omega)).trans (va_up_self ..))) (y := sd Y pl) (hy := (va_up_self ..)) (hd := (by omega)) (hd1 := (by omega)) (hd2 := (by omega)) (hx4 := Nat.lt_trans hb1 (by decide)) (hy4 := Nat.lt_trans hb2 (by decide))) (fun  F44 hq => ?_)
    obtain ⟨hW42, eF43⟩ := hq
    have hW45 := (congrArg bW (up_in2 (by omega) (by omega))).mp hW42
    refine J_eqF (F2 := cF ad g F0 (va_up (va_up (va_up W (p + 1) ((su U pl) % (sd Y pl))) (p + 3) (sd Y pl)) 25 ((su U pl) / (sd Y pl))) K S) (eF43.trans (congrArg (fun qq => cF ad g F0 qq K S) (up_in2 (by omega) (by omega)))) ?_
    have hW46 := (congrArg (fun qq : Nat => bW (va_up (va_up (va_up W (p + 1) ((su U pl) % (sd Y pl))) (p + 3) (sd Y pl)) 25 qq)) (show (su U pl) / (sd Y pl) = q from hq.symm)).mp hW45
    refine J_eqF (F2 := cF ad g F0 (va_up (va_up (va_up W (p + 1) ((su U pl) % (sd Y pl))) (p + 3) (sd Y pl)) 25 q) K S) (congrArg (fun qq : Nat => cF ad g F0 (va_up (va_up (va_up W (p + 1) ((su U pl) % (sd Y pl))) (p + 3) (sd Y pl)) 25 qq) K S) (show (su U pl) / (sd Y pl) = q from hq.symm)) ?_
    refine J_aload_n 1 d_D_makeNearest_69 rfl rfl ?_
    refine gf_D_27 (by omega) ((cF_0 (by decide)).trans hDk) rfl d_D_makeNearest_70 ?_
    refine J_callVl cw_D_197 nh_N_toLong pn_N_toLong rfl rfl (by omega) (cF_N (by decide) (va_up_self ..)) (As := []) (rest := []) rfl (Nat.le_of_ble_eq_true rfl) ⟨by decide, by decide⟩ rfl ⟨by decide, by decide⟩ d_D_makeNearest_73 (n_toLong hfl (F0 := F0) (W := va_up (va_up (va_up W (p + 1) ((su U pl) % (sd Y pl))) (p + 3) (sd Y pl)) 25 q) (K := K) (S := S) (k := 25) (hN := by omega) (hW := hW46) (hk := (by decide)) (x := q) (hx := (va_up_self ..)) (h63 := by omega)) (fun z47 F4 hq => ?_)
    obtain ⟨hz47, eF4⟩ := hq
    refine J_eqF eF4 ?_
    refine J_topl (r := (q : Int)) (congrArg lI hz47) ?_
    refine J_lstore_n (lv' := [(3, .long (lI (q : Int))), (2, .int (iI pl)), (0, .ref (ad 9)), (1, .ref (ad p))]) d_D_makeNearest_76 rfl (by decide) rfl ?_
    refine J_lload_n 0 d_D_makeNearest_77 rfl rfl ?_
    refine J_callSi cw_D_219 nh_N_bitsOf pn_N_bitsOf rfl (As := [.long (lI (q : Int))]) (rest := []) rfl (Nat.le_of_ble_eq_true rfl) ⟨by decide, by decide⟩ rfl ⟨by decide, by decide⟩ d_D_makeNearest_78 (c_N_bitsOf hfl (v := q) (by omega)) (fun bq F5 hq => ?_)
    obtain ⟨hbq, eF5⟩ := hq
    refine J_eqF eF5 ?_
    refine J_topi (r := (((blen q : Nat)) : Int)) (congrArg iI hbq) ?_
    refine J_bipush d_D_makeNearest_81 (i8_ok (by decide)) ?_
    refine J_isub d_D_makeNearest_83 ?_
    refine J_topi (r := (dr : Int)) (congrArg iI (by omega)) ?_
    refine J_istore (lv' := [(5, .int (iI (dr : Int))), (3, .long (lI (q : Int))), (2, .int (iI pl)), (0, .ref (ad 9)), (1, .ref (ad p))]) d_D_makeNearest_84 (by decide) rfl ?_
    refine J_lload_n 1 d_D_makeNearest_86 rfl rfl ?_
    refine J_iload 0 d_D_makeNearest_87 rfl ?_
    refine J_lshr (r := ((q / 2 ^ dr : Nat) : Int)) d_D_makeNearest_89 (lI_shrn (by omega) dr (by omega)) ?_
    refine J_lstore (lv' := [(6, .long (lI ((q / 2 ^ dr : Nat) : Int))), (5, .int (iI (dr : Int))), (3, .long (lI (q : Int))), (2, .int (iI pl)), (0, .ref (ad 9)), (1, .ref (ad p))]) d_D_makeNearest_90 (by decide) rfl ?_
    refine J_ldc2 (z := 2) d_D_makeNearest_92 wd_648 (by decide) ?_
    refine J_lload_n 2 d_D_makeNearest_95 rfl rfl ?_
    refine J_lload 0 d_D_makeNearest_96 rfl ?_
    refine J_iload 1 d_D_makeNearest_98 rfl ?_
    refine J_lshl (r := ((q / 2 ^ dr * 2 ^ dr : Nat) : Int)) d_D_makeNearest_100 (lI_shln dr (by omega)) ?_
    refine J_lsub d_D_makeNearest_101 ?_
    refine J_topl (r := ((q % 2 ^ dr : Nat) : Int)) (congrArg lI (by omega)) ?_
    refine J_lmul d_D_makeNearest_102 ?_
    refine J_aload_n 5 d_D_makeNearest_103 rfl rfl ?_
    refine gf_D_76 (by omega) (cF_U hp rfl rfl) rfl d_D_makeNearest_104 ?_
    refine J_callVi cw_D_120 nh_N_isZero pn_N_isZero rfl rfl (by omega) (cF_N (isU_1 hp).2.1 ((va_up_ne _ _ (by omega)).trans ((va_up_ne _ _ (by omega)).trans (va_up_self ..)))) (As := []) (rest := [.long (lI (2 * ((q % 2 ^ dr : Nat) : Int)))]) rfl (Nat.le_of_ble_eq_true rfl) ⟨by decide, by decide⟩ rfl ⟨by decide, by decide⟩ d_D_makeNearest_107 (n_isZero hfl (F0 := F0) (W := va_up (va_up (va_up W (p + 1) ((su U pl) % (sd Y pl))) (p + 3) (sd Y pl)) 25 q) (K := K) (S := S) (k := p + 1) (hN := by omega) (hW := hW46) (hk := (isU_1 hp).2.1) (x := (su U pl) % (sd Y pl)) (hx := ((va_up_ne _ _ (by omega)).trans ((va_up_ne _ _ (by omega)).trans (va_up_self ..))))) (fun z48 F6 hq => ?_)
    obtain ⟨hz48, eF6⟩ := hq
    refine J_eqF eF6 ?_
    refine J_ifeq (tgt := 117) d_D_makeNearest_110 (by decide) ⟨by omega, by omega⟩ (fun c110 => ?_) (fun c110 => ?_)
    · refine J_iconst d_D_makeNearest_117 ?_
      refine J_pick (lv' := [(0, .ref (ad 9)), (1, .ref (ad p)), (2, .int (iI pl)), (3, .long (lI (q : Int))), (5, .int (iI (dr : Int))), (6, .long (lI ((q / 2 ^ dr : Nat) : Int)))]) [4, 5, 3, 2, 1, 0] rfl ?_
      refine J_topi (r := (sk : Int)) (congrArg iI (by rw [hsk, if_neg (by omega)]; rfl)) ?_
      have lab118 : J l rm_D_makeNearest (0, 0) "NumberTower$Desk" b_D_makeNearest 14 (Option.none : Option Jvm.ClassFile.FieldType) D jCl (jTys g) A (fun _ me => me.name = y_D_makeNearest.name) (jvx ad N (fun F' => ∃ (W' : Nat → Nat) (s' : Int) (u d : Nat), near (S p) U Y = some (2, s', u, d) ∧ bW W' ∧ (∀ j, j ≠ p + 1 → j ≠ p + 3 → j ≠ 25 → W' j = W j) ∧ W' (p + 1) = u ∧ W' (p + 3) = d ∧ F' = cF ad g F0 W' (va_up K p 2) (va_up S p s')) (fun k F' => k = 2 ∧ near (S p) U Y = none ∧ scr ad g F0 W K S F')) ad N 0 0 118 [(0, .ref (ad 9)), (1, .ref (ad p)), (2, .int (iI pl)), (3, .long (lI (q : Int))), (5, .int (iI (dr : Int))), (6, .long (lI ((q / 2 ^ dr : Nat) : Int)))] [.int (iI (sk : Int)), .long (lI (2 * ((q % 2 ^ dr : Nat) : Int)))] (cF ad g F0 (va_up (va_up (va_up W (p + 1) ((su U pl) % (sd Y pl))) (p + 3) (sd Y pl)) 25 q) K S) := by
        refine J_i2l d_D_makeNearest_118 ⟨by omega, by omega⟩ ?_
        refine J_ladd d_D_makeNearest_119 ?_
        refine J_topl (r := ((2 * (q % 2 ^ dr) + sk : Nat) : Int)) (congrArg lI (by omega)) ?_
        refine J_lstore (lv' := [(8, .long (lI ((2 * (q % 2 ^ dr) + sk : Nat) : Int))), (0, .ref (ad 9)), (1, .ref (ad p)), (2, .int (iI pl)), (3, .long (lI (q : Int))), (5, .int (iI (dr : Int))), (6, .long (lI ((q / 2 ^ dr : Nat) : Int)))]) d_D_makeNearest_120 (by decide) rfl ?_
        refine J_lconst (v := 1) d_D_makeNearest_122 rfl ?_
        refine J_iload 5 d_D_makeNearest_123 rfl ?_
        refine J_lshl (r := ((2 ^ dr : Nat) : Int)) d_D_makeNearest_125 (by rw [show (1 : Int) = ((1 : Nat) : Int) from rfl, lI_shln dr (by omega), Nat.one_mul]) ?_
        have lab159 : ∀ (qq : Nat) (hqq : qq = nq U Y (ns U Y)) , J l rm_D_makeNearest (0, 0) "NumberTower$Desk" b_D_makeNearest 14 (Option.none : Option Jvm.ClassFile.FieldType) D jCl (jTys g) A (fun _ me => me.name = y_D_makeNearest.name) (jvx ad N (fun F' => ∃ (W' : Nat → Nat) (s' : Int) (u d : Nat), near (S p) U Y = some (2, s', u, d) ∧ bW W' ∧ (∀ j, j ≠ p + 1 → j ≠ p + 3 → j ≠ 25 → W' j = W j) ∧ W' (p + 1) = u ∧ W' (p + 3) = d ∧ F' = cF ad g F0 W' (va_up K p 2) (va_up S p s')) (fun k F' => k = 2 ∧ near (S p) U Y = none ∧ scr ad g F0 W K S F')) ad N 0 0 159 [(0, .ref (ad 9)), (1, .ref (ad p)), (2, .int (iI pl)), (5, .int (iI (dr : Int))), (6, .long (lI (qq : Int)))] [] (cF ad g F0 (va_up (va_up (va_up W (p + 1) ((su U pl) % (sd Y pl))) (p + 3) (sd Y pl)) 25 q) K S) := by
          intro qq hqq
          have hqb : blen qq ≤ 54 := blen_le.mpr (by omega)
          refine J_iload 3 d_D_makeNearest_159 rfl ?_
          refine J_iload_n 2 d_D_makeNearest_161 rfl rfl ?_
          refine J_isub d_D_makeNearest_162 ?_
          refine J_topi (r := -ns U Y) (congrArg iI (by omega)) ?_
          refine J_istore (lv' := [(12, .int (iI (-ns U Y))), (0, .ref (ad 9)), (1, .ref (ad p)), (2, .int (iI pl)), (5, .int (iI (dr : Int))), (6, .long (lI (qq : Int)))]) d_D_makeNearest_163 (by decide) rfl ?_
          refine J_lload 5 d_D_makeNearest_165 rfl ?_
          refine J_callSi cw_D_219 nh_N_bitsOf pn_N_bitsOf rfl (As := [.long (lI (qq : Int))]) (rest := []) rfl (Nat.le_of_ble_eq_true rfl) ⟨by decide, by decide⟩ rfl ⟨by decide, by decide⟩ d_D_makeNearest_167 (c_N_bitsOf hfl (v := qq) (by omega)) (fun bk F7 hq => ?_)
          obtain ⟨hbk, eF7⟩ := hq
          refine J_eqF eF7 ?_
          refine J_topi (r := (((blen qq : Nat)) : Int)) (congrArg iI hbk) ?_
          refine J_iconst d_D_makeNearest_170 ?_
          refine J_isub d_D_makeNearest_171 ?_
          refine J_iload 0 d_D_makeNearest_172 rfl ?_
          refine J_iadd d_D_makeNearest_174 ?_
          refine J_istore (lv' := [(13, .int (iI (((((blen qq : Nat)) : Int) - 1) + (-ns U Y)))), (12, .int (iI (-ns U Y))), (0, .ref (ad 9)), (1, .ref (ad p)), (2, .int (iI pl)), (5, .int (iI (dr : Int))), (6, .long (lI (qq : Int)))]) d_D_makeNearest_175 (by decide) rfl ?_
          refine J_iload 0 d_D_makeNearest_177 rfl ?_
          refine J_bipush d_D_makeNearest_179 (i8_ok (by decide)) ?_
          refine J_if_icmplt (tgt := 191) d_D_makeNearest_181 (by decide) ⟨by omega, by omega⟩ ⟨by omega, by omega⟩ (fun c181 => ?_) (fun c181 => ?_)
          · refine J_throw (k := 2) (by decide) wd_614 wd_615 wd_17 wd_624 (List.mem_of_getElem? (i := 2) rfl) d_D_makeNearest_191 d_D_makeNearest_194 d_D_makeNearest_195 d_D_makeNearest_197 d_D_makeNearest_200 ⟨by decide, by decide⟩ (by decide) (by decide) ?_
            rw [← hqq, if_neg (by omega)] at hnear
            exact Or.inr ⟨_, rfl, rfl, rfl, rfl, hnear, scr_0 hW46 (fun j hj => ⟨(show (va_up (va_up (va_up W (p + 1) ((su U pl) % (sd Y pl))) (p + 3) (sd Y pl)) 25 q) j = W j from by rw [va_up_ne _ _ (by omega), va_up_ne _ _ (by omega), va_up_ne _ _ (by omega)]), (show (K) j = K j from by rfl), (show (S) j = S j from by rfl)⟩)⟩
          · refine J_iload 0 d_D_makeNearest_184 rfl ?_
            refine J_bipush d_D_makeNearest_186 (i8_ok (by decide)) ?_
            refine J_if_icmple (tgt := 201) d_D_makeNearest_188 (by decide) ⟨by omega, by omega⟩ ⟨by omega, by omega⟩ (fun c188 => ?_) (fun c188 => ?_)
            · refine J_aload_n 3 d_D_makeNearest_201 rfl rfl ?_
              refine J_aload_n 3 d_D_makeNearest_202 rfl rfl ?_
              refine gf_D_69 (by omega) (cF_U hp rfl rfl) rfl d_D_makeNearest_203 ?_
              refine J_lload 6 d_D_makeNearest_206 rfl ?_
              refine J_iload 1 d_D_makeNearest_208 rfl ?_
              refine J_callVv cw_D_215 nh_U_setBinary pn_U_setBinary rfl rfl (by omega) (cF_U hp rfl rfl) (As := [.int (iI (S p)), .long (lI (qq : Int)), .int (iI (-ns U Y))]) (rest := []) rfl (Nat.le_of_ble_eq_true rfl) ⟨by decide, by decide⟩ rfl ⟨by decide, by decide⟩ d_D_makeNearest_210 (c_U_setBinary hfl (F0 := F0) (W := va_up (va_up (va_up W (p + 1) ((su U pl) % (sd Y pl))) (p + 3) (sd Y pl)) 25 q) (K := K) (S := S) (k := p) (m := qq) (ns0 := S p) (e := -ns U Y) hN hW46 hp (by omega) (by omega) (by omega)) (fun  F49 hq => ?_)
              obtain ⟨hWs, eFs⟩ := hq
              refine J_eqF eFs ?_
              refine J_vret rfl d_D_makeNearest_213 ⟨by decide, by decide⟩ ?_
              rw [← hqq, if_pos (by omega)] at hnear
              refine Or.inl ⟨rfl, rfl, rfl, _, S p, _, _, hnear, hWs, fun j h1 h2 h3 => by rw [va_up_ne _ _ (by omega), va_up_ne _ _ (by omega), va_up_ne _ _ (by omega), va_up_ne _ _ (by omega), va_up_ne _ _ (by omega)], by rw [va_up_ne _ _ (by omega), va_up_self], by rw [va_up_self], ?_⟩
              rw [if_neg (by omega)]
            · refine J_throw (k := 2) (by decide) wd_614 wd_615 wd_17 wd_624 (List.mem_of_getElem? (i := 2) rfl) d_D_makeNearest_191 d_D_makeNearest_194 d_D_makeNearest_195 d_D_makeNearest_197 d_D_makeNearest_200 ⟨by decide, by decide⟩ (by decide) (by decide) ?_
              rw [← hqq, if_neg (by omega)] at hnear
              exact Or.inr ⟨_, rfl, rfl, rfl, rfl, hnear, scr_0 hW46 (fun j hj => ⟨(show (va_up (va_up (va_up W (p + 1) ((su U pl) % (sd Y pl))) (p + 3) (sd Y pl)) 25 q) j = W j from by rw [va_up_ne _ _ (by omega), va_up_ne _ _ (by omega), va_up_ne _ _ (by omega)]), (show (K) j = K j from by rfl), (show (S) j = S j from by rfl)⟩)⟩
        refine J_lstore (lv' := [(10, .long (lI ((2 ^ dr : Nat) : Int))), (8, .long (lI ((2 * (q % 2 ^ dr) + sk : Nat) : Int))), (0, .ref (ad 9)), (1, .ref (ad p)), (2, .int (iI pl)), (3, .long (lI (q : Int))), (5, .int (iI (dr : Int))), (6, .long (lI ((q / 2 ^ dr : Nat) : Int)))]) d_D_makeNearest_126 (by decide) rfl ?_
        refine J_lload 1 d_D_makeNearest_128 rfl ?_
        refine J_lload 0 d_D_makeNearest_130 rfl ?_
        refine J_lcmpgt (tgt := 153) d_D_makeNearest_132 d_D_makeNearest_133 (by decide) ⟨by omega, by omega⟩ ⟨by omega, by omega⟩ (fun c132 => ?_) (fun c132 => ?_)
        · refine J_lload 7 d_D_makeNearest_153 rfl ?_
          refine J_lconst (v := 1) d_D_makeNearest_155 rfl ?_
          refine J_ladd d_D_makeNearest_156 ?_
          refine J_topl (r := ((q / 2 ^ dr + 1 : Nat) : Int)) (congrArg lI (by omega)) ?_
          refine J_lstore (lv' := [(6, .long (lI ((q / 2 ^ dr + 1 : Nat) : Int))), (10, .long (lI ((2 ^ dr : Nat) : Int))), (8, .long (lI ((2 * (q % 2 ^ dr) + sk : Nat) : Int))), (0, .ref (ad 9)), (1, .ref (ad p)), (2, .int (iI pl)), (3, .long (lI (q : Int))), (5, .int (iI (dr : Int)))]) d_D_makeNearest_157 (by decide) rfl ?_
          refine J_pick (lv' := [(0, .ref (ad 9)), (1, .ref (ad p)), (2, .int (iI pl)), (5, .int (iI (dr : Int))), (6, .long (lI ((q / 2 ^ dr + 1 : Nat) : Int)))]) [3, 4, 5, 7, 0] rfl ?_
          exact lab159 (q / 2 ^ dr + 1) (by
            rw [hnq]
            have hmod : ∀ x : Nat, x % 2 = 0 ∨ x % 2 = 1 := by omega
            first
            | rw [if_pos (Or.inl (by omega))]
            | rw [if_pos (Or.inr ⟨by omega, by omega⟩)]
            | rw [if_neg (by omega)])
        · refine J_lload 1 d_D_makeNearest_136 rfl ?_
          refine J_lload 0 d_D_makeNearest_138 rfl ?_
          refine J_lcmpne (tgt := 159) d_D_makeNearest_140 d_D_makeNearest_141 (by decide) ⟨by omega, by omega⟩ ⟨by omega, by omega⟩ (fun c140 => ?_) (fun c140 => ?_)
          · refine J_pick (lv' := [(0, .ref (ad 9)), (1, .ref (ad p)), (2, .int (iI pl)), (5, .int (iI (dr : Int))), (6, .long (lI ((q / 2 ^ dr : Nat) : Int)))]) [2, 3, 4, 6, 7] rfl ?_
            exact lab159 (q / 2 ^ dr) (by
              rw [hnq]
              have hmod : ∀ x : Nat, x % 2 = 0 ∨ x % 2 = 1 := by omega
              first
              | rw [if_pos (Or.inl (by omega))]
              | rw [if_pos (Or.inr ⟨by omega, by omega⟩)]
              | rw [if_neg (by omega)])
          · refine J_lload 7 d_D_makeNearest_144 rfl ?_
            refine J_lconst (v := 1) d_D_makeNearest_146 rfl ?_
            refine J_land (r := ((q / 2 ^ dr % 2 : Nat) : Int)) d_D_makeNearest_147 (lI_andn 1 (by decide)) ?_
            refine J_lconst (v := 0) d_D_makeNearest_148 rfl ?_
            refine J_lcmpeq (tgt := 159) d_D_makeNearest_149 d_D_makeNearest_150 (by decide) ⟨by omega, by omega⟩ ⟨by omega, by omega⟩ (fun c149 => ?_) (fun c149 => ?_)
            · refine J_pick (lv' := [(0, .ref (ad 9)), (1, .ref (ad p)), (2, .int (iI pl)), (5, .int (iI (dr : Int))), (6, .long (lI ((q / 2 ^ dr : Nat) : Int)))]) [2, 3, 4, 6, 7] rfl ?_
              exact lab159 (q / 2 ^ dr) (by
                rw [hnq]
                have hmod : ∀ x : Nat, x % 2 = 0 ∨ x % 2 = 1 := by omega
                first
                | rw [if_pos (Or.inl (by omega))]
                | rw [if_pos (Or.inr ⟨by omega, by omega⟩)]
                | rw [if_neg (by omega)])
            · refine J_lload 7 d_D_makeNearest_153 rfl ?_
              refine J_lconst (v := 1) d_D_makeNearest_155 rfl ?_
              refine J_ladd d_D_makeNearest_156 ?_
              refine J_topl (r := ((q / 2 ^ dr + 1 : Nat) : Int)) (congrArg lI (by omega)) ?_
              refine J_lstore (lv' := [(6, .long (lI ((q / 2 ^ dr + 1 : Nat) : Int))), (10, .long (lI ((2 ^ dr : Nat) : Int))), (8, .long (lI ((2 * (q % 2 ^ dr) + sk : Nat) : Int))), (0, .ref (ad 9)), (1, .ref (ad p)), (2, .int (iI pl)), (3, .long (lI (q : Int))), (5, .int (iI (dr : Int)))]) d_D_makeNearest_157 (by decide) rfl ?_
              refine J_pick (lv' := [(0, .ref (ad 9)), (1, .ref (ad p)), (2, .int (iI pl)), (5, .int (iI (dr : Int))), (6, .long (lI ((q / 2 ^ dr + 1 : Nat) : Int)))]) [3, 4, 5, 7, 0] rfl ?_
              exact lab159 (q / 2 ^ dr + 1) (by
                rw [hnq]
                have hmod : ∀ x : Nat, x % 2 = 0 ∨ x % 2 = 1 := by omega
                first
                | rw [if_pos (Or.inl (by omega))]
                | rw [if_pos (Or.inr ⟨by omega, by omega⟩)]
                | rw [if_neg (by omega)])
      exact lab118  
    · refine J_iconst d_D_makeNearest_113 ?_
      refine J_goto (tgt := 118) d_D_makeNearest_114 (by decide) ?_
      refine J_pick (lv' := [(0, .ref (ad 9)), (1, .ref (ad p)), (2, .int (iI pl)), (3, .long (lI (q : Int))), (5, .int (iI (dr : Int))), (6, .long (lI ((q / 2 ^ dr : Nat) : Int)))]) [4, 5, 3, 2, 1, 0] rfl ?_
      refine J_topi (r := (sk : Int)) (congrArg iI (by rw [hsk, if_pos (by omega)]; rfl)) ?_
      have lab118 : J l rm_D_makeNearest (0, 0) "NumberTower$Desk" b_D_makeNearest 14 (Option.none : Option Jvm.ClassFile.FieldType) D jCl (jTys g) A (fun _ me => me.name = y_D_makeNearest.name) (jvx ad N (fun F' => ∃ (W' : Nat → Nat) (s' : Int) (u d : Nat), near (S p) U Y = some (2, s', u, d) ∧ bW W' ∧ (∀ j, j ≠ p + 1 → j ≠ p + 3 → j ≠ 25 → W' j = W j) ∧ W' (p + 1) = u ∧ W' (p + 3) = d ∧ F' = cF ad g F0 W' (va_up K p 2) (va_up S p s')) (fun k F' => k = 2 ∧ near (S p) U Y = none ∧ scr ad g F0 W K S F')) ad N 0 0 118 [(0, .ref (ad 9)), (1, .ref (ad p)), (2, .int (iI pl)), (3, .long (lI (q : Int))), (5, .int (iI (dr : Int))), (6, .long (lI ((q / 2 ^ dr : Nat) : Int)))] [.int (iI (sk : Int)), .long (lI (2 * ((q % 2 ^ dr : Nat) : Int)))] (cF ad g F0 (va_up (va_up (va_up W (p + 1) ((su U pl) % (sd Y pl))) (p + 3) (sd Y pl)) 25 q) K S) := by
        refine J_i2l d_D_makeNearest_118 ⟨by omega, by omega⟩ ?_
        refine J_ladd d_D_makeNearest_119 ?_
        refine J_topl (r := ((2 * (q % 2 ^ dr) + sk : Nat) : Int)) (congrArg lI (by omega)) ?_
        refine J_lstore (lv' := [(8, .long (lI ((2 * (q % 2 ^ dr) + sk : Nat) : Int))), (0, .ref (ad 9)), (1, .ref (ad p)), (2, .int (iI pl)), (3, .long (lI (q : Int))), (5, .int (iI (dr : Int))), (6, .long (lI ((q / 2 ^ dr : Nat) : Int)))]) d_D_makeNearest_120 (by decide) rfl ?_
        refine J_lconst (v := 1) d_D_makeNearest_122 rfl ?_
        refine J_iload 5 d_D_makeNearest_123 rfl ?_
        refine J_lshl (r := ((2 ^ dr : Nat) : Int)) d_D_makeNearest_125 (by rw [show (1 : Int) = ((1 : Nat) : Int) from rfl, lI_shln dr (by omega), Nat.one_mul]) ?_
        have lab159 : ∀ (qq : Nat) (hqq : qq = nq U Y (ns U Y)) , J l rm_D_makeNearest (0, 0) "NumberTower$Desk" b_D_makeNearest 14 (Option.none : Option Jvm.ClassFile.FieldType) D jCl (jTys g) A (fun _ me => me.name = y_D_makeNearest.name) (jvx ad N (fun F' => ∃ (W' : Nat → Nat) (s' : Int) (u d : Nat), near (S p) U Y = some (2, s', u, d) ∧ bW W' ∧ (∀ j, j ≠ p + 1 → j ≠ p + 3 → j ≠ 25 → W' j = W j) ∧ W' (p + 1) = u ∧ W' (p + 3) = d ∧ F' = cF ad g F0 W' (va_up K p 2) (va_up S p s')) (fun k F' => k = 2 ∧ near (S p) U Y = none ∧ scr ad g F0 W K S F')) ad N 0 0 159 [(0, .ref (ad 9)), (1, .ref (ad p)), (2, .int (iI pl)), (5, .int (iI (dr : Int))), (6, .long (lI (qq : Int)))] [] (cF ad g F0 (va_up (va_up (va_up W (p + 1) ((su U pl) % (sd Y pl))) (p + 3) (sd Y pl)) 25 q) K S) := by
          intro qq hqq
          have hqb : blen qq ≤ 54 := blen_le.mpr (by omega)
          refine J_iload 3 d_D_makeNearest_159 rfl ?_
          refine J_iload_n 2 d_D_makeNearest_161 rfl rfl ?_
          refine J_isub d_D_makeNearest_162 ?_
          refine J_topi (r := -ns U Y) (congrArg iI (by omega)) ?_
          refine J_istore (lv' := [(12, .int (iI (-ns U Y))), (0, .ref (ad 9)), (1, .ref (ad p)), (2, .int (iI pl)), (5, .int (iI (dr : Int))), (6, .long (lI (qq : Int)))]) d_D_makeNearest_163 (by decide) rfl ?_
          refine J_lload 5 d_D_makeNearest_165 rfl ?_
          refine J_callSi cw_D_219 nh_N_bitsOf pn_N_bitsOf rfl (As := [.long (lI (qq : Int))]) (rest := []) rfl (Nat.le_of_ble_eq_true rfl) ⟨by decide, by decide⟩ rfl ⟨by decide, by decide⟩ d_D_makeNearest_167 (c_N_bitsOf hfl (v := qq) (by omega)) (fun bk F8 hq => ?_)
          obtain ⟨hbk, eF8⟩ := hq
          refine J_eqF eF8 ?_
          refine J_topi (r := (((blen qq : Nat)) : Int)) (congrArg iI hbk) ?_
          refine J_iconst d_D_makeNearest_170 ?_
          refine J_isub d_D_makeNearest_171 ?_
          refine J_iload 0 d_D_makeNearest_172 rfl ?_
          refine J_iadd d_D_makeNearest_174 ?_
          refine J_istore (lv' := [(13, .int (iI (((((blen qq : Nat)) : Int) - 1) + (-ns U Y)))), (12, .int (iI (-ns U Y))), (0, .ref (ad 9)), (1, .ref (ad p)), (2, .int (iI pl)), (5, .int (iI (dr : Int))), (6, .long (lI (qq : Int)))]) d_D_makeNearest_175 (by decide) rfl ?_
          refine J_iload 0 d_D_makeNearest_177 rfl ?_
          refine J_bipush d_D_makeNearest_179 (i8_ok (by decide)) ?_
          refine J_if_icmplt (tgt := 191) d_D_makeNearest_181 (by decide) ⟨by omega, by omega⟩ ⟨by omega, by omega⟩ (fun c181 => ?_) (fun c181 => ?_)
          · refine J_throw (k := 2) (by decide) wd_614 wd_615 wd_17 wd_624 (List.mem_of_getElem? (i := 2) rfl) d_D_makeNearest_191 d_D_makeNearest_194 d_D_makeNearest_195 d_D_makeNearest_197 d_D_makeNearest_200 ⟨by decide, by decide⟩ (by decide) (by decide) ?_
            rw [← hqq, if_neg (by omega)] at hnear
            exact Or.inr ⟨_, rfl, rfl, rfl, rfl, hnear, scr_0 hW46 (fun j hj => ⟨(show (va_up (va_up (va_up W (p + 1) ((su U pl) % (sd Y pl))) (p + 3) (sd Y pl)) 25 q) j = W j from by rw [va_up_ne _ _ (by omega), va_up_ne _ _ (by omega), va_up_ne _ _ (by omega)]), (show (K) j = K j from by rfl), (show (S) j = S j from by rfl)⟩)⟩
          · refine J_iload 0 d_D_makeNearest_184 rfl ?_
            refine J_bipush d_D_makeNearest_186 (i8_ok (by decide)) ?_
            refine J_if_icmple (tgt := 201) d_D_makeNearest_188 (by decide) ⟨by omega, by omega⟩ ⟨by omega, by omega⟩ (fun c188 => ?_) (fun c188 => ?_)
            · refine J_aload_n 3 d_D_makeNearest_201 rfl rfl ?_
              refine J_aload_n 3 d_D_makeNearest_202 rfl rfl ?_
              refine gf_D_69 (by omega) (cF_U hp rfl rfl) rfl d_D_makeNearest_203 ?_
              refine J_lload 6 d_D_makeNearest_206 rfl ?_
              refine J_iload 1 d_D_makeNearest_208 rfl ?_
              refine J_callVv cw_D_215 nh_U_setBinary pn_U_setBinary rfl rfl (by omega) (cF_U hp rfl rfl) (As := [.int (iI (S p)), .long (lI (qq : Int)), .int (iI (-ns U Y))]) (rest := []) rfl (Nat.le_of_ble_eq_true rfl) ⟨by decide, by decide⟩ rfl ⟨by decide, by decide⟩ d_D_makeNearest_210 (c_U_setBinary hfl (F0 := F0) (W := va_up (va_up (va_up W (p + 1) ((su U pl) % (sd Y pl))) (p + 3) (sd Y pl)) 25 q) (K := K) (S := S) (k := p) (m := qq) (ns0 := S p) (e := -ns U Y) hN hW46 hp (by omega) (by omega) (by omega)) (fun  F50 hq => ?_)
              obtain ⟨hWs, eFs⟩ := hq
              refine J_eqF eFs ?_
              refine J_vret rfl d_D_makeNearest_213 ⟨by decide, by decide⟩ ?_
              rw [← hqq, if_pos (by omega)] at hnear
              refine Or.inl ⟨rfl, rfl, rfl, _, S p, _, _, hnear, hWs, fun j h1 h2 h3 => by rw [va_up_ne _ _ (by omega), va_up_ne _ _ (by omega), va_up_ne _ _ (by omega), va_up_ne _ _ (by omega), va_up_ne _ _ (by omega)], by rw [va_up_ne _ _ (by omega), va_up_self], by rw [va_up_self], ?_⟩
              rw [if_neg (by omega)]
            · refine J_throw (k := 2) (by decide) wd_614 wd_615 wd_17 wd_624 (List.mem_of_getElem? (i := 2) rfl) d_D_makeNearest_191 d_D_makeNearest_194 d_D_makeNearest_195 d_D_makeNearest_197 d_D_makeNearest_200 ⟨by decide, by decide⟩ (by decide) (by decide) ?_
              rw [← hqq, if_neg (by omega)] at hnear
              exact Or.inr ⟨_, rfl, rfl, rfl, rfl, hnear, scr_0 hW46 (fun j hj => ⟨(show (va_up (va_up (va_up W (p + 1) ((su U pl) % (sd Y pl))) (p + 3) (sd Y pl)) 25 q) j = W j from by rw [va_up_ne _ _ (by omega), va_up_ne _ _ (by omega), va_up_ne _ _ (by omega)]), (show (K) j = K j from by rfl), (show (S) j = S j from by rfl)⟩)⟩
        refine J_lstore (lv' := [(10, .long (lI ((2 ^ dr : Nat) : Int))), (8, .long (lI ((2 * (q % 2 ^ dr) + sk : Nat) : Int))), (0, .ref (ad 9)), (1, .ref (ad p)), (2, .int (iI pl)), (3, .long (lI (q : Int))), (5, .int (iI (dr : Int))), (6, .long (lI ((q / 2 ^ dr : Nat) : Int)))]) d_D_makeNearest_126 (by decide) rfl ?_
        refine J_lload 1 d_D_makeNearest_128 rfl ?_
        refine J_lload 0 d_D_makeNearest_130 rfl ?_
        refine J_lcmpgt (tgt := 153) d_D_makeNearest_132 d_D_makeNearest_133 (by decide) ⟨by omega, by omega⟩ ⟨by omega, by omega⟩ (fun c132 => ?_) (fun c132 => ?_)
        · refine J_lload 7 d_D_makeNearest_153 rfl ?_
          refine J_lconst (v := 1) d_D_makeNearest_155 rfl ?_
          refine J_ladd d_D_makeNearest_156 ?_
          refine J_topl (r := ((q / 2 ^ dr + 1 : Nat) : Int)) (congrArg lI (by omega)) ?_
          refine J_lstore (lv' := [(6, .long (lI ((q / 2 ^ dr + 1 : Nat) : Int))), (10, .long (lI ((2 ^ dr : Nat) : Int))), (8, .long (lI ((2 * (q % 2 ^ dr) + sk : Nat) : Int))), (0, .ref (ad 9)), (1, .ref (ad p)), (2, .int (iI pl)), (3, .long (lI (q : Int))), (5, .int (iI (dr : Int)))]) d_D_makeNearest_157 (by decide) rfl ?_
          refine J_pick (lv' := [(0, .ref (ad 9)), (1, .ref (ad p)), (2, .int (iI pl)), (5, .int (iI (dr : Int))), (6, .long (lI ((q / 2 ^ dr + 1 : Nat) : Int)))]) [3, 4, 5, 7, 0] rfl ?_
          exact lab159 (q / 2 ^ dr + 1) (by
            rw [hnq]
            have hmod : ∀ x : Nat, x % 2 = 0 ∨ x % 2 = 1 := by omega
            first
            | rw [if_pos (Or.inl (by omega))]
            | rw [if_pos (Or.inr ⟨by omega, by omega⟩)]
            | rw [if_neg (by omega)])
        · refine J_lload 1 d_D_makeNearest_136 rfl ?_
          refine J_lload 0 d_D_makeNearest_138 rfl ?_
          refine J_lcmpne (tgt := 159) d_D_makeNearest_140 d_D_makeNearest_141 (by decide) ⟨by omega, by omega⟩ ⟨by omega, by omega⟩ (fun c140 => ?_) (fun c140 => ?_)
          · refine J_pick (lv' := [(0, .ref (ad 9)), (1, .ref (ad p)), (2, .int (iI pl)), (5, .int (iI (dr : Int))), (6, .long (lI ((q / 2 ^ dr : Nat) : Int)))]) [2, 3, 4, 6, 7] rfl ?_
            exact lab159 (q / 2 ^ dr) (by
              rw [hnq]
              have hmod : ∀ x : Nat, x % 2 = 0 ∨ x % 2 = 1 := by omega
              first
              | rw [if_pos (Or.inl (by omega))]
              | rw [if_pos (Or.inr ⟨by omega, by omega⟩)]
              | rw [if_neg (by omega)])
          · refine J_lload 7 d_D_makeNearest_144 rfl ?_
            refine J_lconst (v := 1) d_D_makeNearest_146 rfl ?_
            refine J_land (r := ((q / 2 ^ dr % 2 : Nat) : Int)) d_D_makeNearest_147 (lI_andn 1 (by decide)) ?_
            refine J_lconst (v := 0) d_D_makeNearest_148 rfl ?_
            refine J_lcmpeq (tgt := 159) d_D_makeNearest_149 d_D_makeNearest_150 (by decide) ⟨by omega, by omega⟩ ⟨by omega, by omega⟩ (fun c149 => ?_) (fun c149 => ?_)
            · refine J_pick (lv' := [(0, .ref (ad 9)), (1, .ref (ad p)), (2, .int (iI pl)), (5, .int (iI (dr : Int))), (6, .long (lI ((q / 2 ^ dr : Nat) : Int)))]) [2, 3, 4, 6, 7] rfl ?_
              exact lab159 (q / 2 ^ dr) (by
                rw [hnq]
                have hmod : ∀ x : Nat, x % 2 = 0 ∨ x % 2 = 1 := by omega
                first
                | rw [if_pos (Or.inl (by omega))]
                | rw [if_pos (Or.inr ⟨by omega, by omega⟩)]
                | rw [if_neg (by omega)])
            · refine J_lload 7 d_D_makeNearest_153 rfl ?_
              refine J_lconst (v := 1) d_D_makeNearest_155 rfl ?_
              refine J_ladd d_D_makeNearest_156 ?_
              refine J_topl (r := ((q / 2 ^ dr + 1 : Nat) : Int)) (congrArg lI (by omega)) ?_
              refine J_lstore (lv' := [(6, .long (lI ((q / 2 ^ dr + 1 : Nat) : Int))), (10, .long (lI ((2 ^ dr : Nat) : Int))), (8, .long (lI ((2 * (q % 2 ^ dr) + sk : Nat) : Int))), (0, .ref (ad 9)), (1, .ref (ad p)), (2, .int (iI pl)), (3, .long (lI (q : Int))), (5, .int (iI (dr : Int)))]) d_D_makeNearest_157 (by decide) rfl ?_
              refine J_pick (lv' := [(0, .ref (ad 9)), (1, .ref (ad p)), (2, .int (iI pl)), (5, .int (iI (dr : Int))), (6, .long (lI ((q / 2 ^ dr + 1 : Nat) : Int)))]) [3, 4, 5, 7, 0] rfl ?_
              exact lab159 (q / 2 ^ dr + 1) (by
                rw [hnq]
                have hmod : ∀ x : Nat, x % 2 = 0 ∨ x % 2 = 1 := by omega
                first
                | rw [if_pos (Or.inl (by omega))]
                | rw [if_pos (Or.inr ⟨by omega, by omega⟩)]
                | rw [if_neg (by omega)])
      exact lab118  
  · refine J_aload_n 1 d_D_makeNearest_10 rfl rfl ?_
    refine J_iconst d_D_makeNearest_11 ?_
    refine J_lconst (v := 0) d_D_makeNearest_12 rfl ?_
    refine J_iconst d_D_makeNearest_13 ?_
    refine J_callVv cw_D_215 nh_U_setBinary pn_U_setBinary rfl rfl (by omega) (cF_U hp rfl rfl) (As := [.int (iI 0), .long (lI 0), .int (iI 0)]) (rest := []) rfl (Nat.le_of_ble_eq_true rfl) ⟨by decide, by decide⟩ rfl ⟨by decide, by decide⟩ d_D_makeNearest_14 (c_U_setBinary hfl (F0 := F0) (W := W) (K := K) (S := S) (k := p) (m := 0) (ns0 := 0) (e := 0) hN hW hp (by omega) (by omega) (by omega)) (fun  F51 hq => ?_)
    obtain ⟨hWs, eFs⟩ := hq
    refine J_eqF eFs ?_
    refine J_vret rfl d_D_makeNearest_17 ⟨by decide, by decide⟩ ?_
    have hnz : near (S p) U Y = some (2, 0, 0, 1) := by unfold near; rw [if_pos (by omega)]
    obtain ⟨z1, z2⟩ := low_0 (sd_pos (show 0 < 1 by decide) 0)
    exact Or.inl ⟨rfl, rfl, rfl, _, 0, 0, 1, hnz, hWs, fun j h1 h2 h3 => by rw [va_up_ne _ _ (by omega), va_up_ne _ _ (by omega)], by rw [va_up_ne _ _ (by omega), va_up_self]; exact z1, by rw [va_up_self]; exact z2, rfl⟩
