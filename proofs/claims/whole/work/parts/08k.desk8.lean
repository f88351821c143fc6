/-! the class's desk: powers, powers modulo, hashes -/
theorem powF_s {kx sx : Int} {ux dx i : Nat} {s : Int} {u d : Nat} (hp : powF kx sx ux dx i = some (kx, s, u, d)) : powF kx sx ux dx (i + 1) = fin kx (s * sx) (u * ux) (d * dx) := by
  show (powF kx sx ux dx i).bind _ = _
  rw [hp]; rfl
theorem sg_mul {a b : Int} {x y : Nat} (ha : a = 0 ↔ x = 0) (hb : b = 0 ↔ y = 0) : a * b = 0 ↔ x * y = 0 := by
  rw [Int.mul_eq_zero, Nat.mul_eq_zero, ha, hb]
set_option maxRecDepth 100000 in
set_option maxHeartbeats 4000000 in
theorem c_D_raise {l : Launch} (hfl : l.flags = flags0) {D : va_G} {g : Nat → ClassId} {ad : Nat → Nat} {N : Nat} {F0 : Nat → va_E} {W : Nat → Nat} {K S : Nat → Int} {x ux dx : Nat} {kx sx : Int} {y : Int}
    (hN : 109 ≤ N) (hW : bW W) (hDk : F0 9 = oD ad) (hxp : isU x) (hx2 : x = 2 ∨ 58 ≤ x) (hx1 : W (x + 1) = ux) (hx3 : W (x + 3) = dx) (hxk : K x = kx) (hxs : S x = sx) (hxr : -1 ≤ sx ∧ sx ≤ 1 ∧ -1 ≤ kx ∧ kx ≤ 2) (hxb : ux < 2 ^ 154 ∧ dx < 2 ^ 154) (hy : 0 ≤ y ∧ y ≤ 40) (hk0 : 0 ≤ kx) (hdx : 0 < dx) (hcop : kx ≠ 2 → Nat.Coprime ux dx) (hs0 : sx = 0 ↔ ux = 0) :
    JC l y_D_raise b_D_raise 4 (Option.none : Option Jvm.ClassFile.FieldType) rm_D_raise (0, 0) D jCl (jTys g) ad N (cF ad g F0 W K S) [.ref (ad 9), .ref (ad x), .int (iI y)] (QD ad N g F0 W K S (powF kx sx ux dx y.toNat)) := by
  have hx4 := (isU_1 hxp).1
  refine JC.go hfl (own := "NumberTower$Desk") (lv := [(0, .ref (ad 9)), (1, .ref (ad x)), (2, .int (iI y))]) rfl (by decide +kernel) (Nat.le_of_ble_eq_true rfl) rfl (fun A => ?_)
  refine J_aload_n 0 d_D_raise_0 rfl rfl ?_
  refine gf_D_21 (by omega) ((cF_0 (by decide)).trans hDk) rfl d_D_raise_1 ?_
  refine J_aload_n 1 d_D_raise_4 rfl rfl ?_
  refine J_callVv cw_D_62 nh_U_become pn_U_become rfl rfl (by omega) (cF_U (by decide) rfl rfl) (As := [.ref (ad x)]) (rest := []) rfl (Nat.le_of_ble_eq_true rfl) ⟨by decide, by decide⟩ rfl ⟨by decide, by decide⟩ d_D_raise_5 (u_become hfl (F0 := F0) (W := W) (K := K) (S := S) (k := 20) (p := x) (by omega) hW (by decide) hxp (by omega)) (fun  F1 hq => ?_)
  obtain ⟨hWb, eFb⟩ := hq
  rw [show (W) (x + 1) = ux from hx1, show (W) (x + 3) = dx from hx3] at hWb eFb
  rw [show (K) x = kx from hxk, show (S) x = sx from hxs] at eFb
  have hW2 := hWb
  have eB3 := eFb
  refine J_eqF (F2 := cF ad g F0 (va_up (va_up W 21 ux) 23 dx) (va_up K 20 kx) (va_up S 20 sx)) eB3 ?_
  refine J_aload_n 0 d_D_raise_8 rfl rfl ?_
  refine gf_D_12 (by omega) ((cF_0 (by decide)).trans hDk) rfl d_D_raise_9 ?_
  refine J_lconst (v := 1) d_D_raise_12 rfl ?_
  refine J_callVv cw_D_127 nh_U_setWhole pn_U_setWhole rfl rfl (by omega) (cF_U (by decide) (va_up_ne _ _ (by decide)) (va_up_ne _ _ (by decide))) (As := [.long (lI 1)]) (rest := []) rfl (Nat.le_of_ble_eq_true rfl) ⟨by decide, by decide⟩ rfl ⟨by decide, by decide⟩ d_D_raise_13 (u_setWhole hfl (F0 := F0) (W := va_up (va_up W 21 ux) 23 dx) (K := va_up K 20 kx) (S := va_up S 20 sx) (k := 10) (v := 1) (by omega) hW2 (by decide) (by decide)) (fun  F4 hq => ?_)
  obtain ⟨hWs, eFs⟩ := hq
  refine J_eqF (F2 := cF ad g F0 (va_up (va_up (va_up (va_up W 21 ux) 23 dx) 11 1) 13 1) (va_up (va_up K 20 kx) 10 0) (va_up (va_up S 20 sx) 10 1)) eFs ?_
  refine J_aload_n 0 d_D_raise_16 rfl rfl ?_
  refine gf_D_12 (by omega) ((cF_0 (by decide)).trans hDk) rfl d_D_raise_17 ?_
  refine J_aload_n 1 d_D_raise_20 rfl rfl ?_
  refine gf_D_52 (by omega) (cF_U hxp ((va_up_ne _ _ (by omega)).trans ((va_up_ne _ _ (by omega)).trans hxk)) ((va_up_ne _ _ (by omega)).trans ((va_up_ne _ _ (by omega)).trans hxs))) rfl d_D_raise_21 ?_
  refine pf_D_52 (by omega) (cF_U (by decide) (va_up_self ..) (va_up_self ..)) (Nat.le_of_ble_eq_true rfl) d_D_raise_24 ?_
  refine J_eqF (F2 := cF ad g F0 (va_up (va_up (va_up (va_up W 21 ux) 23 dx) 11 1) 13 1) (va_up (va_up K 20 kx) 10 kx) (va_up (va_up S 20 sx) 10 1)) (((cF_upU (by decide)).trans (congrArg (fun qq => cF ad g F0 (va_up (va_up (va_up (va_up W 21 ux) 23 dx) 11 1) 13 1) qq (va_up (va_up (va_up S 20 sx) 10 1) 10 1)) (up_in0))).trans (congrArg (fun qq => cF ad g F0 (va_up (va_up (va_up (va_up W 21 ux) 23 dx) 11 1) 13 1) (va_up (va_up K 20 kx) 10 kx) qq) (up_same1 (va_up_self ..)).symm)) ?_
  refine J_iconst d_D_raise_27 ?_
  refine J_istore_n (lv' := [(3, .int (iI 0)), (0, .ref (ad 9)), (1, .ref (ad x)), (2, .int (iI y))]) d_D_raise_28 rfl (by decide) rfl ?_
  refine J_pick (lv' := [(0, .ref (ad 9)), (1, .ref (ad x)), (2, .int (iI y)), (3, .int (iI 0))]) [1, 2, 3, 0] rfl ?_
  have loop29 : ∀ (fuel : Nat) (i : Nat) (W1 : Nat → Nat) (K1 : Nat → Int) (S1 : Nat → Int) (s : Int) (u : Nat) (d : Nat) (hi : (i : Int) ≤ y) (hW1 : bW W1) (hf1 : ∀ j, (j < 10 ∨ 40 < j) → W1 j = W j ∧ K1 j = K j ∧ S1 j = S j) (h11 : W1 11 = u) (h13 : W1 13 = d) (h21 : W1 21 = ux) (h23 : W1 23 = dx) (h10 : S1 10 = s) (h20 : S1 20 = sx) (hk10 : K1 10 = kx) (hkx : K1 x = kx) (hp : powF kx sx ux dx i = some (kx, s, u, d)) (hu : u < 2 ^ 154 ∧ d < 2 ^ 154) (hd0 : 0 < d) (hsr : -1 ≤ s ∧ s ≤ 1) (hsz : s = 0 ↔ u = 0) (hpw : kx ≠ 2 → u = ux ^ i ∧ d = dx ^ i) (hfu : y.toNat - i < fuel), J l rm_D_raise (0, 0) "NumberTower$Desk" b_D_raise 4 (Option.none : Option Jvm.ClassFile.FieldType) D jCl (jTys g) A (fun _ me => me.name = y_D_raise.name) (QD ad N g F0 W K S (powF kx sx ux dx y.toNat)) ad N 0 0 29 [(0, .ref (ad 9)), (1, .ref (ad x)), (2, .int (iI y)), (3, .int (iI (i : Int)))] [] (cF ad g F0 W1 K1 S1) := by
    intro fuel
    induction fuel with
    | zero => intro i W1 K1 S1 s u d hi hW1 hf1 h11 h13 h21 h23 h10 h20 hk10 hkx hp hu hd0 hsr hsz hpw hfu; exact absurd hfu (Nat.not_lt_zero _)
    | succ fuel ih =>
      intro i W1 K1 S1 s u d hi hW1 hf1 h11 h13 h21 h23 h10 h20 hk10 hkx hp hu hd0 hsr hsz hpw hfu
      refine J_iload_n 3 d_D_raise_29 rfl rfl ?_
      refine J_iload_n 2 d_D_raise_30 rfl rfl ?_
      refine J_if_icmpge (tgt := 106) d_D_raise_31 (by decide) ⟨by omega, by omega⟩ ⟨by omega, by omega⟩ (fun c31 => ?_) (fun c31 => ?_)
      · refine J_vret rfl d_D_raise_106 ⟨by decide, by decide⟩ ?_
        exact Or.inl ⟨rfl, rfl, rfl, _, _, _, _, _, _, _, (by rw [show y.toNat = i by omega]; exact hp), hW1, hf1, hk10, h10, h11, h13, rfl⟩
      · refine J_aload_n 0 d_D_raise_34 rfl rfl ?_
        refine gf_D_18 (by omega) ((cF_0 (by decide)).trans hDk) rfl d_D_raise_35 ?_
        refine J_aload_n 0 d_D_raise_38 rfl rfl ?_
        refine gf_D_12 (by omega) ((cF_0 (by decide)).trans hDk) rfl d_D_raise_39 ?_
        refine J_callVv cw_D_62 nh_U_become pn_U_become rfl rfl (by omega) (cF_U (by decide) rfl rfl) (As := [.ref (ad 10)]) (rest := []) rfl (Nat.le_of_ble_eq_true rfl) ⟨by decide, by decide⟩ rfl ⟨by decide, by decide⟩ d_D_raise_42 (u_become hfl (F0 := F0) (W := W1) (K := K1) (S := S1) (k := 15) (p := 10) (by omega) hW1 (by decide) (by decide) (by decide)) (fun  F5 hq => ?_)
        obtain ⟨hWb, eFb⟩ := hq
        rw [show (W1) 11 = u from h11, show (W1) 13 = d from h13] at hWb eFb
        rw [show (K1) 10 = kx from hk10, show (S1) 10 = s from h10] at eFb
        have hW6 := hWb
        have eB7 := eFb
        refine J_eqF (F2 := cF ad g F0 (va_up (va_up W1 16 u) 18 d) (va_up K1 15 kx) (va_up S1 15 s)) eB7 ?_
        refine J_aload_n 0 d_D_raise_45 rfl rfl ?_
        refine J_aload_n 0 d_D_raise_46 rfl rfl ?_
        refine gf_D_18 (by omega) ((cF_0 (by decide)).trans hDk) rfl d_D_raise_47 ?_
        refine gf_D_76 (by omega) (cF_U (by decide) (va_up_self ..) (va_up_self ..)) rfl d_D_raise_50 ?_
        refine J_aload_n 0 d_D_raise_53 rfl rfl ?_
        refine gf_D_21 (by omega) ((cF_0 (by decide)).trans hDk) rfl d_D_raise_54 ?_
        refine gf_D_76 (by omega) (cF_U (by decide) (va_up_ne _ _ (by decide)) ((va_up_ne _ _ (by decide)).trans h20)) rfl d_D_raise_57 ?_
        refine J_aload_n 0 d_D_raise_60 rfl rfl ?_
        refine gf_D_18 (by omega) ((cF_0 (by decide)).trans hDk) rfl d_D_raise_61 ?_
        refine gf_D_79 (by omega) (cF_U (by decide) (va_up_self ..) (va_up_self ..)) rfl d_D_raise_64 ?_
        refine J_aload_n 0 d_D_raise_67 rfl rfl ?_
        refine gf_D_21 (by omega) ((cF_0 (by decide)).trans hDk) rfl d_D_raise_68 ?_
        refine gf_D_79 (by omega) (cF_U (by decide) (va_up_ne _ _ (by decide)) ((va_up_ne _ _ (by decide)).trans h20)) rfl d_D_raise_71 ?_
        refine J_callVv cw_D_82 nh_D_setParts pn_D_setParts rfl rfl (by omega) ((cF_0 (by decide)).trans hDk) (As := [.ref (ad 16), .ref (ad 21), .ref (ad 18), .ref (ad 23)]) (rest := []) rfl (Nat.le_of_ble_eq_true rfl) ⟨by decide, by decide⟩ rfl ⟨by decide, by decide⟩ d_D_raise_74 (c_D_setParts hfl (F0 := F0) (W := va_up (va_up W1 16 u) 18 d) (K := va_up K1 15 kx) (S := va_up S1 15 s) (a := 16) (b := 21) (c := 18) (d := 23) (xa := u) (xb := ux) (xc := d) (xd := dx) hN hW6 hDk (by decide) (by decide) (by decide) (by decide) (by decide) (((va_up_ne _ _ (by decide)).trans (va_up_self ..))) (((va_up_ne _ _ (by decide)).trans ((va_up_ne _ _ (by decide)).trans h21))) ((va_up_self ..)) (((va_up_ne _ _ (by decide)).trans ((va_up_ne _ _ (by decide)).trans h23))) (Nat.lt_trans (prod_lt hu.1 hxb.1) (by decide)) (Nat.lt_trans (prod_lt hu.2 hxb.2) (by decide))) (fun  F8 hq => ?_)
        obtain ⟨q1, eFa⟩ := hq
        rw [show (va_up S1 15 s) 15 = s from (va_up_self ..), show (va_up S1 15 s) 20 = sx from ((va_up_ne _ _ (by decide)).trans h20)] at eFa
        refine J_eqF (F2 := cF ad g F0 (va_up (va_up (va_up (va_up W1 16 u) 18 d) 11 (u * ux)) 13 (d * dx)) (va_up K1 15 kx) (va_up (va_up S1 15 s) 10 (s * sx))) eFa ?_
        have hcp : kx ≠ 2 → Nat.Coprime (u * ux) (d * dx) := fun e => by
          rw [(hpw e).1, (hpw e).2, ← Nat.pow_succ, ← Nat.pow_succ]
          exact Nat.Coprime.pow _ _ (hcop e)
        refine J_aload_n 1 d_D_raise_77 rfl rfl ?_
        refine gf_D_52 (by omega) (cF_U hxp ((va_up_ne _ _ (by omega)).trans hkx) ((va_up_ne _ _ (by omega)).trans (va_up_ne _ _ (by omega)))) rfl d_D_raise_78 ?_
        refine J_iconst d_D_raise_81 ?_
        refine J_if_icmpne (tgt := 93) d_D_raise_82 (by decide) ⟨by omega, by omega⟩ ⟨by omega, by omega⟩ (fun c82 => ?_) (fun c82 => ?_)
        · refine J_aload_n 0 d_D_raise_93 rfl rfl ?_
          refine gf_D_12 (by omega) ((cF_0 (by decide)).trans hDk) rfl d_D_raise_94 ?_
          refine J_callSvx cw_D_130 nh_D_refuseBeyond pn_D_refuseBeyond rfl (As := [.ref (ad 10)]) (rest := []) rfl (Nat.le_of_ble_eq_true rfl) ⟨by decide, by decide⟩ rfl ⟨by decide, by decide⟩ d_D_raise_97 (c_D_refuseBeyond hfl (F0 := F0) (W := va_up (va_up (va_up (va_up W1 16 u) 18 d) 11 (u * ux)) 13 (d * dx)) (K := va_up K1 15 kx) (S := va_up (va_up S1 15 s) 10 (s * sx)) (p := 10) hN q1 (by decide)) (fun  F9 hq => ?_) (fun k9 F9 hq => by (obtain ⟨p1, p2, p3⟩ := hq; rw [show (va_up (va_up (va_up (va_up W1 16 u) 18 d) 11 (u * ux)) 13 (d * dx)) 11 = u * ux from ((va_up_ne _ _ (by decide)).trans (va_up_self ..)), show (va_up (va_up (va_up (va_up W1 16 u) 18 d) 11 (u * ux)) 13 (d * dx)) 13 = d * dx from (va_up_self ..)] at p2; exact Or.inr ⟨_, rfl, rfl, rfl, p1, powF_none (i := i + 1) (by rw [powF_s hp]; unfold fin; rw [if_neg (by omega), (low_same (hcp (by omega))).1, (low_same (hcp (by omega))).2, if_neg p2]) _ (by omega), (by rw [p3]; exact scr_0 q1 (fun j hj => ⟨((show (va_up (va_up (va_up (va_up W1 16 u) 18 d) 11 (u * ux)) 13 (d * dx)) j = W1 j from by rw [va_up_ne _ _ (by omega), va_up_ne _ _ (by omega), va_up_ne _ _ (by omega), va_up_ne _ _ (by omega)])).trans ((hf1 j hj).1), ((show (va_up K1 15 kx) j = K1 j from by rw [va_up_ne _ _ (by omega)])).trans ((hf1 j hj).2.1), ((show (va_up (va_up S1 15 s) 10 (s * sx)) j = S1 j from by rw [va_up_ne _ _ (by omega), va_up_ne _ _ (by omega)])).trans ((hf1 j hj).2.2)⟩))⟩))
          obtain ⟨hrb, eFr⟩ := hq
          refine J_eqF eFr ?_
          rw [show (va_up (va_up (va_up (va_up W1 16 u) 18 d) 11 (u * ux)) 13 (d * dx)) 11 = u * ux from ((va_up_ne _ _ (by decide)).trans (va_up_self ..)), show (va_up (va_up (va_up (va_up W1 16 u) 18 d) 11 (u * ux)) 13 (d * dx)) 13 = d * dx from (va_up_self ..)] at hrb
          have hfr : powF kx sx ux dx (i + 1) = some (kx, s * sx, u * ux, d * dx) := by
            rw [powF_s hp]
            unfold fin
            rw [if_neg (by omega), (low_same (hcp (by omega))).1, (low_same (hcp (by omega))).2, if_pos hrb]
            have := sg_mul hsz hs0
            rw [show (if u * ux = 0 then (0 : Int) else s * sx) = s * sx by split <;> omega]
          have hb1 := blen_le.mp hrb.1
          have hb2 := blen_le.mp hrb.2
          refine J_iinc (j := 3) (b := (i : Int) + 1) (lv' := [(3, .int (iI ((i : Int) + 1))), (0, .ref (ad 9)), (1, .ref (ad x)), (2, .int (iI y))]) d_D_raise_100 rfl (by omega) (by decide) rfl ?_
          refine J_goto (tgt := 29) d_D_raise_103 (by decide) ?_
          refine J_pick (lv' := [(0, .ref (ad 9)), (1, .ref (ad x)), (2, .int (iI y)), (3, .int (iI ((i : Int) + 1)))]) [1, 2, 3, 0] rfl ?_
          exact ih (i + 1) (va_up (va_up (va_up (va_up W1 16 u) 18 d) 11 (u * ux)) 13 (d * dx)) (va_up K1 15 kx) (va_up (va_up S1 15 s) 10 (s * sx)) (s * sx) (u * ux) (d * dx) (by omega) q1 (fun j hj => ⟨((show (va_up (va_up (va_up (va_up W1 16 u) 18 d) 11 (u * ux)) 13 (d * dx)) j = W1 j from by rw [va_up_ne _ _ (by omega), va_up_ne _ _ (by omega), va_up_ne _ _ (by omega), va_up_ne _ _ (by omega)])).trans (hf1 j hj).1, ((show (va_up K1 15 kx) j = K1 j from by rw [va_up_ne _ _ (by omega)])).trans (hf1 j hj).2.1, ((show (va_up (va_up S1 15 s) 10 (s * sx)) j = S1 j from by rw [va_up_ne _ _ (by omega), va_up_ne _ _ (by omega)])).trans (hf1 j hj).2.2⟩) (((va_up_ne _ _ (by decide)).trans (va_up_self ..))) ((va_up_self ..)) (((va_up_ne _ _ (by decide)).trans ((va_up_ne _ _ (by decide)).trans ((va_up_ne _ _ (by decide)).trans ((va_up_ne _ _ (by decide)).trans h21))))) (((va_up_ne _ _ (by decide)).trans ((va_up_ne _ _ (by decide)).trans ((va_up_ne _ _ (by decide)).trans ((va_up_ne _ _ (by decide)).trans h23))))) ((va_up_self ..)) (((va_up_ne _ _ (by decide)).trans ((va_up_ne _ _ (by decide)).trans h20))) (((va_up_ne _ _ (by decide)).trans hk10)) (((va_up_ne _ _ (by omega)).trans hkx)) hfr ⟨Nat.lt_trans hb1 (by decide), Nat.lt_trans hb2 (by decide)⟩ (Nat.mul_pos hd0 hdx) (sgn_rng hsr ⟨by omega, by omega⟩) (sg_mul hsz hs0) (fun e => ⟨by rw [Nat.pow_succ, (hpw e).1], by rw [Nat.pow_succ, (hpw e).2]⟩) (by omega)
        · refine J_aload_n 0 d_D_raise_85 rfl rfl ?_
          refine J_iconst d_D_raise_86 ?_
          refine J_callVvx cw_D_101 nh_D_settle pn_D_settle rfl rfl (by omega) ((cF_0 (by decide)).trans hDk) (As := [.int (iI 2)]) (rest := []) rfl (Nat.le_of_ble_eq_true rfl) ⟨by decide, by decide⟩ rfl ⟨by decide, by decide⟩ d_D_raise_87 (c_D_settle hfl (F0 := F0) (W := va_up (va_up (va_up (va_up W1 16 u) 18 d) 11 (u * ux)) 13 (d * dx)) (K := va_up K1 15 kx) (S := va_up (va_up S1 15 s) 10 (s * sx)) (X := u * ux) (Y := d * dx) (kd := 2) hN q1 hDk (((va_up_ne _ _ (by decide)).trans (va_up_self ..))) ((va_up_self ..)) (Nat.mul_pos hd0 hdx) (Nat.lt_trans (prod_lt hu.1 hxb.1) (by decide)) (Nat.lt_trans (prod_lt hu.2 hxb.2) (by decide)) (by rw [show (va_up (va_up S1 15 s) 10 (s * sx)) 10 = s * sx from (va_up_self ..)]; exact (sgn_rng hsr ⟨by omega, by omega⟩)) (by omega) (fun e => absurd e (by decide))) (fun  F20 hq => ?_) (fun k9 F9 hq => by (obtain ⟨q1, q2, q3⟩ := hq; rw [show (va_up (va_up S1 15 s) 10 (s * sx)) 10 = s * sx from (va_up_self ..)] at q2; exact Or.inr ⟨_, rfl, rfl, rfl, q1, powF_none (i := i + 1) (by rw [powF_s hp, show kx = 2 by omega]; exact q2) _ (by omega), scr_t q3 (fun j hj => ⟨((show (va_up (va_up (va_up (va_up W1 16 u) 18 d) 11 (u * ux)) 13 (d * dx)) j = W1 j from by rw [va_up_ne _ _ (by omega), va_up_ne _ _ (by omega), va_up_ne _ _ (by omega), va_up_ne _ _ (by omega)])).trans ((hf1 j hj).1), ((show (va_up K1 15 kx) j = K1 j from by rw [va_up_ne _ _ (by omega)])).trans ((hf1 j hj).2.1), ((show (va_up (va_up S1 15 s) 10 (s * sx)) j = S1 j from by rw [va_up_ne _ _ (by omega), va_up_ne _ _ (by omega)])).trans ((hf1 j hj).2.2)⟩)⟩))
          obtain ⟨W10, k16, s17, u18, d19, q11, q12, q13, q14, q15, eFn⟩ := hq
          rw [show (va_up (va_up S1 15 s) 10 (s * sx)) 10 = s * sx from (va_up_self ..)] at q11
          refine J_eqF (F2 := cF ad g F0 W10 (va_up (va_up K1 15 kx) 10 k16) (va_up (va_up S1 15 s) 10 s17)) (eFn.trans (congrArg (fun qq => cF ad g F0 W10 (va_up (va_up K1 15 kx) 10 k16) qq) (up_in0))) ?_
          obtain ⟨o1, o2, o3, o4, o5, o6, -⟩ := fin_out q11 (Nat.mul_pos hd0 hdx)
          refine J_goto (tgt := 100) d_D_raise_90 (by decide) ?_
          refine J_iinc (j := 3) (b := (i : Int) + 1) (lv' := [(3, .int (iI ((i : Int) + 1))), (0, .ref (ad 9)), (1, .ref (ad x)), (2, .int (iI y))]) d_D_raise_100 rfl (by omega) (by decide) rfl ?_
          refine J_goto (tgt := 29) d_D_raise_103 (by decide) ?_
          refine J_pick (lv' := [(0, .ref (ad 9)), (1, .ref (ad x)), (2, .int (iI y)), (3, .int (iI ((i : Int) + 1)))]) [1, 2, 3, 0] rfl ?_
          exact ih (i + 1) W10 (va_up (va_up K1 15 kx) 10 k16) (va_up (va_up S1 15 s) 10 s17) s17 u18 d19 (by omega) q12 (fun j hj => ⟨(((q13 j (by omega) (by omega) (by omega) (by omega) (by omega)).trans (show (va_up (va_up (va_up (va_up W1 16 u) 18 d) 11 (u * ux)) 13 (d * dx)) j = W1 j from by rw [va_up_ne _ _ (by omega), va_up_ne _ _ (by omega), va_up_ne _ _ (by omega), va_up_ne _ _ (by omega)]))).trans (hf1 j hj).1, ((show (va_up (va_up K1 15 kx) 10 k16) j = K1 j from by rw [va_up_ne _ _ (by omega), va_up_ne _ _ (by omega)])).trans (hf1 j hj).2.1, ((show (va_up (va_up S1 15 s) 10 s17) j = S1 j from by rw [va_up_ne _ _ (by omega), va_up_ne _ _ (by omega)])).trans (hf1 j hj).2.2⟩) (q14) (q15) (((q13 _ (by omega) (by omega) (by omega) (by omega) (by omega)).trans ((va_up_ne _ _ (by decide)).trans ((va_up_ne _ _ (by decide)).trans ((va_up_ne _ _ (by decide)).trans ((va_up_ne _ _ (by decide)).trans h21)))))) (((q13 _ (by omega) (by omega) (by omega) (by omega) (by omega)).trans ((va_up_ne _ _ (by decide)).trans ((va_up_ne _ _ (by decide)).trans ((va_up_ne _ _ (by decide)).trans ((va_up_ne _ _ (by decide)).trans h23)))))) ((va_up_self ..)) (((va_up_ne _ _ (by decide)).trans ((va_up_ne _ _ (by decide)).trans h20))) (((va_up_self ..)).trans (by omega)) (((va_up_ne _ _ (by omega)).trans ((va_up_ne _ _ (by omega)).trans hkx))) (by rw [powF_s hp, show kx = 2 by omega, q11, show k16 = 2 by omega]) ⟨o3, o4⟩ o2 (by rw [o6]; split; exact ⟨by omega, by omega⟩; exact sgn_rng hsr ⟨by omega, by omega⟩) (by have := sg_mul hsz hs0; rw [o5, o6]; split <;> omega) (fun e => by omega) (by omega)
  exact loop29 ((y.toNat - 0) + 1) 0 (va_up (va_up (va_up (va_up W 21 ux) 23 dx) 11 1) 13 1) (va_up (va_up K 20 kx) 10 kx) (va_up (va_up S 20 sx) 10 1) (1 : Int) 1 1 (by omega) hWs (fun j hj => ⟨(show (va_up (va_up (va_up (va_up W 21 ux) 23 dx) 11 1) 13 1) j = W j from by rw [va_up_ne _ _ (by omega), va_up_ne _ _ (by omega), va_up_ne _ _ (by omega), va_up_ne _ _ (by omega)]), (show (va_up (va_up K 20 kx) 10 kx) j = K j from by rw [va_up_ne _ _ (by omega), va_up_ne _ _ (by omega)]), (show (va_up (va_up S 20 sx) 10 1) j = S j from by rw [va_up_ne _ _ (by omega), va_up_ne _ _ (by omega)])⟩) (((va_up_ne _ _ (by decide)).trans (va_up_self ..))) ((va_up_self ..)) (((va_up_ne _ _ (by decide)).trans ((va_up_ne _ _ (by decide)).trans ((va_up_ne _ _ (by decide)).trans (va_up_self ..))))) (((va_up_ne _ _ (by decide)).trans ((va_up_ne _ _ (by decide)).trans (va_up_self ..)))) ((va_up_self ..)) (((va_up_ne _ _ (by decide)).trans (va_up_self ..))) ((va_up_self ..)) (((va_up_ne _ _ (by omega)).trans ((va_up_ne _ _ (by omega)).trans hxk))) rfl (by decide) (by decide) (by decide) (by decide) (fun _ => ⟨(Nat.pow_zero _).symm, (Nat.pow_zero _).symm⟩) (Nat.lt_succ_self _)
