/-! the class's desk: turns, and the six operations -/
theorem near_out {s s' : Int} {X Y u d : Nat} {k' : Int} (h : near s X Y = some (k', s', u, d)) (hY : 0 < Y) : k' = 2 ∧ 0 < d ∧ u < 2 ^ 154 ∧ d < 2 ^ 154 ∧ (u = 0 ↔ X = 0) ∧ s' = (if X = 0 then 0 else s) := by
  unfold near at h
  by_cases z : X = 0
  · rw [if_pos z] at h
    injection h with h; injection h with h1 h; injection h with h2 h; injection h with h3 h4
    subst h1 h2 h3 h4
    exact ⟨rfl, by decide, by decide, by decide, by simp [z], by rw [if_pos z]⟩
  · rw [if_neg z] at h
    have hX : 0 < X := by omega
    obtain ⟨q1, q2⟩ := nq_rng hY (ns_inR hX hY)
    generalize ns X Y = n at *
    generalize nq X Y n = q at *
    have b1 : blen q ≤ 54 := blen_le.mpr (by omega)
    have b2 : ¬ blen q ≤ 52 := fun z => by have := blen_le.mp z; omega
    split at h
    · rename_i hc
      injection h with h; injection h with h1 h; injection h with h2 h; injection h with h3 h4
      have p1 := sd_pos (show 0 < 1 by decide) (-n)
      have p2 := su_pos (show 0 < q by omega) (-n)
      obtain ⟨m1, m2⟩ := low_mul (U := su q (-n)) (D := sd 1 (-n))
      have g := Nat.gcd_pos_of_pos_right (su q (-n)) p1
      have e1 : lowu (su q (-n)) (sd 1 (-n)) ≤ su q (-n) := Nat.div_le_self _ _
      have e2 : lowd (su q (-n)) (sd 1 (-n)) ≤ sd 1 (-n) := Nat.div_le_self _ _
      have z2 := lowu_0 (U := su q (-n)) p1
      have e3 : su q (-n) < 2 ^ 154 := by
        unfold su
        have h5 : 2 ^ (-n).toNat ≤ 2 ^ 47 := Nat.pow_le_pow_right (by decide) (by omega)
        exact Nat.lt_of_le_of_lt (Nat.mul_le_mul q2 h5) (by decide)
      have e4 : sd 1 (-n) < 2 ^ 154 := by
        unfold sd
        rw [Nat.one_mul, Int.neg_neg]
        exact Nat.pow_lt_pow_right (by decide) (by omega)
      subst h1 h2 h3 h4
      refine ⟨rfl, lowd_pos p1, by omega, by omega, ?_, by rw [if_neg z]⟩
      omega
    · exact absurd h (by simp)
theorem meet_out {k kx s s' : Int} {X Y u d : Nat} {k' : Int} (h : meetN k kx s X Y = some (k', s', u, d)) (hY : 0 < Y) (hX4 : X < 2 ^ 154) (hY4 : Y < 2 ^ 154) (hs : -1 ≤ s ∧ s ≤ 1) : 0 < d ∧ u < 2 ^ 154 ∧ d < 2 ^ 154 ∧ (u = 0 ↔ X = 0) ∧ (-1 ≤ s' ∧ s' ≤ 1) ∧ (k ≠ 2 → s' = s ∧ u = X ∧ d = Y) := by
  unfold meetN at h
  split at h
  · obtain ⟨-, h2, h3, h4, h5, h6⟩ := near_out h hY
    refine ⟨h2, h3, h4, h5, ?_, fun q => by omega⟩
    rw [h6]; split <;> omega
  · injection h with h; injection h with h1 h; injection h with h2 h; injection h with h3 h4
    subst h2 h3 h4
    exact ⟨hY, hX4, hY4, Iff.rfl, hs, fun _ => ⟨rfl, rfl, rfl⟩⟩
theorem prod_lt {a b : Nat} (h : a < 2 ^ 154) (h2 : b < 2 ^ 154) : a * b < 2 ^ 308 := Nat.lt_of_lt_of_le (Nat.mul_lt_mul'' h h2) (by decide)
theorem sgn_rng {a b : Int} (h : -1 ≤ a ∧ a ≤ 1) (h2 : -1 ≤ b ∧ b ≤ 1) : -1 ≤ a * b ∧ a * b ≤ 1 := by
  obtain e | e | e : a = -1 ∨ a = 0 ∨ a = 1 := by omega
  all_goals rw [e]; omega
theorem addS_rng {a b : Int} {A B : Nat} (h : -1 ≤ a ∧ a ≤ 1) (h2 : -1 ≤ b ∧ b ≤ 1) : -1 ≤ addS a b A B ∧ addS a b A B ≤ 1 := by
  unfold addS; split <;> split <;> omega
theorem addM_le {a b : Int} {A B : Nat} : addM a b A B ≤ A + B := by
  unfold addM; split
  · omega
  · split <;> omega
theorem flq_le {s : Int} {A B : Nat} : flq s A B ≤ A + 1 := by
  have := Nat.div_le_self A B
  unfold flq; split <;> omega
theorem flr_le {s : Int} {A B : Nat} (h : 0 < B) : flr s A B ≤ B := by
  have := Nat.mod_lt A h
  unfold flr; split <;> omega
set_option maxRecDepth 100000 in
set_option maxHeartbeats 4000000 in
theorem c_D_turnTo {l : Launch} (hfl : l.flags = flags0) {D : va_G} {g : Nat → ClassId} {ad : Nat → Nat} {N : Nat} {F0 : Nat → va_E} {W : Nat → Nat} {K S : Nat → Int} {x ux dx : Nat} {kx sx : Int} {what : Int}
    (hN : 109 ≤ N) (hW : bW W) (hDk : F0 9 = oD ad) (hxp : isU x) (hx2 : x = 2 ∨ 58 ≤ x) (hx1 : W (x + 1) = ux) (hx3 : W (x + 3) = dx) (hxk : K x = kx) (hxs : S x = sx) (hxr : -1 ≤ sx ∧ sx ≤ 1 ∧ -1 ≤ kx ∧ kx ≤ 2) (hxb : ux < 2 ^ 154 ∧ dx < 2 ^ 154) (hwh : 0 ≤ what ∧ what ≤ 4) (hdx : 0 < dx) (hk0 : 0 ≤ kx) (hcop : Nat.Coprime ux dx) (hs0 : sx = 0 ↔ ux = 0) :
    JC l y_D_turnTo b_D_turnTo 3 (Option.none : Option Jvm.ClassFile.FieldType) rm_D_turnTo (0, 0) D jCl (jTys g) ad N (cF ad g F0 W K S) [.ref (ad 9), .int (iI what), .ref (ad x)] (QD ad N g F0 W K S (turnF what kx sx ux dx)) := by
  have hx4 := (isU_1 hxp).1
  refine JC.go hfl (own := "NumberTower$Desk") (lv := [(0, .ref (ad 9)), (1, .int (iI what)), (2, .ref (ad x))]) rfl (by decide +kernel) (Nat.le_of_ble_eq_true rfl) rfl (fun A => ?_)
  refine J_aload_n 0 d_D_turnTo_0 rfl rfl ?_
  refine gf_D_12 (by omega) ((cF_0 (by decide)).trans hDk) rfl d_D_turnTo_1 ?_
  refine J_aload_n 2 d_D_turnTo_4 rfl rfl ?_
  refine J_callVv cw_D_62 nh_U_become pn_U_become rfl rfl (by omega) (cF_U (by decide) rfl rfl) (As := [.ref (ad x)]) (rest := []) rfl (Nat.le_of_ble_eq_true rfl) ⟨by decide, by decide⟩ rfl ⟨by decide, by decide⟩ d_D_turnTo_5 (u_become hfl (F0 := F0) (W := W) (K := K) (S := S) (k := 10) (p := x) (by omega) hW (by decide) hxp (by omega)) (fun  F1 hq => ?_)
  obtain ⟨hWb, eFb⟩ := hq
  rw [show (W) (x + 1) = ux from hx1, show (W) (x + 3) = dx from hx3] at hWb eFb
  rw [show (K) x = kx from hxk, show (S) x = sx from hxs] at eFb
  have hW2 := hWb
  have eB3 := eFb
  refine J_eqF (F2 := cF ad g F0 (va_up (va_up W 11 ux) 13 dx) (va_up K 10 kx) (va_up S 10 sx)) eB3 ?_
  refine J_iload_n 1 d_D_turnTo_8 rfl rfl ?_
  by_cases sw9_0 : what = 0
  · refine J_tableIn (off := 31) (tgt := 40) d_D_turnTo_9 ⟨by omega, by omega⟩ (by omega) (by omega) (by rw [show (what - 0).toNat = 0 by omega]; rfl) (by decide) ?_
    refine J_aload_n 0 d_D_turnTo_40 rfl rfl ?_
    refine gf_D_12 (by omega) ((cF_0 (by decide)).trans hDk) rfl d_D_turnTo_41 ?_
    refine gf_D_76 (by omega) (cF_U (by decide) (va_up_self ..) (va_up_self ..)) rfl d_D_turnTo_44 ?_
    refine J_aload_n 0 d_D_turnTo_47 rfl rfl ?_
    refine gf_D_12 (by omega) ((cF_0 (by decide)).trans hDk) rfl d_D_turnTo_48 ?_
    refine gf_D_79 (by omega) (cF_U (by decide) (va_up_self ..) (va_up_self ..)) rfl d_D_turnTo_51 ?_
    refine J_aload_n 0 d_D_turnTo_54 rfl rfl ?_
    refine gf_D_27 (by omega) ((cF_0 (by decide)).trans hDk) rfl d_D_turnTo_55 ?_
    refine J_callVv cw_D_117 nh_N_divide pn_N_divide rfl rfl (by omega) (cF_N (by decide) ((va_up_ne _ _ (by decide)).trans (va_up_self ..))) (As := [.ref (ad 13), .ref (ad 25)]) (rest := []) rfl (Nat.le_of_ble_eq_true rfl) ⟨by decide, by decide⟩ rfl ⟨by decide, by decide⟩ d_D_turnTo_58 (n_divide hfl (F0 := F0) (W := va_up (va_up W 11 ux) 13 dx) (K := va_up K 10 kx) (S := va_up S 10 sx) (k := 11) (m := 13) (p := 25) (hN := by omega) (hW := hW2) (hk := (by decide)) (hm := (by decide)) (hp := (by decide)) (x := ux) (hx := ((va_up_ne _ _ (by decide)).trans (va_up_self ..))) (y := dx) (hy := (va_up_self ..)) (hd := (by decide)) (hd1 := (by decide)) (hd2 := (by decide)) (hx4 := Nat.lt_trans hxb.1 (by decide)) (hy4 := Nat.lt_trans hxb.2 (by decide))) (fun  F7 hq => ?_)
    obtain ⟨hW5, eF6⟩ := hq
    have hW8 := (congrArg bW (up_in2 (by decide) (by decide))).mp hW5
    refine J_eqF (F2 := cF ad g F0 (va_up (va_up (va_up W 11 (ux % dx)) 13 dx) 25 (ux / dx)) (va_up K 10 kx) (va_up S 10 sx)) (eF6.trans (congrArg (fun qq => cF ad g F0 qq (va_up K 10 kx) (va_up S 10 sx)) (up_in2 (by decide) (by decide)))) ?_
    refine J_aload_n 0 d_D_turnTo_61 rfl rfl ?_
    refine gf_D_12 (by omega) ((cF_0 (by decide)).trans hDk) rfl d_D_turnTo_62 ?_
    refine gf_D_76 (by omega) (cF_U (by decide) (va_up_self ..) (va_up_self ..)) rfl d_D_turnTo_65 ?_
    refine J_aload_n 0 d_D_turnTo_68 rfl rfl ?_
    refine gf_D_27 (by omega) ((cF_0 (by decide)).trans hDk) rfl d_D_turnTo_69 ?_
    refine J_callVv cw_D_89 nh_N_copyFrom pn_N_copyFrom rfl rfl (by omega) (cF_N (by decide) ((va_up_ne _ _ (by decide)).trans ((va_up_ne _ _ (by decide)).trans (va_up_self ..)))) (As := [.ref (ad 25)]) (rest := []) rfl (Nat.le_of_ble_eq_true rfl) ⟨by decide, by decide⟩ rfl ⟨by decide, by decide⟩ d_D_turnTo_72 (n_copyFrom hfl (F0 := F0) (W := va_up (va_up (va_up W 11 (ux % dx)) 13 dx) 25 (ux / dx)) (K := va_up K 10 kx) (S := va_up S 10 sx) (k := 11) (m := 25) (hN := by omega) (hW := hW8) (hk := (by decide)) (hm := (by decide)) (x := ux / dx) (hx := (va_up_self ..)) (hd := (by decide))) (fun  F12 hq => ?_)
    obtain ⟨hW10, eF11⟩ := hq
    have hW13 := (congrArg bW (up_in2 (by decide) (by decide))).mp hW10
    refine J_eqF (F2 := cF ad g F0 (va_up (va_up (va_up W 11 (ux / dx)) 13 dx) 25 (ux / dx)) (va_up K 10 kx) (va_up S 10 sx)) (eF11.trans (congrArg (fun qq => cF ad g F0 qq (va_up K 10 kx) (va_up S 10 sx)) (up_in2 (by decide) (by decide)))) ?_
    refine J_aload_n 0 d_D_turnTo_75 rfl rfl ?_
    refine gf_D_12 (by omega) ((cF_0 (by decide)).trans hDk) rfl d_D_turnTo_76 ?_
    refine gf_D_79 (by omega) (cF_U (by decide) (va_up_self ..) (va_up_self ..)) rfl d_D_turnTo_79 ?_
    refine J_lconst (v := 1) d_D_turnTo_82 rfl ?_
    refine J_callVv cw_D_93 nh_N_set pn_N_set rfl rfl (by omega) (cF_N (by decide) ((va_up_ne _ _ (by decide)).trans (va_up_self ..))) (As := [.long (lI 1)]) (rest := []) rfl (Nat.le_of_ble_eq_true rfl) ⟨by decide, by decide⟩ rfl ⟨by decide, by decide⟩ d_D_turnTo_83 (n_set hfl (F0 := F0) (W := va_up (va_up (va_up W 11 (ux / dx)) 13 dx) 25 (ux / dx)) (K := va_up K 10 kx) (S := va_up S 10 sx) (k := 13) (n := 1) (hN := by omega) (hW := hW13) (hk := (by decide)) (hn := by decide)) (fun  F17 hq => ?_)
    obtain ⟨hW15, eF16⟩ := hq
    have hW18 := (congrArg bW (up_in1 (by decide))).mp hW15
    refine J_eqF (F2 := cF ad g F0 (va_up (va_up (va_up W 11 (ux / dx)) 13 1) 25 (ux / dx)) (va_up K 10 kx) (va_up S 10 sx)) (eF16.trans (congrArg (fun qq => cF ad g F0 qq (va_up K 10 kx) (va_up S 10 sx)) (up_in1 (by decide)))) ?_
    refine J_aload_n 0 d_D_turnTo_86 rfl rfl ?_
    refine J_iconst d_D_turnTo_87 ?_
    have hqd := Nat.div_le_self ux dx
    have hr0 : turnF what kx sx ux dx = fin 0 sx (ux / dx) 1 := by unfold turnF; rw [if_pos sw9_0]
    refine J_callVvx cw_D_101 nh_D_settle pn_D_settle rfl rfl (by omega) ((cF_0 (by decide)).trans hDk) (As := [.int (iI 0)]) (rest := []) rfl (Nat.le_of_ble_eq_true rfl) ⟨by decide, by decide⟩ rfl ⟨by decide, by decide⟩ d_D_turnTo_88 (d_settle hfl (F0 := F0) (W1 := va_up (va_up (va_up W 11 (ux / dx)) 13 1) 25 (ux / dx)) (K1 := va_up K 10 kx) (S1 := va_up S 10 sx) (W := W) (K := K) (S := S) (X := ux / dx) (Y := 1) (kd := 0) (s := sx) hN hW18 hDk (((va_up_ne _ _ (by decide)).trans ((va_up_ne _ _ (by decide)).trans (va_up_self ..)))) (((va_up_ne _ _ (by decide)).trans (va_up_self ..))) ((va_up_self ..)) (by decide) (Nat.lt_of_le_of_lt hqd (Nat.lt_trans hxb.1 (by decide))) (by decide) ⟨by omega, by omega⟩ (by decide) (fun _ => rfl) (fun j hj => ⟨(show (va_up (va_up (va_up W 11 (ux / dx)) 13 1) 25 (ux / dx)) j = W j from by rw [va_up_ne _ _ (by omega), va_up_ne _ _ (by omega), va_up_ne _ _ (by omega)]), (show (va_up K 10 kx) j = K j from by rw [va_up_ne _ _ (by omega)]), (show (va_up S 10 sx) j = S j from by rw [va_up_ne _ _ (by omega)])⟩)) (fun  F19 hq => ?_) (fun k9 F9 hq => by (rw [← hr0] at hq; exact Or.inr ⟨_, rfl, rfl, rfl, hq⟩))
    obtain hq := hq
    rw [← hr0] at hq
    refine J_goto (tgt := 158) d_D_turnTo_91 (by decide) ?_
    refine J_vret rfl d_D_turnTo_158 ⟨by decide, by decide⟩ ?_
    exact Or.inl ⟨rfl, rfl, rfl, hq⟩
  by_cases sw9_1 : what = 1
  · refine J_tableIn (off := 85) (tgt := 94) d_D_turnTo_9 ⟨by omega, by omega⟩ (by omega) (by omega) (by rw [show (what - 0).toNat = 1 by omega]; rfl) (by decide) ?_
    refine J_aload_n 0 d_D_turnTo_94 rfl rfl ?_
    refine gf_D_12 (by omega) ((cF_0 (by decide)).trans hDk) rfl d_D_turnTo_95 ?_
    refine J_iconst d_D_turnTo_98 ?_
    refine pf_D_52 (by omega) (cF_U (by decide) (va_up_self ..) (va_up_self ..)) (Nat.le_of_ble_eq_true rfl) d_D_turnTo_99 ?_
    refine J_eqF (F2 := cF ad g F0 (va_up (va_up W 11 ux) 13 dx) (va_up K 10 1) (va_up S 10 sx)) (((cF_upU (by decide)).trans (congrArg (fun qq => cF ad g F0 (va_up (va_up W 11 ux) 13 dx) qq (va_up (va_up S 10 sx) 10 sx)) (up_in0))).trans (congrArg (fun qq => cF ad g F0 (va_up (va_up W 11 ux) 13 dx) (va_up K 10 1) qq) (up_same1 (va_up_self ..)).symm)) ?_
    refine J_aload_n 0 d_D_turnTo_102 rfl rfl ?_
    refine gf_D_12 (by omega) ((cF_0 (by decide)).trans hDk) rfl d_D_turnTo_103 ?_
    have hc1 := low_same hcop
    have hr1 : turnF what kx sx ux dx = fin 1 sx ux dx := by unfold turnF; rw [if_neg (by omega), if_pos sw9_1]
    refine J_callSvx cw_D_130 nh_D_refuseBeyond pn_D_refuseBeyond rfl (As := [.ref (ad 10)]) (rest := []) rfl (Nat.le_of_ble_eq_true rfl) ⟨by decide, by decide⟩ rfl ⟨by decide, by decide⟩ d_D_turnTo_106 (c_D_refuseBeyond hfl (F0 := F0) (W := va_up (va_up W 11 ux) 13 dx) (K := va_up K 10 1) (S := va_up S 10 sx) (p := 10) hN hW2 (by decide)) (fun  F20 hq => ?_) (fun k9 F9 hq => by (obtain ⟨q1, q2, q3⟩ := hq; rw [show (va_up (va_up W 11 ux) 13 dx) 11 = ux from ((va_up_ne _ _ (by decide)).trans (va_up_self ..)), show (va_up (va_up W 11 ux) 13 dx) 13 = dx from (va_up_self ..)] at q2; exact Or.inr ⟨_, rfl, rfl, rfl, q1, (by rw [hr1]; unfold fin; rw [if_neg (by decide), hc1.1, hc1.2, if_neg q2]), (by rw [q3]; exact scr_0 hW2 (fun j hj => ⟨(show (va_up (va_up W 11 ux) 13 dx) j = W j from by rw [va_up_ne _ _ (by omega), va_up_ne _ _ (by omega)]), (show (va_up K 10 1) j = K j from by rw [va_up_ne _ _ (by omega)]), (show (va_up S 10 sx) j = S j from by rw [va_up_ne _ _ (by omega)])⟩))⟩))
    obtain ⟨hrb, eFr⟩ := hq
    refine J_eqF eFr ?_
    rw [show (va_up (va_up W 11 ux) 13 dx) 11 = ux from ((va_up_ne _ _ (by decide)).trans (va_up_self ..)), show (va_up (va_up W 11 ux) 13 dx) 13 = dx from (va_up_self ..)] at hrb
    refine J_goto (tgt := 158) d_D_turnTo_109 (by decide) ?_
    refine J_vret rfl d_D_turnTo_158 ⟨by decide, by decide⟩ ?_
    exact Or.inl ⟨rfl, rfl, rfl, _, _, _, _, _, _, _, (by rw [hr1]; unfold fin; rw [if_neg (by decide), hc1.1, hc1.2, if_pos hrb]; rw [show (if ux = 0 then (0 : Int) else sx) = sx by split <;> omega]), hW2, (fun j hj => ⟨(show (va_up (va_up W 11 ux) 13 dx) j = W j from by rw [va_up_ne _ _ (by omega), va_up_ne _ _ (by omega)]), (show (va_up K 10 1) j = K j from by rw [va_up_ne _ _ (by omega)]), (show (va_up S 10 sx) j = S j from by rw [va_up_ne _ _ (by omega)])⟩), (va_up_self ..), (va_up_self ..), ((va_up_ne _ _ (by decide)).trans (va_up_self ..)), (va_up_self ..), rfl⟩
  by_cases sw9_2 : what = 2
  · refine J_tableIn (off := 103) (tgt := 112) d_D_turnTo_9 ⟨by omega, by omega⟩ (by omega) (by omega) (by rw [show (what - 0).toNat = 2 by omega]; rfl) (by decide) ?_
    refine J_aload_n 0 d_D_turnTo_112 rfl rfl ?_
    refine J_aload_n 0 d_D_turnTo_113 rfl rfl ?_
    refine gf_D_12 (by omega) ((cF_0 (by decide)).trans hDk) rfl d_D_turnTo_114 ?_
    have hr2 : turnF what kx sx ux dx = near sx ux dx := by unfold turnF; rw [if_neg (by omega), if_neg (by omega), if_pos sw9_2]
    refine J_callVvx cw_D_177 nh_D_makeNearest pn_D_makeNearest rfl rfl (by omega) ((cF_0 (by decide)).trans hDk) (As := [.ref (ad 10)]) (rest := []) rfl (Nat.le_of_ble_eq_true rfl) ⟨by decide, by decide⟩ rfl ⟨by decide, by decide⟩ d_D_turnTo_117 (d_near hfl (F0 := F0) (W1 := va_up (va_up W 11 ux) 13 dx) (K1 := va_up K 10 kx) (S1 := va_up S 10 sx) (W := W) (K := K) (S := S) (X := ux) (Y := dx) (s := sx) hN hW2 hDk (((va_up_ne _ _ (by decide)).trans (va_up_self ..))) ((va_up_self ..)) ((va_up_self ..)) hdx (Nat.lt_trans hxb.1 (by decide)) (Nat.lt_trans hxb.2 (by decide)) ⟨by omega, by omega⟩ (fun j hj => ⟨(show (va_up (va_up W 11 ux) 13 dx) j = W j from by rw [va_up_ne _ _ (by omega), va_up_ne _ _ (by omega)]), (show (va_up K 10 kx) j = K j from by rw [va_up_ne _ _ (by omega)]), (show (va_up S 10 sx) j = S j from by rw [va_up_ne _ _ (by omega)])⟩)) (fun  F21 hq => ?_) (fun k9 F9 hq => by (rw [← hr2] at hq; exact Or.inr ⟨_, rfl, rfl, rfl, hq⟩))
    obtain hq := hq
    rw [← hr2] at hq
    refine J_goto (tgt := 158) d_D_turnTo_120 (by decide) ?_
    refine J_vret rfl d_D_turnTo_158 ⟨by decide, by decide⟩ ?_
    exact Or.inl ⟨rfl, rfl, rfl, hq⟩
  by_cases sw9_3 : what = 3
  · refine J_tableIn (off := 114) (tgt := 123) d_D_turnTo_9 ⟨by omega, by omega⟩ (by omega) (by omega) (by rw [show (what - 0).toNat = 3 by omega]; rfl) (by decide) ?_
    refine J_aload_n 0 d_D_turnTo_123 rfl rfl ?_
    refine gf_D_12 (by omega) ((cF_0 (by decide)).trans hDk) rfl d_D_turnTo_124 ?_
    refine J_aload_n 0 d_D_turnTo_127 rfl rfl ?_
    refine gf_D_12 (by omega) ((cF_0 (by decide)).trans hDk) rfl d_D_turnTo_128 ?_
    refine gf_D_69 (by omega) (cF_U (by decide) (va_up_self ..) (va_up_self ..)) rfl d_D_turnTo_131 ?_
    refine J_ineg d_D_turnTo_134 ?_
    refine pf_D_69 (by omega) (cF_U (by decide) (va_up_self ..) (va_up_self ..)) (Nat.le_of_ble_eq_true rfl) d_D_turnTo_135 ?_
    refine J_eqF (F2 := cF ad g F0 (va_up (va_up W 11 ux) 13 dx) (va_up K 10 kx) (va_up S 10 (-sx))) (((cF_upU (by decide)).trans (congrArg (fun qq => cF ad g F0 (va_up (va_up W 11 ux) 13 dx) qq (va_up (va_up S 10 sx) 10 (-sx))) (up_same1 (va_up_self ..)).symm)).trans (congrArg (fun qq => cF ad g F0 (va_up (va_up W 11 ux) 13 dx) (va_up K 10 kx) qq) (up_in0))) ?_
    refine J_goto (tgt := 158) d_D_turnTo_138 (by decide) ?_
    refine J_vret rfl d_D_turnTo_158 ⟨by decide, by decide⟩ ?_
    exact Or.inl ⟨rfl, rfl, rfl, _, _, _, _, _, _, _, (by unfold turnF; rw [if_neg (by omega), if_neg (by omega), if_neg (by omega), if_pos (by omega)]), hW2, (fun j hj => ⟨(show (va_up (va_up W 11 ux) 13 dx) j = W j from by rw [va_up_ne _ _ (by omega), va_up_ne _ _ (by omega)]), (show (va_up K 10 kx) j = K j from by rw [va_up_ne _ _ (by omega)]), (show (va_up S 10 (-sx)) j = S j from by rw [va_up_ne _ _ (by omega)])⟩), (va_up_self ..), (va_up_self ..), ((va_up_ne _ _ (by decide)).trans (va_up_self ..)), (va_up_self ..), rfl⟩
  refine J_tableOut (tgt := 141) d_D_turnTo_9 ⟨by omega, by omega⟩ (by omega) (by decide) ?_
  refine J_aload_n 0 d_D_turnTo_141 rfl rfl ?_
  refine gf_D_12 (by omega) ((cF_0 (by decide)).trans hDk) rfl d_D_turnTo_142 ?_
  refine J_aload_n 0 d_D_turnTo_145 rfl rfl ?_
  refine gf_D_12 (by omega) ((cF_0 (by decide)).trans hDk) rfl d_D_turnTo_146 ?_
  refine gf_D_69 (by omega) (cF_U (by decide) (va_up_self ..) (va_up_self ..)) rfl d_D_turnTo_149 ?_
  refine J_callSi cw_D_164 nh_JMath_abs pn_JMath_abs rfl (As := [.int (iI sx)]) (rest := [.ref (ad 10)]) rfl (Nat.le_of_ble_eq_true rfl) ⟨by decide, by decide⟩ rfl ⟨by decide, by decide⟩ d_D_turnTo_152 (c_JMath_abs hfl ⟨by omega, by omega⟩) (fun ab F1 hq => ?_)
  obtain ⟨habs, eF1⟩ := hq
  refine J_eqF eF1 ?_
  refine J_topi (r := (sx.natAbs : Int)) (congrArg iI (by omega)) ?_
  refine pf_D_69 (by omega) (cF_U (by decide) (va_up_self ..) (va_up_self ..)) (Nat.le_of_ble_eq_true rfl) d_D_turnTo_155 ?_
  refine J_eqF (F2 := cF ad g F0 (va_up (va_up W 11 ux) 13 dx) (va_up K 10 kx) (va_up S 10 (sx.natAbs : Int))) (((cF_upU (by decide)).trans (congrArg (fun qq => cF ad g F0 (va_up (va_up W 11 ux) 13 dx) qq (va_up (va_up S 10 sx) 10 (sx.natAbs : Int))) (up_same1 (va_up_self ..)).symm)).trans (congrArg (fun qq => cF ad g F0 (va_up (va_up W 11 ux) 13 dx) (va_up K 10 kx) qq) (up_in0))) ?_
  refine J_vret rfl d_D_turnTo_158 ⟨by decide, by decide⟩ ?_
  exact Or.inl ⟨rfl, rfl, rfl, _, _, _, _, _, _, _, (by unfold turnF; rw [if_neg (by omega), if_neg (by omega), if_neg (by omega), if_neg (by omega)]), hW2, (fun j hj => ⟨(show (va_up (va_up W 11 ux) 13 dx) j = W j from by rw [va_up_ne _ _ (by omega), va_up_ne _ _ (by omega)]), (show (va_up K 10 kx) j = K j from by rw [va_up_ne _ _ (by omega)]), (show (va_up S 10 (sx.natAbs : Int)) j = S j from by rw [va_up_ne _ _ (by omega)])⟩), (va_up_self ..), (va_up_self ..), ((va_up_ne _ _ (by decide)).trans (va_up_self ..)), (va_up_self ..), rfl⟩
theorem meet_2 {k kx s : Int} {u d : Nat} {r : Option (Int × Int × Nat × Nat)} (hk : k = 2) (h : (if kx = 2 then some (2, s, u, d) else near s u d) = r) : meetN k kx s u d = r := by
  unfold meetN
  by_cases e : kx = 2
  · rw [if_neg (fun q => q.2 e), ← h, if_pos e]
  · rw [if_pos ⟨hk, e⟩, ← h, if_neg e]
theorem meet_1 {k kx s : Int} {u d : Nat} (hk : k ≠ 2) : meetN k kx s u d = some (2, s, u, d) := by
  unfold meetN; rw [if_neg (fun q => hk q.1)]
set_option maxRecDepth 100000 in
set_option maxHeartbeats 4000000 in
theorem c_D_reckon {l : Launch} (hfl : l.flags = flags0) {D : va_G} {g : Nat → ClassId} {ad : Nat → Nat} {N : Nat} {F0 : Nat → va_E} {W : Nat → Nat} {K S : Nat → Int} {x ux dx y uy dy : Nat} {kx sx ky sy : Int} {op : Int}
    (hN : 109 ≤ N) (hW : bW W) (hDk : F0 9 = oD ad) (hxp : isU x) (hx2 : x = 2 ∨ 58 ≤ x) (hx1 : W (x + 1) = ux) (hx3 : W (x + 3) = dx) (hxk : K x = kx) (hxs : S x = sx) (hxr : -1 ≤ sx ∧ sx ≤ 1 ∧ -1 ≤ kx ∧ kx ≤ 2) (hxb : ux < 2 ^ 154 ∧ dx < 2 ^ 154) (hyp : isU y) (hy2 : y = 2 ∨ 58 ≤ y) (hy1 : W (y + 1) = uy) (hy3 : W (y + 3) = dy) (hyk : K y = ky) (hys : S y = sy) (hyr : -1 ≤ sy ∧ sy ≤ 1 ∧ -1 ≤ ky ∧ ky ≤ 2) (hyb : uy < 2 ^ 154 ∧ dy < 2 ^ 154) (hop5 : 0 ≤ op ∧ op ≤ 5) (hkx : 0 ≤ kx) (hky : 0 ≤ ky) (hdx : 0 < dx) (hdy : 0 < dy) (hx0 : kx = 0 → dx = 1) (hy0 : ky = 0 → dy = 1) (hdiv : 3 ≤ op → uy ≠ 0) :
    JC l y_D_reckon b_D_reckon 5 (Option.none : Option Jvm.ClassFile.FieldType) rm_D_reckon (0, 0) D jCl (jTys g) ad N (cF ad g F0 W K S) [.ref (ad 9), .int (iI op), .ref (ad x), .ref (ad y)] (QD ad N g F0 W K S (reckF op kx sx ux dx ky sy uy dy)) := by
  have hx4 := (isU_1 hxp).1
  have hy4 := (isU_1 hyp).1
  obtain ⟨kd0, hkd⟩ : ∃ k : Int, max kx ky = k := ⟨_, rfl⟩
  refine JC.go hfl (own := "NumberTower$Desk") (lv := [(0, .ref (ad 9)), (1, .int (iI op)), (2, .ref (ad x)), (3, .ref (ad y))]) rfl (by decide +kernel) (Nat.le_of_ble_eq_true rfl) rfl (fun A => ?_)
  refine J_aload_n 2 d_D_reckon_0 rfl rfl ?_
  refine gf_D_52 (by omega) (cF_U hxp hxk hxs) rfl d_D_reckon_1 ?_
  refine J_aload_n 3 d_D_reckon_4 rfl rfl ?_
  refine gf_D_52 (by omega) (cF_U hyp hyk hys) rfl d_D_reckon_5 ?_
  refine J_callSi cw_D_56 nh_JMath_max pn_JMath_max rfl (As := [.int (iI kx), .int (iI ky)]) (rest := []) rfl (Nat.le_of_ble_eq_true rfl) ⟨by decide, by decide⟩ rfl ⟨by decide, by decide⟩ d_D_reckon_8 (c_JMath_max hfl ⟨by omega, by omega⟩ ⟨by omega, by omega⟩) (fun mx F1 hq => ?_)
  obtain ⟨hmax, eF1⟩ := hq
  refine J_eqF eF1 ?_
  refine J_topi (r := kd0) (congrArg iI (by omega)) ?_
  refine J_istore (lv' := [(4, .int (iI kd0)), (0, .ref (ad 9)), (1, .int (iI op)), (2, .ref (ad x)), (3, .ref (ad y))]) d_D_reckon_11 (by decide) rfl ?_
  refine J_aload_n 1 d_D_reckon_13 rfl rfl ?_
  refine gf_D_18 (by omega) ((cF_0 (by decide)).trans hDk) rfl d_D_reckon_14 ?_
  refine J_aload_n 3 d_D_reckon_17 rfl rfl ?_
  refine J_callVv cw_D_62 nh_U_become pn_U_become rfl rfl (by omega) (cF_U (by decide) rfl rfl) (As := [.ref (ad x)]) (rest := []) rfl (Nat.le_of_ble_eq_true rfl) ⟨by decide, by decide⟩ rfl ⟨by decide, by decide⟩ d_D_reckon_18 (u_become hfl (F0 := F0) (W := W) (K := K) (S := S) (k := 15) (p := x) (by omega) hW (by decide) hxp (by omega)) (fun  F22 hq => ?_)
  obtain ⟨hWb, eFb⟩ := hq
  rw [show (W) (x + 1) = ux from hx1, show (W) (x + 3) = dx from hx3] at hWb eFb
  rw [show (K) x = kx from hxk, show (S) x = sx from hxs] at eFb
  have hW23 := hWb
  have eB24 := eFb
  refine J_eqF (F2 := cF ad g F0 (va_up (va_up W 16 ux) 18 dx) (va_up K 15 kx) (va_up S 15 sx)) eB24 ?_
  refine J_aload_n 1 d_D_reckon_21 rfl rfl ?_
  refine gf_D_21 (by omega) ((cF_0 (by decide)).trans hDk) rfl d_D_reckon_22 ?_
  refine J_aload_n 4 d_D_reckon_25 rfl rfl ?_
  refine J_callVv cw_D_62 nh_U_become pn_U_become rfl rfl (by omega) (cF_U (by decide) (va_up_ne _ _ (by decide)) (va_up_ne _ _ (by decide))) (As := [.ref (ad y)]) (rest := []) rfl (Nat.le_of_ble_eq_true rfl) ⟨by decide, by decide⟩ rfl ⟨by decide, by decide⟩ d_D_reckon_26 (u_become hfl (F0 := F0) (W := va_up (va_up W 16 ux) 18 dx) (K := va_up K 15 kx) (S := va_up S 15 sx) (k := 20) (p := y) (by omega) hW23 (by decide) hyp (by omega)) (fun  F25 hq => ?_)
  obtain ⟨hWb, eFb⟩ := hq
  rw [show (va_up (va_up W 16 ux) 18 dx) (y + 1) = uy from ((va_up_ne _ _ (by omega)).trans ((va_up_ne _ _ (by omega)).trans hy1)), show (va_up (va_up W 16 ux) 18 dx) (y + 3) = dy from ((va_up_ne _ _ (by omega)).trans ((va_up_ne _ _ (by omega)).trans hy3))] at hWb eFb
  rw [show (va_up K 15 kx) y = ky from ((va_up_ne _ _ (by omega)).trans hyk), show (va_up S 15 sx) y = sy from ((va_up_ne _ _ (by omega)).trans hys)] at eFb
  have hW26 := hWb
  have eB27 := eFb
  refine J_eqF (F2 := cF ad g F0 (va_up (va_up (va_up (va_up W 16 ux) 18 dx) 21 uy) 23 dy) (va_up (va_up K 15 kx) 20 ky) (va_up (va_up S 15 sx) 20 sy)) eB27 ?_
  have lab51 : ∀ (W1 : Nat → Nat) (K1 : Nat → Int) (S1 : Nat → Int) (sl : Int) (ul : Nat) (dl : Nat) (sr : Int) (ur : Nat) (dr : Nat) (hW1 : bW W1) (hf1 : ∀ j, (j < 10 ∨ 40 < j) → W1 j = W j ∧ K1 j = K j ∧ S1 j = S j) (h16 : W1 16 = ul) (h18 : W1 18 = dl) (h21 : W1 21 = ur) (h23 : W1 23 = dr) (h15 : S1 15 = sl) (h20 : S1 20 = sr) (hL : meetN kd0 kx sx ux dx = some (2, sl, ul, dl)) (hR : meetN kd0 ky sy uy dy = some (2, sr, ur, dr)) , J l rm_D_reckon (0, 0) "NumberTower$Desk" b_D_reckon 5 (Option.none : Option Jvm.ClassFile.FieldType) D jCl (jTys g) A (fun _ me => me.name = y_D_reckon.name) (QD ad N g F0 W K S (reckF op kx sx ux dx ky sy uy dy)) ad N 0 0 51 [(0, .ref (ad 9)), (1, .int (iI op)), (4, .int (iI kd0))] [] (cF ad g F0 W1 K1 S1) := by
    intro W1 K1 S1 sl ul dl sr ur dr hW1 hf1 h16 h18 h21 h23 h15 h20 hL hR
    obtain ⟨hdl, hbl1, hbl2, hzl, hsl, hkl⟩ := meet_out hL hdx hxb.1 hxb.2 ⟨by omega, by omega⟩
    obtain ⟨hdr, hbr1, hbr2, hzr, hsr, hkr⟩ := meet_out hR hdy hyb.1 hyb.2 ⟨by omega, by omega⟩
    have hbl : ul < 2 ^ 154 ∧ dl < 2 ^ 154 := ⟨hbl1, hbl2⟩
    have hbr : ur < 2 ^ 154 ∧ dr < 2 ^ 154 := ⟨hbr1, hbr2⟩
    have hk1 : kd0 = 0 → dl = 1 ∧ dr = 1 := fun e => ⟨by rw [(hkl (by omega)).2.2]; exact hx0 (by omega), by rw [(hkr (by omega)).2.2]; exact hy0 (by omega)⟩
    obtain ⟨rs0, hrs0⟩ : ∃ r : Int, r = if op = 0 then sr else -sr := ⟨_, rfl⟩
    have hrs : -1 ≤ rs0 ∧ rs0 ≤ 1 := by rw [hrs0]; split <;> omega
    refine J_iload_n 1 d_D_reckon_51 rfl rfl ?_
    have lab289 : ∀ (W2 : Nat → Nat) (K2 : Nat → Int) (S2 : Nat → Int) (X : Nat) (Y : Nat) (s2 : Int) (kd2 : Int) (hW2 : bW W2) (hf2 : ∀ j, (j < 10 ∨ 40 < j) → W2 j = W j ∧ K2 j = K j ∧ S2 j = S j) (h11 : W2 11 = X) (h13 : W2 13 = Y) (h10 : S2 10 = s2) (hop : opF op kd0 sl ul dl sr ur dr = fin kd2 s2 X Y) (hXb : X < 2 ^ 310) (hYb : Y < 2 ^ 310) (hY0 : 0 < Y) (hs2r : -1 ≤ s2 ∧ s2 ≤ 1) (hkd2 : 0 ≤ kd2 ∧ kd2 ≤ 2) (hk20 : kd2 = 0 → Y = 1) , J l rm_D_reckon (0, 0) "NumberTower$Desk" b_D_reckon 5 (Option.none : Option Jvm.ClassFile.FieldType) D jCl (jTys g) A (fun _ me => me.name = y_D_reckon.name) (QD ad N g F0 W K S (reckF op kx sx ux dx ky sy uy dy)) ad N 0 0 289 [(0, .ref (ad 9)), (4, .int (iI kd2))] [] (cF ad g F0 W2 K2 S2) := by
      intro W2 K2 S2 X Y s2 kd2 hW2 hf2 h11 h13 h10 hop hXb hYb hY0 hs2r hkd2 hk20
      refine J_aload_n 0 d_D_reckon_289 rfl rfl ?_
      refine J_iload 1 d_D_reckon_290 rfl ?_
      have hr : reckF op kx sx ux dx ky sy uy dy = fin kd2 s2 X Y := by unfold reckF; rw [hkd, hL, Option.bind_some, hR, Option.bind_some]; exact hop
      refine J_callVvx cw_D_101 nh_D_settle pn_D_settle rfl rfl (by omega) ((cF_0 (by decide)).trans hDk) (As := [.int (iI kd2)]) (rest := []) rfl (Nat.le_of_ble_eq_true rfl) ⟨by decide, by decide⟩ rfl ⟨by decide, by decide⟩ d_D_reckon_292 (d_settle hfl (F0 := F0) (W1 := W2) (K1 := K2) (S1 := S2) (W := W) (K := K) (S := S) (X := X) (Y := Y) (kd := kd2) (s := s2) hN hW2 hDk (h11) (h13) (h10) hY0 hXb hYb hs2r hkd2 hk20 (fun j hj => ⟨((show (W2) j = W2 j from by rfl)).trans ((hf2 j hj).1), ((show (K2) j = K2 j from by rfl)).trans ((hf2 j hj).2.1), ((show (S2) j = S2 j from by rfl)).trans ((hf2 j hj).2.2)⟩)) (fun  F28 hq => ?_) (fun k9 F9 hq => by (rw [← hr] at hq; exact Or.inr ⟨_, rfl, rfl, rfl, hq⟩))
      obtain hq := hq
      refine J_vret rfl d_D_reckon_295 ⟨by decide, by decide⟩ ?_
      rw [← hr] at hq
      exact Or.inl ⟨rfl, rfl, rfl, hq⟩
    refine J_ifeq (tgt := 60) d_D_reckon_52 (by decide) ⟨by omega, by omega⟩ (fun c52 => ?_) (fun c52 => ?_)
    · have lab83 : J l rm_D_reckon (0, 0) "NumberTower$Desk" b_D_reckon 5 (Option.none : Option Jvm.ClassFile.FieldType) D jCl (jTys g) A (fun _ me => me.name = y_D_reckon.name) (QD ad N g F0 W K S (reckF op kx sx ux dx ky sy uy dy)) ad N 0 0 83 [(0, .ref (ad 9)), (1, .int (iI op)), (4, .int (iI kd0))] [.int (iI rs0), .ref (ad 9)] (cF ad g F0 W1 K1 S1) := by
        refine J_callVv cw_D_72 nh_D_addParts pn_D_addParts rfl rfl (by omega) ((cF_0 (by decide)).trans hDk) (As := [.int (iI rs0)]) (rest := []) rfl (Nat.le_of_ble_eq_true rfl) ⟨by decide, by decide⟩ rfl ⟨by decide, by decide⟩ d_D_reckon_83 (c_D_addParts hfl (F0 := F0) (W := W1) (K := K1) (S := S1) (xl := ul) (yl := dl) (xr := ur) (yr := dr) (rs := rs0) hN hW1 hDk h16 h18 h21 h23 (by rw [h15]; exact hsl) hrs (Nat.lt_trans (prod_lt hbl.1 hbr.2) (by decide)) (Nat.lt_trans (prod_lt hbr.1 hbl.2) (by decide)) (Nat.lt_trans (prod_lt hbl.2 hbr.2) (by decide))) (fun  F29 hq => ?_)
        obtain ⟨W3, q1, q2, q3, q4, eFa⟩ := hq
        rw [h15] at q3 eFa
        refine J_eqF (F2 := cF ad g F0 W3 K1 (va_up S1 10 (addS sl rs0 (ul * dr) (ur * dl)))) eFa ?_
        refine J_goto (tgt := 289) d_D_reckon_86 (by decide) ?_
        refine J_pick (lv' := [(0, .ref (ad 9)), (4, .int (iI kd0))]) [0, 2] rfl ?_
        exact lab289 W3 K1 (va_up S1 10 (addS sl rs0 (ul * dr) (ur * dl))) (addM sl rs0 (ul * dr) (ur * dl)) (dl * dr) (addS sl rs0 (ul * dr) (ur * dl)) kd0 q1 (fun j hj => ⟨((((show (W3) j = W3 j from by rfl)).trans (q2 j (by omega) (by omega) (by omega) (by omega)))).trans (hf1 j hj).1, ((show (K1) j = K1 j from by rfl)).trans (hf1 j hj).2.1, ((show (va_up S1 10 (addS sl rs0 (ul * dr) (ur * dl))) j = S1 j from by rw [va_up_ne _ _ (by omega)])).trans (hf1 j hj).2.2⟩) (q3) (q4) ((va_up_self ..)) (by
          unfold opF
          first
          | (rw [if_pos (show op = 0 by omega), show rs0 = sr by rw [hrs0, if_pos (by omega)]])
          | (rw [if_neg (show ¬ op = 0 by omega), if_pos (show op = 1 by omega), show rs0 = -sr by rw [hrs0, if_neg (by omega)]])
          | (rw [if_neg (show ¬ op = 0 by omega), if_neg (show ¬ op = 1 by omega), if_pos (show op = 2 by omega)])
          | (rw [if_neg (show ¬ op = 0 by omega), if_neg (show ¬ op = 1 by omega), if_neg (show ¬ op = 2 by omega), if_pos (show op = 3 by omega), hk3])
          | (rw [if_neg (show ¬ op = 0 by omega), if_neg (show ¬ op = 1 by omega), if_neg (show ¬ op = 2 by omega), if_neg (show ¬ op = 3 by omega), if_pos (show op = 4 by omega), hk4])
          | (rw [if_neg (show ¬ op = 0 by omega), if_neg (show ¬ op = 1 by omega), if_neg (show ¬ op = 2 by omega), if_neg (show ¬ op = 3 by omega), if_neg (show ¬ op = 4 by omega)])) (Nat.lt_of_le_of_lt addM_le (by have := prod_lt hbl.1 hbr.2; have := prod_lt hbr.1 hbl.2; omega)) (Nat.lt_trans (prod_lt (by omega) (by omega)) (by decide)) (Nat.mul_pos (by omega) (by omega)) (addS_rng hsl hrs) (by first | omega | (rw [← hk3]; split <;> omega) | (rw [← hk4]; split <;> omega)) (fun e => by rw [(hk1 e).1, (hk1 e).2])
      refine J_aload_n 0 d_D_reckon_60 rfl rfl ?_
      refine J_iload_n 1 d_D_reckon_61 rfl rfl ?_
      refine J_ifne (tgt := 75) d_D_reckon_62 (by decide) ⟨by omega, by omega⟩ (fun c62 => ?_) (fun c62 => ?_)
      · refine J_aload_n 0 d_D_reckon_75 rfl rfl ?_
        refine gf_D_21 (by omega) ((cF_0 (by decide)).trans hDk) rfl d_D_reckon_76 ?_
        refine gf_D_69 (by omega) (cF_U (by decide) rfl h20) rfl d_D_reckon_79 ?_
        refine J_ineg d_D_reckon_82 ?_
        refine J_topi (r := rs0) (congrArg iI (by rw [hrs0, if_neg (by omega)])) ?_
        exact lab83  
      · refine J_aload_n 0 d_D_reckon_65 rfl rfl ?_
        refine gf_D_21 (by omega) ((cF_0 (by decide)).trans hDk) rfl d_D_reckon_66 ?_
        refine gf_D_69 (by omega) (cF_U (by decide) rfl h20) rfl d_D_reckon_69 ?_
        refine J_goto (tgt := 83) d_D_reckon_72 (by decide) ?_
        refine J_topi (r := rs0) (congrArg iI (by rw [hrs0, if_pos (by omega)])) ?_
        exact lab83  
    · refine J_iload_n 1 d_D_reckon_55 rfl rfl ?_
      refine J_iconst d_D_reckon_56 ?_
      refine J_if_icmpne (tgt := 89) d_D_reckon_57 (by decide) ⟨by omega, by omega⟩ ⟨by omega, by omega⟩ (fun c57 => ?_) (fun c57 => ?_)
      · refine J_iload_n 1 d_D_reckon_89 rfl rfl ?_
        refine J_iconst d_D_reckon_90 ?_
        refine J_if_icmpne (tgt := 129) d_D_reckon_91 (by decide) ⟨by omega, by omega⟩ ⟨by omega, by omega⟩ (fun c91 => ?_) (fun c91 => ?_)
        · refine J_iload_n 1 d_D_reckon_129 rfl rfl ?_
          refine J_iconst d_D_reckon_130 ?_
          refine J_if_icmpne (tgt := 182) d_D_reckon_131 (by decide) ⟨by omega, by omega⟩ ⟨by omega, by omega⟩ (fun c131 => ?_) (fun c131 => ?_)
          · refine J_iload_n 1 d_D_reckon_182 rfl rfl ?_
            refine J_iconst d_D_reckon_183 ?_
            refine J_if_icmpne (tgt := 233) d_D_reckon_184 (by decide) ⟨by omega, by omega⟩ ⟨by omega, by omega⟩ (fun c184 => ?_) (fun c184 => ?_)
            · have hur : 0 < ur := by omega
              refine J_aload_n 0 d_D_reckon_233 rfl rfl ?_
              refine J_callVv cw_D_86 nh_D_floorAndRest pn_D_floorAndRest rfl rfl (by omega) ((cF_0 (by decide)).trans hDk) (As := []) (rest := []) rfl (Nat.le_of_ble_eq_true rfl) ⟨by decide, by decide⟩ rfl ⟨by decide, by decide⟩ d_D_reckon_234 (c_D_floorAndRest hfl (F0 := F0) (W := W1) (K := K1) (S := S1) (xl := ul) (yl := dl) (xr := ur) (yr := dr) hN hW1 hDk h16 h18 h21 h23 (by rw [h15]; exact hsl) (by rw [h20]; exact hsr) (Nat.mul_pos hdl hur) (Nat.lt_trans (prod_lt hbl.1 hbr.2) (by decide)) (Nat.lt_trans (prod_lt hbl.2 hbr.1) (by decide))) (fun  F30 hq => ?_)
              obtain ⟨W3, q1, q2, q3, q4, eFa⟩ := hq
              rw [h15, h20] at q3 q4 eFa
              refine J_eqF (F2 := cF ad g F0 W3 K1 (va_up S1 10 (sl * sr))) eFa ?_
              refine J_aload_n 0 d_D_reckon_237 rfl rfl ?_
              refine gf_D_12 (by omega) ((cF_0 (by decide)).trans hDk) rfl d_D_reckon_238 ?_
              refine gf_D_76 (by omega) (cF_U (by decide) rfl (va_up_self ..)) rfl d_D_reckon_241 ?_
              refine J_aload_n 0 d_D_reckon_244 rfl rfl ?_
              refine gf_D_31 (by omega) ((cF_0 (by decide)).trans hDk) rfl d_D_reckon_245 ?_
              refine J_callVv cw_D_89 nh_N_copyFrom pn_N_copyFrom rfl rfl (by omega) (cF_N (by decide) (q2 _ (by omega) (by omega) (by omega))) (As := [.ref (ad 27)]) (rest := []) rfl (Nat.le_of_ble_eq_true rfl) ⟨by decide, by decide⟩ rfl ⟨by decide, by decide⟩ d_D_reckon_248 (n_copyFrom hfl (F0 := F0) (W := W3) (K := K1) (S := va_up S1 10 (sl * sr)) (k := 11) (m := 27) (hN := by omega) (hW := q1) (hk := (by decide)) (hm := (by decide)) (x := flr (sl * sr) (ul * dr) (dl * ur)) (hx := q4) (hd := (by decide))) (fun  F34 hq => ?_)
              obtain ⟨hW32, eF33⟩ := hq
              refine J_eqF (F2 := cF ad g F0 (va_up W3 11 (flr (sl * sr) (ul * dr) (dl * ur))) K1 (va_up S1 10 (sl * sr))) eF33 ?_
              refine J_aload_n 0 d_D_reckon_251 rfl rfl ?_
              refine gf_D_12 (by omega) ((cF_0 (by decide)).trans hDk) rfl d_D_reckon_252 ?_
              refine gf_D_79 (by omega) (cF_U (by decide) rfl (va_up_self ..)) rfl d_D_reckon_255 ?_
              refine J_aload_n 0 d_D_reckon_258 rfl rfl ?_
              refine gf_D_18 (by omega) ((cF_0 (by decide)).trans hDk) rfl d_D_reckon_259 ?_
              refine gf_D_79 (by omega) (cF_U (by decide) rfl ((va_up_ne _ _ (by decide)).trans h15)) rfl d_D_reckon_262 ?_
              refine J_aload_n 0 d_D_reckon_265 rfl rfl ?_
              refine gf_D_21 (by omega) ((cF_0 (by decide)).trans hDk) rfl d_D_reckon_266 ?_
              refine gf_D_79 (by omega) (cF_U (by decide) rfl ((va_up_ne _ _ (by decide)).trans h20)) rfl d_D_reckon_269 ?_
              refine J_callVv cw_D_97 nh_N_setProduct pn_N_setProduct rfl rfl (by omega) (cF_N (by decide) ((va_up_ne _ _ (by decide)).trans (q2 _ (by omega) (by omega) (by omega)))) (As := [.ref (ad 18), .ref (ad 23)]) (rest := []) rfl (Nat.le_of_ble_eq_true rfl) ⟨by decide, by decide⟩ rfl ⟨by decide, by decide⟩ d_D_reckon_272 (n_setProduct hfl (F0 := F0) (W := va_up W3 11 (flr (sl * sr) (ul * dr) (dl * ur))) (K := K1) (S := va_up S1 10 (sl * sr)) (k := 13) (m := 18) (p := 23) (hN := by omega) (hW := hW32) (hk := (by decide)) (hm := (by decide)) (hp := (by decide)) (x := dl) (hx := ((va_up_ne _ _ (by decide)).trans ((q2 _ (by omega) (by omega) (by omega)).trans h18))) (y := dr) (hy := ((va_up_ne _ _ (by decide)).trans ((q2 _ (by omega) (by omega) (by omega)).trans h23))) (hd := (by decide)) (hd2 := (by decide)) (ht := Nat.lt_trans (prod_lt hbl.2 hbr.2) (by decide))) (fun  F38 hq => ?_)
              obtain ⟨hW36, eF37⟩ := hq
              refine J_eqF (F2 := cF ad g F0 (va_up (va_up W3 11 (flr (sl * sr) (ul * dr) (dl * ur))) 13 (dl * dr)) K1 (va_up S1 10 (sl * sr))) eF37 ?_
              refine J_aload_n 0 d_D_reckon_275 rfl rfl ?_
              refine gf_D_12 (by omega) ((cF_0 (by decide)).trans hDk) rfl d_D_reckon_276 ?_
              refine J_aload_n 0 d_D_reckon_279 rfl rfl ?_
              refine gf_D_21 (by omega) ((cF_0 (by decide)).trans hDk) rfl d_D_reckon_280 ?_
              refine gf_D_69 (by omega) (cF_U (by decide) rfl ((va_up_ne _ _ (by decide)).trans h20)) rfl d_D_reckon_283 ?_
              refine pf_D_69 (by omega) (cF_U (by decide) rfl (va_up_self ..)) (Nat.le_of_ble_eq_true rfl) d_D_reckon_286 ?_
              refine J_eqF (F2 := cF ad g F0 (va_up (va_up W3 11 (flr (sl * sr) (ul * dr) (dl * ur))) 13 (dl * dr)) K1 (va_up S1 10 sr)) (((cF_upU (by decide)).trans (congrArg (fun qq => cF ad g F0 (va_up (va_up W3 11 (flr (sl * sr) (ul * dr) (dl * ur))) 13 (dl * dr)) qq (va_up (va_up S1 10 (sl * sr)) 10 sr)) (up_same1 rfl).symm)).trans (congrArg (fun qq => cF ad g F0 (va_up (va_up W3 11 (flr (sl * sr) (ul * dr) (dl * ur))) 13 (dl * dr)) K1 qq) (up_in0))) ?_
              refine J_pick (lv' := [(0, .ref (ad 9)), (4, .int (iI kd0))]) [0, 2] rfl ?_
              exact lab289 (va_up (va_up W3 11 (flr (sl * sr) (ul * dr) (dl * ur))) 13 (dl * dr)) K1 (va_up S1 10 sr) (flr (sl * sr) (ul * dr) (dl * ur)) (dl * dr) sr kd0 hW36 (fun j hj => ⟨((((show (va_up (va_up W3 11 (flr (sl * sr) (ul * dr) (dl * ur))) 13 (dl * dr)) j = W3 j from by rw [va_up_ne _ _ (by omega), va_up_ne _ _ (by omega)])).trans (q2 j (by omega) (by omega) (by omega)))).trans (hf1 j hj).1, ((show (K1) j = K1 j from by rfl)).trans (hf1 j hj).2.1, ((show (va_up S1 10 sr) j = S1 j from by rw [va_up_ne _ _ (by omega)])).trans (hf1 j hj).2.2⟩) (((va_up_ne _ _ (by decide)).trans (va_up_self ..))) ((va_up_self ..)) ((va_up_self ..)) (by
                unfold opF
                first
                | (rw [if_pos (show op = 0 by omega), show rs0 = sr by rw [hrs0, if_pos (by omega)]])
                | (rw [if_neg (show ¬ op = 0 by omega), if_pos (show op = 1 by omega), show rs0 = -sr by rw [hrs0, if_neg (by omega)]])
                | (rw [if_neg (show ¬ op = 0 by omega), if_neg (show ¬ op = 1 by omega), if_pos (show op = 2 by omega)])
                | (rw [if_neg (show ¬ op = 0 by omega), if_neg (show ¬ op = 1 by omega), if_neg (show ¬ op = 2 by omega), if_pos (show op = 3 by omega), hk3])
                | (rw [if_neg (show ¬ op = 0 by omega), if_neg (show ¬ op = 1 by omega), if_neg (show ¬ op = 2 by omega), if_neg (show ¬ op = 3 by omega), if_pos (show op = 4 by omega), hk4])
                | (rw [if_neg (show ¬ op = 0 by omega), if_neg (show ¬ op = 1 by omega), if_neg (show ¬ op = 2 by omega), if_neg (show ¬ op = 3 by omega), if_neg (show ¬ op = 4 by omega)])) (Nat.lt_of_le_of_lt (flr_le (Nat.mul_pos hdl hur)) (by have := prod_lt hbl.2 hbr.1; omega)) (Nat.lt_trans (prod_lt (by omega) (by omega)) (by decide)) (Nat.mul_pos (by omega) (by omega)) hsr (by first | omega | (rw [← hk3]; split <;> omega) | (rw [← hk4]; split <;> omega)) (fun e => by rw [(hk1 e).1, (hk1 e).2])
            · have hur : 0 < ur := by omega
              obtain ⟨kd4, hk4⟩ : ∃ k : Int, (if kd0 = 1 then 0 else kd0) = k := ⟨_, rfl⟩
              refine J_aload_n 0 d_D_reckon_187 rfl rfl ?_
              refine J_callVv cw_D_86 nh_D_floorAndRest pn_D_floorAndRest rfl rfl (by omega) ((cF_0 (by decide)).trans hDk) (As := []) (rest := []) rfl (Nat.le_of_ble_eq_true rfl) ⟨by decide, by decide⟩ rfl ⟨by decide, by decide⟩ d_D_reckon_188 (c_D_floorAndRest hfl (F0 := F0) (W := W1) (K := K1) (S := S1) (xl := ul) (yl := dl) (xr := ur) (yr := dr) hN hW1 hDk h16 h18 h21 h23 (by rw [h15]; exact hsl) (by rw [h20]; exact hsr) (Nat.mul_pos hdl hur) (Nat.lt_trans (prod_lt hbl.1 hbr.2) (by decide)) (Nat.lt_trans (prod_lt hbl.2 hbr.1) (by decide))) (fun  F39 hq => ?_)
              obtain ⟨W3, q1, q2, q3, q4, eFa⟩ := hq
              rw [h15, h20] at q3 q4 eFa
              refine J_eqF (F2 := cF ad g F0 W3 K1 (va_up S1 10 (sl * sr))) eFa ?_
              refine J_aload_n 0 d_D_reckon_191 rfl rfl ?_
              refine gf_D_12 (by omega) ((cF_0 (by decide)).trans hDk) rfl d_D_reckon_192 ?_
              refine gf_D_76 (by omega) (cF_U (by decide) rfl (va_up_self ..)) rfl d_D_reckon_195 ?_
              refine J_aload_n 0 d_D_reckon_198 rfl rfl ?_
              refine gf_D_27 (by omega) ((cF_0 (by decide)).trans hDk) rfl d_D_reckon_199 ?_
              refine J_callVv cw_D_89 nh_N_copyFrom pn_N_copyFrom rfl rfl (by omega) (cF_N (by decide) (q2 _ (by omega) (by omega) (by omega))) (As := [.ref (ad 25)]) (rest := []) rfl (Nat.le_of_ble_eq_true rfl) ⟨by decide, by decide⟩ rfl ⟨by decide, by decide⟩ d_D_reckon_202 (n_copyFrom hfl (F0 := F0) (W := W3) (K := K1) (S := va_up S1 10 (sl * sr)) (k := 11) (m := 25) (hN := by omega) (hW := q1) (hk := (by decide)) (hm := (by decide)) (x := flq (sl * sr) (ul * dr) (dl * ur)) (hx := q3) (hd := (by decide))) (fun  F43 hq => ?_)
              obtain ⟨hW41, eF42⟩ := hq
              refine J_eqF (F2 := cF ad g F0 (va_up W3 11 (flq (sl * sr) (ul * dr) (dl * ur))) K1 (va_up S1 10 (sl * sr))) eF42 ?_
              refine J_aload_n 0 d_D_reckon_205 rfl rfl ?_
              refine gf_D_12 (by omega) ((cF_0 (by decide)).trans hDk) rfl d_D_reckon_206 ?_
              refine gf_D_79 (by omega) (cF_U (by decide) rfl (va_up_self ..)) rfl d_D_reckon_209 ?_
              refine J_lconst (v := 1) d_D_reckon_212 rfl ?_
              refine J_callVv cw_D_93 nh_N_set pn_N_set rfl rfl (by omega) (cF_N (by decide) ((va_up_ne _ _ (by decide)).trans (q2 _ (by omega) (by omega) (by omega)))) (As := [.long (lI 1)]) (rest := []) rfl (Nat.le_of_ble_eq_true rfl) ⟨by decide, by decide⟩ rfl ⟨by decide, by decide⟩ d_D_reckon_213 (n_set hfl (F0 := F0) (W := va_up W3 11 (flq (sl * sr) (ul * dr) (dl * ur))) (K := K1) (S := va_up S1 10 (sl * sr)) (k := 13) (n := 1) (hN := by omega) (hW := hW41) (hk := (by decide)) (hn := by decide)) (fun  F47 hq => ?_)
              obtain ⟨hW45, eF46⟩ := hq
              refine J_eqF (F2 := cF ad g F0 (va_up (va_up W3 11 (flq (sl * sr) (ul * dr) (dl * ur))) 13 1) K1 (va_up S1 10 (sl * sr))) eF46 ?_
              have lab228 : J l rm_D_reckon (0, 0) "NumberTower$Desk" b_D_reckon 5 (Option.none : Option Jvm.ClassFile.FieldType) D jCl (jTys g) A (fun _ me => me.name = y_D_reckon.name) (QD ad N g F0 W K S (reckF op kx sx ux dx ky sy uy dy)) ad N 0 0 228 [(0, .ref (ad 9)), (1, .int (iI op)), (4, .int (iI kd0))] [.int (iI kd4)] (cF ad g F0 (va_up (va_up W3 11 (flq (sl * sr) (ul * dr) (dl * ur))) 13 1) K1 (va_up S1 10 (sl * sr))) := by
                refine J_istore (lv' := [(4, .int (iI kd4)), (0, .ref (ad 9)), (1, .int (iI op))]) d_D_reckon_228 (by decide) rfl ?_
                refine J_goto (tgt := 289) d_D_reckon_230 (by decide) ?_
                refine J_pick (lv' := [(0, .ref (ad 9)), (4, .int (iI kd4))]) [1, 0] rfl ?_
                exact lab289 (va_up (va_up W3 11 (flq (sl * sr) (ul * dr) (dl * ur))) 13 1) K1 (va_up S1 10 (sl * sr)) (flq (sl * sr) (ul * dr) (dl * ur)) 1 (sl * sr) kd4 hW45 (fun j hj => ⟨((((show (va_up (va_up W3 11 (flq (sl * sr) (ul * dr) (dl * ur))) 13 1) j = W3 j from by rw [va_up_ne _ _ (by omega), va_up_ne _ _ (by omega)])).trans (q2 j (by omega) (by omega) (by omega)))).trans (hf1 j hj).1, ((show (K1) j = K1 j from by rfl)).trans (hf1 j hj).2.1, ((show (va_up S1 10 (sl * sr)) j = S1 j from by rw [va_up_ne _ _ (by omega)])).trans (hf1 j hj).2.2⟩) (((va_up_ne _ _ (by decide)).trans (va_up_self ..))) ((va_up_self ..)) ((va_up_self ..)) (by
                  unfold opF
                  first
                  | (rw [if_pos (show op = 0 by omega), show rs0 = sr by rw [hrs0, if_pos (by omega)]])
                  | (rw [if_neg (show ¬ op = 0 by omega), if_pos (show op = 1 by omega), show rs0 = -sr by rw [hrs0, if_neg (by omega)]])
                  | (rw [if_neg (show ¬ op = 0 by omega), if_neg (show ¬ op = 1 by omega), if_pos (show op = 2 by omega)])
                  | (rw [if_neg (show ¬ op = 0 by omega), if_neg (show ¬ op = 1 by omega), if_neg (show ¬ op = 2 by omega), if_pos (show op = 3 by omega), hk3])
                  | (rw [if_neg (show ¬ op = 0 by omega), if_neg (show ¬ op = 1 by omega), if_neg (show ¬ op = 2 by omega), if_neg (show ¬ op = 3 by omega), if_pos (show op = 4 by omega), hk4])
                  | (rw [if_neg (show ¬ op = 0 by omega), if_neg (show ¬ op = 1 by omega), if_neg (show ¬ op = 2 by omega), if_neg (show ¬ op = 3 by omega), if_neg (show ¬ op = 4 by omega)])) (Nat.lt_of_le_of_lt flq_le (by have := prod_lt hbl.1 hbr.2; omega)) (by decide) (by decide) (sgn_rng hsl hsr) (by first | omega | (rw [← hk3]; split <;> omega) | (rw [← hk4]; split <;> omega)) (fun _ => rfl)
              refine J_iload 2 d_D_reckon_216 rfl ?_
              refine J_iconst d_D_reckon_218 ?_
              refine J_if_icmpne (tgt := 226) d_D_reckon_219 (by decide) ⟨by omega, by omega⟩ ⟨by omega, by omega⟩ (fun c219 => ?_) (fun c219 => ?_)
              · refine J_iload 2 d_D_reckon_226 rfl ?_
                refine J_topi (r := kd4) (congrArg iI (by rw [← hk4, if_neg (by omega)])) ?_
                exact lab228  
              · refine J_iconst d_D_reckon_222 ?_
                refine J_goto (tgt := 228) d_D_reckon_223 (by decide) ?_
                refine J_topi (r := kd4) (congrArg iI (by rw [← hk4, if_pos (by omega)])) ?_
                exact lab228  
          · have hur : 0 < ur := by omega
            obtain ⟨kd3, hk3⟩ : ∃ k : Int, (if kd0 = 0 then 2 else kd0) = k := ⟨_, rfl⟩
            refine J_aload_n 0 d_D_reckon_134 rfl rfl ?_
            refine J_aload_n 0 d_D_reckon_135 rfl rfl ?_
            refine gf_D_18 (by omega) ((cF_0 (by decide)).trans hDk) rfl d_D_reckon_136 ?_
            refine gf_D_76 (by omega) (cF_U (by decide) rfl h15) rfl d_D_reckon_139 ?_
            refine J_aload_n 0 d_D_reckon_142 rfl rfl ?_
            refine gf_D_21 (by omega) ((cF_0 (by decide)).trans hDk) rfl d_D_reckon_143 ?_
            refine gf_D_79 (by omega) (cF_U (by decide) rfl h20) rfl d_D_reckon_146 ?_
            refine J_aload_n 0 d_D_reckon_149 rfl rfl ?_
            refine gf_D_18 (by omega) ((cF_0 (by decide)).trans hDk) rfl d_D_reckon_150 ?_
            refine gf_D_79 (by omega) (cF_U (by decide) rfl h15) rfl d_D_reckon_153 ?_
            refine J_aload_n 0 d_D_reckon_156 rfl rfl ?_
            refine gf_D_21 (by omega) ((cF_0 (by decide)).trans hDk) rfl d_D_reckon_157 ?_
            refine gf_D_76 (by omega) (cF_U (by decide) rfl h20) rfl d_D_reckon_160 ?_
            refine J_callVv cw_D_82 nh_D_setParts pn_D_setParts rfl rfl (by omega) ((cF_0 (by decide)).trans hDk) (As := [.ref (ad 16), .ref (ad 23), .ref (ad 18), .ref (ad 21)]) (rest := []) rfl (Nat.le_of_ble_eq_true rfl) ⟨by decide, by decide⟩ rfl ⟨by decide, by decide⟩ d_D_reckon_163 (c_D_setParts hfl (F0 := F0) (W := W1) (K := K1) (S := S1) (a := 16) (b := 23) (c := 18) (d := 21) (xa := ul) (xb := dr) (xc := dl) (xd := ur) hN hW1 hDk (by decide) (by decide) (by decide) (by decide) (by decide) (h16) (h23) (h18) (h21) (Nat.lt_trans (prod_lt hbl.1 hbr.2) (by decide)) (Nat.lt_trans (prod_lt hbl.2 hbr.1) (by decide))) (fun  F48 hq => ?_)
            obtain ⟨q1, eFa⟩ := hq
            rw [h15, h20] at eFa
            refine J_eqF (F2 := cF ad g F0 (va_up (va_up W1 11 (ul * dr)) 13 (dl * ur)) K1 (va_up S1 10 (sl * sr))) eFa ?_
            have lab177 : J l rm_D_reckon (0, 0) "NumberTower$Desk" b_D_reckon 5 (Option.none : Option Jvm.ClassFile.FieldType) D jCl (jTys g) A (fun _ me => me.name = y_D_reckon.name) (QD ad N g F0 W K S (reckF op kx sx ux dx ky sy uy dy)) ad N 0 0 177 [(0, .ref (ad 9)), (1, .int (iI op)), (4, .int (iI kd0))] [.int (iI kd3)] (cF ad g F0 (va_up (va_up W1 11 (ul * dr)) 13 (dl * ur)) K1 (va_up S1 10 (sl * sr))) := by
              refine J_istore (lv' := [(4, .int (iI kd3)), (0, .ref (ad 9)), (1, .int (iI op))]) d_D_reckon_177 (by decide) rfl ?_
              refine J_goto (tgt := 289) d_D_reckon_179 (by decide) ?_
              refine J_pick (lv' := [(0, .ref (ad 9)), (4, .int (iI kd3))]) [1, 0] rfl ?_
              exact lab289 (va_up (va_up W1 11 (ul * dr)) 13 (dl * ur)) K1 (va_up S1 10 (sl * sr)) (ul * dr) (dl * ur) (sl * sr) kd3 q1 (fun j hj => ⟨((show (va_up (va_up W1 11 (ul * dr)) 13 (dl * ur)) j = W1 j from by rw [va_up_ne _ _ (by omega), va_up_ne _ _ (by omega)])).trans (hf1 j hj).1, ((show (K1) j = K1 j from by rfl)).trans (hf1 j hj).2.1, ((show (va_up S1 10 (sl * sr)) j = S1 j from by rw [va_up_ne _ _ (by omega)])).trans (hf1 j hj).2.2⟩) (((va_up_ne _ _ (by decide)).trans (va_up_self ..))) ((va_up_self ..)) ((va_up_self ..)) (by
                unfold opF
                first
                | (rw [if_pos (show op = 0 by omega), show rs0 = sr by rw [hrs0, if_pos (by omega)]])
                | (rw [if_neg (show ¬ op = 0 by omega), if_pos (show op = 1 by omega), show rs0 = -sr by rw [hrs0, if_neg (by omega)]])
                | (rw [if_neg (show ¬ op = 0 by omega), if_neg (show ¬ op = 1 by omega), if_pos (show op = 2 by omega)])
                | (rw [if_neg (show ¬ op = 0 by omega), if_neg (show ¬ op = 1 by omega), if_neg (show ¬ op = 2 by omega), if_pos (show op = 3 by omega), hk3])
                | (rw [if_neg (show ¬ op = 0 by omega), if_neg (show ¬ op = 1 by omega), if_neg (show ¬ op = 2 by omega), if_neg (show ¬ op = 3 by omega), if_pos (show op = 4 by omega), hk4])
                | (rw [if_neg (show ¬ op = 0 by omega), if_neg (show ¬ op = 1 by omega), if_neg (show ¬ op = 2 by omega), if_neg (show ¬ op = 3 by omega), if_neg (show ¬ op = 4 by omega)])) (Nat.lt_trans (prod_lt (by omega) (by omega)) (by decide)) (Nat.lt_trans (prod_lt (by omega) (by omega)) (by decide)) (Nat.mul_pos (by omega) (by omega)) (sgn_rng hsl hsr) (by first | omega | (rw [← hk3]; split <;> omega) | (rw [← hk4]; split <;> omega)) (fun e => by exfalso; rw [← hk3] at e; split at e <;> omega)
            refine J_iload 2 d_D_reckon_166 rfl ?_
            refine J_ifne (tgt := 175) d_D_reckon_168 (by decide) ⟨by omega, by omega⟩ (fun c168 => ?_) (fun c168 => ?_)
            · refine J_iload 2 d_D_reckon_175 rfl ?_
              refine J_topi (r := kd3) (congrArg iI (by rw [← hk3, if_neg (by omega)])) ?_
              exact lab177  
            · refine J_iconst d_D_reckon_171 ?_
              refine J_goto (tgt := 177) d_D_reckon_172 (by decide) ?_
              refine J_topi (r := kd3) (congrArg iI (by rw [← hk3, if_pos (by omega)])) ?_
              exact lab177  
        · refine J_aload_n 0 d_D_reckon_94 rfl rfl ?_
          refine J_aload_n 0 d_D_reckon_95 rfl rfl ?_
          refine gf_D_18 (by omega) ((cF_0 (by decide)).trans hDk) rfl d_D_reckon_96 ?_
          refine gf_D_76 (by omega) (cF_U (by decide) rfl h15) rfl d_D_reckon_99 ?_
          refine J_aload_n 0 d_D_reckon_102 rfl rfl ?_
          refine gf_D_21 (by omega) ((cF_0 (by decide)).trans hDk) rfl d_D_reckon_103 ?_
          refine gf_D_76 (by omega) (cF_U (by decide) rfl h20) rfl d_D_reckon_106 ?_
          refine J_aload_n 0 d_D_reckon_109 rfl rfl ?_
          refine gf_D_18 (by omega) ((cF_0 (by decide)).trans hDk) rfl d_D_reckon_110 ?_
          refine gf_D_79 (by omega) (cF_U (by decide) rfl h15) rfl d_D_reckon_113 ?_
          refine J_aload_n 0 d_D_reckon_116 rfl rfl ?_
          refine gf_D_21 (by omega) ((cF_0 (by decide)).trans hDk) rfl d_D_reckon_117 ?_
          refine gf_D_79 (by omega) (cF_U (by decide) rfl h20) rfl d_D_reckon_120 ?_
          refine J_callVv cw_D_82 nh_D_setParts pn_D_setParts rfl rfl (by omega) ((cF_0 (by decide)).trans hDk) (As := [.ref (ad 16), .ref (ad 21), .ref (ad 18), .ref (ad 23)]) (rest := []) rfl (Nat.le_of_ble_eq_true rfl) ⟨by decide, by decide⟩ rfl ⟨by decide, by decide⟩ d_D_reckon_123 (c_D_setParts hfl (F0 := F0) (W := W1) (K := K1) (S := S1) (a := 16) (b := 21) (c := 18) (d := 23) (xa := ul) (xb := ur) (xc := dl) (xd := dr) hN hW1 hDk (by decide) (by decide) (by decide) (by decide) (by decide) (h16) (h21) (h18) (h23) (Nat.lt_trans (prod_lt hbl.1 hbr.1) (by decide)) (Nat.lt_trans (prod_lt hbl.2 hbr.2) (by decide))) (fun  F49 hq => ?_)
          obtain ⟨q1, eFa⟩ := hq
          rw [h15, h20] at eFa
          refine J_eqF (F2 := cF ad g F0 (va_up (va_up W1 11 (ul * ur)) 13 (dl * dr)) K1 (va_up S1 10 (sl * sr))) eFa ?_
          refine J_goto (tgt := 289) d_D_reckon_126 (by decide) ?_
          refine J_pick (lv' := [(0, .ref (ad 9)), (4, .int (iI kd0))]) [0, 2] rfl ?_
          exact lab289 (va_up (va_up W1 11 (ul * ur)) 13 (dl * dr)) K1 (va_up S1 10 (sl * sr)) (ul * ur) (dl * dr) (sl * sr) kd0 q1 (fun j hj => ⟨((show (va_up (va_up W1 11 (ul * ur)) 13 (dl * dr)) j = W1 j from by rw [va_up_ne _ _ (by omega), va_up_ne _ _ (by omega)])).trans (hf1 j hj).1, ((show (K1) j = K1 j from by rfl)).trans (hf1 j hj).2.1, ((show (va_up S1 10 (sl * sr)) j = S1 j from by rw [va_up_ne _ _ (by omega)])).trans (hf1 j hj).2.2⟩) (((va_up_ne _ _ (by decide)).trans (va_up_self ..))) ((va_up_self ..)) ((va_up_self ..)) (by
            unfold opF
            first
            | (rw [if_pos (show op = 0 by omega), show rs0 = sr by rw [hrs0, if_pos (by omega)]])
            | (rw [if_neg (show ¬ op = 0 by omega), if_pos (show op = 1 by omega), show rs0 = -sr by rw [hrs0, if_neg (by omega)]])
            | (rw [if_neg (show ¬ op = 0 by omega), if_neg (show ¬ op = 1 by omega), if_pos (show op = 2 by omega)])
            | (rw [if_neg (show ¬ op = 0 by omega), if_neg (show ¬ op = 1 by omega), if_neg (show ¬ op = 2 by omega), if_pos (show op = 3 by omega), hk3])
            | (rw [if_neg (show ¬ op = 0 by omega), if_neg (show ¬ op = 1 by omega), if_neg (show ¬ op = 2 by omega), if_neg (show ¬ op = 3 by omega), if_pos (show op = 4 by omega), hk4])
            | (rw [if_neg (show ¬ op = 0 by omega), if_neg (show ¬ op = 1 by omega), if_neg (show ¬ op = 2 by omega), if_neg (show ¬ op = 3 by omega), if_neg (show ¬ op = 4 by omega)])) (Nat.lt_trans (prod_lt (by omega) (by omega)) (by decide)) (Nat.lt_trans (prod_lt (by omega) (by omega)) (by decide)) (Nat.mul_pos (by omega) (by omega)) (sgn_rng hsl hsr) (by first | omega | (rw [← hk3]; split <;> omega) | (rw [← hk4]; split <;> omega)) (fun e => by rw [(hk1 e).1, (hk1 e).2])
      · have lab83 : J l rm_D_reckon (0, 0) "NumberTower$Desk" b_D_reckon 5 (Option.none : Option Jvm.ClassFile.FieldType) D jCl (jTys g) A (fun _ me => me.name = y_D_reckon.name) (QD ad N g F0 W K S (reckF op kx sx ux dx ky sy uy dy)) ad N 0 0 83 [(0, .ref (ad 9)), (1, .int (iI op)), (4, .int (iI kd0))] [.int (iI rs0), .ref (ad 9)] (cF ad g F0 W1 K1 S1) := by
          refine J_callVv cw_D_72 nh_D_addParts pn_D_addParts rfl rfl (by omega) ((cF_0 (by decide)).trans hDk) (As := [.int (iI rs0)]) (rest := []) rfl (Nat.le_of_ble_eq_true rfl) ⟨by decide, by decide⟩ rfl ⟨by decide, by decide⟩ d_D_reckon_83 (c_D_addParts hfl (F0 := F0) (W := W1) (K := K1) (S := S1) (xl := ul) (yl := dl) (xr := ur) (yr := dr) (rs := rs0) hN hW1 hDk h16 h18 h21 h23 (by rw [h15]; exact hsl) hrs (Nat.lt_trans (prod_lt hbl.1 hbr.2) (by decide)) (Nat.lt_trans (prod_lt hbr.1 hbl.2) (by decide)) (Nat.lt_trans (prod_lt hbl.2 hbr.2) (by decide))) (fun  F50 hq => ?_)
          obtain ⟨W3, q1, q2, q3, q4, eFa⟩ := hq
          rw [h15] at q3 eFa
          refine J_eqF (F2 := cF ad g F0 W3 K1 (va_up S1 10 (addS sl rs0 (ul * dr) (ur * dl)))) eFa ?_
          refine J_goto (tgt := 289) d_D_reckon_86 (by decide) ?_
          refine J_pick (lv' := [(0, .ref (ad 9)), (4, .int (iI kd0))]) [0, 2] rfl ?_
          exact lab289 W3 K1 (va_up S1 10 (addS sl rs0 (ul * dr) (ur * dl))) (addM sl rs0 (ul * dr) (ur * dl)) (dl * dr) (addS sl rs0 (ul * dr) (ur * dl)) kd0 q1 (fun j hj => ⟨((((show (W3) j = W3 j from by rfl)).trans (q2 j (by omega) (by omega) (by omega) (by omega)))).trans (hf1 j hj).1, ((show (K1) j = K1 j from by rfl)).trans (hf1 j hj).2.1, ((show (va_up S1 10 (addS sl rs0 (ul * dr) (ur * dl))) j = S1 j from by rw [va_up_ne _ _ (by omega)])).trans (hf1 j hj).2.2⟩) (q3) (q4) ((va_up_self ..)) (by
            unfold opF
            first
            | (rw [if_pos (show op = 0 by omega), show rs0 = sr by rw [hrs0, if_pos (by omega)]])
            | (rw [if_neg (show ¬ op = 0 by omega), if_pos (show op = 1 by omega), show rs0 = -sr by rw [hrs0, if_neg (by omega)]])
            | (rw [if_neg (show ¬ op = 0 by omega), if_neg (show ¬ op = 1 by omega), if_pos (show op = 2 by omega)])
            | (rw [if_neg (show ¬ op = 0 by omega), if_neg (show ¬ op = 1 by omega), if_neg (show ¬ op = 2 by omega), if_pos (show op = 3 by omega), hk3])
            | (rw [if_neg (show ¬ op = 0 by omega), if_neg (show ¬ op = 1 by omega), if_neg (show ¬ op = 2 by omega), if_neg (show ¬ op = 3 by omega), if_pos (show op = 4 by omega), hk4])
            | (rw [if_neg (show ¬ op = 0 by omega), if_neg (show ¬ op = 1 by omega), if_neg (show ¬ op = 2 by omega), if_neg (show ¬ op = 3 by omega), if_neg (show ¬ op = 4 by omega)])) (Nat.lt_of_le_of_lt addM_le (by have := prod_lt hbl.1 hbr.2; have := prod_lt hbr.1 hbl.2; omega)) (Nat.lt_trans (prod_lt (by omega) (by omega)) (by decide)) (Nat.mul_pos (by omega) (by omega)) (addS_rng hsl hrs) (by first | omega | (rw [← hk3]; split <;> omega) | (rw [← hk4]; split <;> omega)) (fun e => by rw [(hk1 e).1, (hk1 e).2])
        refine J_aload_n 0 d_D_reckon_60 rfl rfl ?_
        refine J_iload_n 1 d_D_reckon_61 rfl rfl ?_
        refine J_ifne (tgt := 75) d_D_reckon_62 (by decide) ⟨by omega, by omega⟩ (fun c62 => ?_) (fun c62 => ?_)
        · refine J_aload_n 0 d_D_reckon_75 rfl rfl ?_
          refine gf_D_21 (by omega) ((cF_0 (by decide)).trans hDk) rfl d_D_reckon_76 ?_
          refine gf_D_69 (by omega) (cF_U (by decide) rfl h20) rfl d_D_reckon_79 ?_
          refine J_ineg d_D_reckon_82 ?_
          refine J_topi (r := rs0) (congrArg iI (by rw [hrs0, if_neg (by omega)])) ?_
          exact lab83  
        · refine J_aload_n 0 d_D_reckon_65 rfl rfl ?_
          refine gf_D_21 (by omega) ((cF_0 (by decide)).trans hDk) rfl d_D_reckon_66 ?_
          refine gf_D_69 (by omega) (cF_U (by decide) rfl h20) rfl d_D_reckon_69 ?_
          refine J_goto (tgt := 83) d_D_reckon_72 (by decide) ?_
          refine J_topi (r := rs0) (congrArg iI (by rw [hrs0, if_pos (by omega)])) ?_
          exact lab83  
  refine J_iload 0 d_D_reckon_29 rfl ?_
  refine J_iconst d_D_reckon_31 ?_
  refine J_if_icmpne (tgt := 51) d_D_reckon_32 (by decide) ⟨by omega, by omega⟩ ⟨by omega, by omega⟩ (fun c32 => ?_) (fun c32 => ?_)
  · refine J_pick (lv' := [(0, .ref (ad 9)), (1, .int (iI op)), (4, .int (iI kd0))]) [1, 2, 0] rfl ?_
    exact lab51 (va_up (va_up (va_up (va_up W 16 ux) 18 dx) 21 uy) 23 dy) (va_up (va_up K 15 kx) 20 ky) (va_up (va_up S 15 sx) 20 sy) sx ux dx sy uy dy hW26 (fun j hj => ⟨(show (va_up (va_up (va_up (va_up W 16 ux) 18 dx) 21 uy) 23 dy) j = W j from by rw [va_up_ne _ _ (by omega), va_up_ne _ _ (by omega), va_up_ne _ _ (by omega), va_up_ne _ _ (by omega)]), (show (va_up (va_up K 15 kx) 20 ky) j = K j from by rw [va_up_ne _ _ (by omega), va_up_ne _ _ (by omega)]), (show (va_up (va_up S 15 sx) 20 sy) j = S j from by rw [va_up_ne _ _ (by omega), va_up_ne _ _ (by omega)])⟩) (((va_up_ne _ _ (by decide)).trans ((va_up_ne _ _ (by decide)).trans ((va_up_ne _ _ (by decide)).trans (va_up_self ..))))) (((va_up_ne _ _ (by decide)).trans ((va_up_ne _ _ (by decide)).trans (va_up_self ..)))) (((va_up_ne _ _ (by decide)).trans (va_up_self ..))) ((va_up_self ..)) (((va_up_ne _ _ (by decide)).trans (va_up_self ..))) ((va_up_self ..)) (meet_1 (by omega)) (meet_1 (by omega))
  · refine J_aload_n 1 d_D_reckon_35 rfl rfl ?_
    refine J_aload_n 1 d_D_reckon_36 rfl rfl ?_
    refine gf_D_18 (by omega) ((cF_0 (by decide)).trans hDk) rfl d_D_reckon_37 ?_
    refine J_callVvx cw_D_66 nh_D_makeNearestUnlessReal pn_D_makeNearestUnlessReal rfl rfl (by omega) ((cF_0 (by decide)).trans hDk) (As := [.ref (ad 15)]) (rest := []) rfl (Nat.le_of_ble_eq_true rfl) ⟨by decide, by decide⟩ rfl ⟨by decide, by decide⟩ d_D_reckon_40 (c_D_makeNearestUnlessReal hfl (F0 := F0) (W := va_up (va_up (va_up (va_up W 16 ux) 18 dx) 21 uy) 23 dy) (K := va_up (va_up K 15 kx) 20 ky) (S := va_up (va_up S 15 sx) 20 sy) (p := 15) (X := ux) (Y := dx) hN hW26 hDk (by decide) (by decide) (((va_up_ne _ _ (by decide)).trans ((va_up_ne _ _ (by decide)).trans ((va_up_ne _ _ (by decide)).trans (va_up_self ..))))) (((va_up_ne _ _ (by decide)).trans ((va_up_ne _ _ (by decide)).trans (va_up_self ..)))) hdx (by omega) (by omega) (by rw [show (va_up (va_up S 15 sx) 20 sy) 15 = sx from ((va_up_ne _ _ (by decide)).trans (va_up_self ..))]; omega) (by rw [show (va_up (va_up K 15 kx) 20 ky) 15 = kx from ((va_up_ne _ _ (by decide)).trans (va_up_self ..))]; omega)) (fun  F60 hq => ?_) (fun k9 F9 hq => by (obtain ⟨q1, q2, q3⟩ := hq; rw [show (va_up (va_up K 15 kx) 20 ky) 15 = kx from ((va_up_ne _ _ (by decide)).trans (va_up_self ..)), show (va_up (va_up S 15 sx) 20 sy) 15 = sx from ((va_up_ne _ _ (by decide)).trans (va_up_self ..))] at q2; exact Or.inr ⟨_, rfl, rfl, rfl, q1, by unfold reckF; rw [hkd, meet_2 (by omega) q2]; rfl, scr_t q3 (fun j hj => ⟨(show (va_up (va_up (va_up (va_up W 16 ux) 18 dx) 21 uy) 23 dy) j = W j from by rw [va_up_ne _ _ (by omega), va_up_ne _ _ (by omega), va_up_ne _ _ (by omega), va_up_ne _ _ (by omega)]), (show (va_up (va_up K 15 kx) 20 ky) j = K j from by rw [va_up_ne _ _ (by omega), va_up_ne _ _ (by omega)]), (show (va_up (va_up S 15 sx) 20 sy) j = S j from by rw [va_up_ne _ _ (by omega), va_up_ne _ _ (by omega)])⟩)⟩))
    obtain ⟨W51, s57, u58, d59, q52, q53, q54, q55, q56, eFn⟩ := hq
    rw [show (va_up (va_up K 15 kx) 20 ky) 15 = kx from ((va_up_ne _ _ (by decide)).trans (va_up_self ..)), show (va_up (va_up S 15 sx) 20 sy) 15 = sx from ((va_up_ne _ _ (by decide)).trans (va_up_self ..))] at q52
    have hL := meet_2 (k := kd0) (by omega) q52
    refine J_eqF (F2 := cF ad g F0 W51 (va_up (va_up K 15 2) 20 ky) (va_up (va_up S 15 s57) 20 sy)) ((eFn.trans (congrArg (fun qq => cF ad g F0 W51 qq (va_up (va_up (va_up S 15 sx) 20 sy) 15 s57)) (up_in1 (by decide)))).trans (congrArg (fun qq => cF ad g F0 W51 (va_up (va_up K 15 2) 20 ky) qq) (up_in1 (by decide)))) ?_
    refine J_aload_n 1 d_D_reckon_43 rfl rfl ?_
    refine J_aload_n 1 d_D_reckon_44 rfl rfl ?_
    refine gf_D_21 (by omega) ((cF_0 (by decide)).trans hDk) rfl d_D_reckon_45 ?_
    refine J_callVvx cw_D_66 nh_D_makeNearestUnlessReal pn_D_makeNearestUnlessReal rfl rfl (by omega) ((cF_0 (by decide)).trans hDk) (As := [.ref (ad 20)]) (rest := []) rfl (Nat.le_of_ble_eq_true rfl) ⟨by decide, by decide⟩ rfl ⟨by decide, by decide⟩ d_D_reckon_48 (c_D_makeNearestUnlessReal hfl (F0 := F0) (W := W51) (K := va_up (va_up K 15 2) 20 ky) (S := va_up (va_up S 15 s57) 20 sy) (p := 20) (X := uy) (Y := dy) hN q53 hDk (by decide) (by decide) (((q54 _ (by omega) (by omega) (by omega)).trans ((va_up_ne _ _ (by decide)).trans (va_up_self ..)))) (((q54 _ (by omega) (by omega) (by omega)).trans (va_up_self ..))) hdy (by omega) (by omega) (by rw [show (va_up (va_up S 15 s57) 20 sy) 20 = sy from (va_up_self ..)]; omega) (by rw [show (va_up (va_up K 15 2) 20 ky) 20 = ky from (va_up_self ..)]; omega)) (fun  F70 hq => ?_) (fun k9 F9 hq => by (obtain ⟨q1, q2, q3⟩ := hq; rw [show (va_up (va_up K 15 2) 20 ky) 20 = ky from (va_up_self ..), show (va_up (va_up S 15 s57) 20 sy) 20 = sy from (va_up_self ..)] at q2; exact Or.inr ⟨_, rfl, rfl, rfl, q1, by unfold reckF; rw [hkd, hL, Option.bind_some, meet_2 (by omega) q2]; rfl, scr_t q3 (fun j hj => ⟨((show (W51) j = W51 j from by rfl)).trans ((q54 j (by omega) (by omega) (by omega)).trans (by rw [va_up_ne _ _ (by omega), va_up_ne _ _ (by omega), va_up_ne _ _ (by omega), va_up_ne _ _ (by omega)])), (show (va_up (va_up K 15 2) 20 ky) j = K j from by rw [va_up_ne _ _ (by omega), va_up_ne _ _ (by omega)]), (show (va_up (va_up S 15 s57) 20 sy) j = S j from by rw [va_up_ne _ _ (by omega), va_up_ne _ _ (by omega)])⟩)⟩))
    obtain ⟨W61, s67, u68, d69, q62, q63, q64, q65, q66, eFn⟩ := hq
    rw [show (va_up (va_up K 15 2) 20 ky) 20 = ky from (va_up_self ..), show (va_up (va_up S 15 s57) 20 sy) 20 = sy from (va_up_self ..)] at q62
    have hR := meet_2 (k := kd0) (by omega) q62
    refine J_eqF (F2 := cF ad g F0 W61 (va_up (va_up K 15 2) 20 2) (va_up (va_up S 15 s57) 20 s67)) ((eFn.trans (congrArg (fun qq => cF ad g F0 W61 qq (va_up (va_up (va_up S 15 s57) 20 sy) 20 s67)) (up_in0))).trans (congrArg (fun qq => cF ad g F0 W61 (va_up (va_up K 15 2) 20 2) qq) (up_in0))) ?_
    refine J_pick (lv' := [(0, .ref (ad 9)), (1, .int (iI op)), (4, .int (iI kd0))]) [1, 2, 0] rfl ?_
    exact lab51 W61 (va_up (va_up K 15 2) 20 2) (va_up (va_up S 15 s57) 20 s67) s57 u58 d59 s67 u68 d69 q63 (fun j hj => ⟨((show (W61) j = W61 j from by rfl)).trans ((q64 j (by omega) (by omega) (by omega)).trans (((show (W51) j = W51 j from by rfl)).trans ((q54 j (by omega) (by omega) (by omega)).trans ((show (va_up (va_up (va_up (va_up W 16 ux) 18 dx) 21 uy) 23 dy) j = W j from by rw [va_up_ne _ _ (by omega), va_up_ne _ _ (by omega), va_up_ne _ _ (by omega), va_up_ne _ _ (by omega)]))))), (show (va_up (va_up K 15 2) 20 2) j = K j from by rw [va_up_ne _ _ (by omega), va_up_ne _ _ (by omega)]), (show (va_up (va_up S 15 s57) 20 s67) j = S j from by rw [va_up_ne _ _ (by omega), va_up_ne _ _ (by omega)])⟩) (((q64 _ (by omega) (by omega) (by omega)).trans q55)) (((q64 _ (by omega) (by omega) (by omega)).trans q56)) (q65) (q66) (((va_up_ne _ _ (by decide)).trans (va_up_self ..))) ((va_up_self ..)) hL hR
