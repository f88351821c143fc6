/-! the class's desk: operations that end in a number -/
def outOK (ad : Nat → Nat) (g : Nat → ClassId) (F0 : Nat → va_E) (W : Nat → Nat) (K S : Nat → Int) (r : Option (Int × Int × Nat × Nat)) (F' : Nat → va_E) : Prop :=
  ∃ (kd s : Int) (u d : Nat) (W' : Nat → Nat) (K' S' : Nat → Int), r = some (kd, s, u, d) ∧ bW W' ∧ (∀ j, (j < 10 ∨ 40 < j) → W' j = W j ∧ K' j = K j ∧ S' j = S j) ∧ K' 10 = kd ∧ S' 10 = s ∧ W' 11 = u ∧ W' 13 = d ∧ F' = cF ad g F0 W' K' S'
abbrev QD (ad : Nat → Nat) (N : Nat) (g : Nat → ClassId) (F0 : Nat → va_E) (W : Nat → Nat) (K S : Nat → Int) (r : Option (Int × Int × Nat × Nat)) : JQ :=
  jvx ad N (fun F' => outOK ad g F0 W K S r F') (fun k F' => k = 2 ∧ r = none ∧ scr ad g F0 W K S F')
theorem d_settle {l : Launch} (hfl : l.flags = flags0) {D : va_G} {g : Nat → ClassId} {ad : Nat → Nat} {N : Nat} {F0 : Nat → va_E} {W1 W : Nat → Nat} {K1 S1 K S : Nat → Int} {X Y : Nat} {kd s : Int} (hN : 109 ≤ N) (hW : bW W1) (hDk : F0 9 = oD ad) (hX : W1 11 = X) (hY : W1 13 = Y) (hS : S1 10 = s) (hY0 : 0 < Y) (hXb : X < 2 ^ 310) (hYb : Y < 2 ^ 310) (hs : -1 ≤ s ∧ s ≤ 1) (hkd : 0 ≤ kd ∧ kd ≤ 2) (hk0 : kd = 0 → Y = 1)
    (hf : ∀ j, (j < 10 ∨ 40 < j) → W1 j = W j ∧ K1 j = K j ∧ S1 j = S j) :
    JC l y_D_settle b_D_settle 2 (Option.none : Option Jvm.ClassFile.FieldType) rm_D_settle (0, 0) D jCl (jTys g) ad N (cF ad g F0 W1 K1 S1) [.ref (ad 9), .int (iI kd)] (QD ad N g F0 W K S (fin kd s X Y)) := by
  subst hS
  refine JC.mono (c_D_settle hfl hN hW hDk hX hY hY0 hXb hYb hs hkd hk0) ?_
  rintro o ad' N' F' (⟨r1, r2, r3, W', kd', s', u, d, q1, q2, q3, q4, q5, q6⟩ | ⟨k, r1, r2, r3, r4, r5, r6⟩)
  · refine Or.inl ⟨r1, r2, r3, kd', s', u, d, W', _, _, q1, q2, fun j hj => ⟨(q3 j (by omega) (by omega) (by omega) (by omega) (by omega)).trans (hf j hj).1, ?_, ?_⟩, va_up_self .., va_up_self .., q4, q5, q6⟩
    · rw [va_up_ne _ _ (by omega)]; exact (hf j hj).2.1
    · rw [va_up_ne _ _ (by omega)]; exact (hf j hj).2.2
  · exact Or.inr ⟨k, r1, r2, r3, r4, r5, scr_t r6 hf⟩
theorem d_near {l : Launch} (hfl : l.flags = flags0) {D : va_G} {g : Nat → ClassId} {ad : Nat → Nat} {N : Nat} {F0 : Nat → va_E} {W1 W : Nat → Nat} {K1 S1 K S : Nat → Int} {X Y : Nat} {s : Int} (hN : 109 ≤ N) (hW : bW W1) (hDk : F0 9 = oD ad) (hX : W1 11 = X) (hY : W1 13 = Y) (hS : S1 10 = s) (hY0 : 0 < Y) (hXb : X < 2 ^ 310) (hYb : Y < 2 ^ 310) (hs : -1 ≤ s ∧ s ≤ 1)
    (hf : ∀ j, (j < 10 ∨ 40 < j) → W1 j = W j ∧ K1 j = K j ∧ S1 j = S j) :
    JC l y_D_makeNearest b_D_makeNearest 14 (Option.none : Option Jvm.ClassFile.FieldType) rm_D_makeNearest (0, 0) D jCl (jTys g) ad N (cF ad g F0 W1 K1 S1) [.ref (ad 9), .ref (ad 10)] (QD ad N g F0 W K S (near s X Y)) := by
  subst hS
  refine JC.mono (c_D_makeNearest hfl (p := 10) hN hW hDk (by decide) (by decide) hX hY hY0 hXb hYb hs) ?_
  rintro o ad' N' F' (⟨r1, r2, r3, W', s', u, d, q1, q2, q3, q4, q5, q6⟩ | ⟨k, r1, r2, r3, r4, r5, r6⟩)
  · refine Or.inl ⟨r1, r2, r3, 2, s', u, d, W', _, _, q1, q2, fun j hj => ⟨(q3 j (by omega) (by omega) (by omega)).trans (hf j hj).1, ?_, ?_⟩, va_up_self .., va_up_self .., q4, q5, q6⟩
    · rw [va_up_ne _ _ (by omega)]; exact (hf j hj).2.1
    · rw [va_up_ne _ _ (by omega)]; exact (hf j hj).2.2
  · exact Or.inr ⟨k, r1, r2, r3, r4, r5, scr_t r6 hf⟩
/-- the first operand of an operation, as it is taken -/
def meetN (k kx s : Int) (u d : Nat) : Option (Int × Int × Nat × Nat) := if k = 2 ∧ kx ≠ 2 then near s u d else some (2, s, u, d)
def opF (op k sl : Int) (ul dl : Nat) (sr : Int) (ur dr : Nat) : Option (Int × Int × Nat × Nat) :=
  if op = 0 then fin k (addS sl sr (ul * dr) (ur * dl)) (addM sl sr (ul * dr) (ur * dl)) (dl * dr)
  else if op = 1 then fin k (addS sl (-sr) (ul * dr) (ur * dl)) (addM sl (-sr) (ul * dr) (ur * dl)) (dl * dr)
  else if op = 2 then fin k (sl * sr) (ul * ur) (dl * dr)
  else if op = 3 then fin (if k = 0 then 2 else k) (sl * sr) (ul * dr) (dl * ur)
  else if op = 4 then fin (if k = 1 then 0 else k) (sl * sr) (flq (sl * sr) (ul * dr) (dl * ur)) 1
  else fin k sr (flr (sl * sr) (ul * dr) (dl * ur)) (dl * dr)
def reckF (op kx sx : Int) (ux dx : Nat) (ky sy : Int) (uy dy : Nat) : Option (Int × Int × Nat × Nat) :=
  (meetN (max kx ky) kx sx ux dx).bind fun L => (meetN (max kx ky) ky sy uy dy).bind fun R => opF op (max kx ky) L.2.1 L.2.2.1 L.2.2.2 R.2.1 R.2.2.1 R.2.2.2
def turnF (what kx sx : Int) (ux dx : Nat) : Option (Int × Int × Nat × Nat) := (if what = 0 then fin 0 sx (ux / dx) 1 else if what = 1 then fin 1 sx ux dx else if what = 2 then near sx ux dx else if what = 3 then some (kx, -sx, ux, dx) else some (kx, sx.natAbs, ux, dx))
def rndF (kx sx : Int) (ux dx : Nat) (n : Int) : Option (Int × Int × Nat × Nat) :=
  let p : Int := if kx = 0 then min n 0 else n
  let a := ux * 10 ^ p.toNat
  let b := dx * 10 ^ (-p).toNat
  fin kx sx (rnd (a / b) (a % b) b * 10 ^ (-p).toNat) (1 * 10 ^ p.toNat)
set_option maxRecDepth 100000 in
set_option maxHeartbeats 4000000 in
theorem c_D_roundTo {l : Launch} (hfl : l.flags = flags0) {D : va_G} {g : Nat → ClassId} {ad : Nat → Nat} {N : Nat} {F0 : Nat → va_E} {W : Nat → Nat} {K S : Nat → Int} {x ux dx : Nat} {kx sx : Int} {n : Int}
    (hN : 109 ≤ N) (hW : bW W) (hDk : F0 9 = oD ad) (hxp : isU x) (hx2 : x = 2 ∨ 58 ≤ x) (hx1 : W (x + 1) = ux) (hx3 : W (x + 3) = dx) (hxk : K x = kx) (hxs : S x = sx) (hxr : -1 ≤ sx ∧ sx ≤ 1 ∧ -1 ≤ kx ∧ kx ≤ 2) (hxb : ux < 2 ^ 154 ∧ dx < 2 ^ 154) (hn : -20 ≤ n ∧ n ≤ 20) (hdx : 0 < dx) (hk0 : 0 ≤ kx) (hw : kx = 0 → dx = 1) :
    JC l y_D_roundTo b_D_roundTo 4 (Option.none : Option Jvm.ClassFile.FieldType) rm_D_roundTo (0, 0) D jCl (jTys g) ad N (cF ad g F0 W K S) [.ref (ad 9), .ref (ad x), .int (iI n)] (QD ad N g F0 W K S (rndF kx sx ux dx n)) := by
  obtain ⟨pl, hpl⟩ : ∃ p : Int, p = if kx = 0 then min n 0 else n := ⟨_, rfl⟩
  have hx4 := (isU_1 hxp).1
  have hplr : -20 ≤ pl ∧ pl ≤ 20 := by rw [hpl]; split <;> omega
  have ht1 : 10 ^ pl.toNat ≤ 10 ^ 20 := Nat.pow_le_pow_right (by decide) (by omega)
  have ht2 : 10 ^ (-pl).toNat ≤ 10 ^ 20 := Nat.pow_le_pow_right (by decide) (by omega)
  have hp1 : 0 < 10 ^ pl.toNat := Nat.pow_pos (by decide)
  have hp2 : 0 < 10 ^ (-pl).toNat := Nat.pow_pos (by decide)
  have ha1 : ux * 10 ^ pl.toNat < 2 ^ 225 := Nat.lt_of_lt_of_le (Nat.mul_lt_mul_of_lt_of_le hxb.1 ht1 (by decide)) (by decide)
  have hb1 : dx * 10 ^ (-pl).toNat < 2 ^ 225 := Nat.lt_of_lt_of_le (Nat.mul_lt_mul_of_lt_of_le hxb.2 ht2 (by decide)) (by decide)
  obtain ⟨a, ha⟩ : ∃ a, a = ux * 10 ^ pl.toNat := ⟨_, rfl⟩
  obtain ⟨b, hb⟩ : ∃ b, b = dx * 10 ^ (-pl).toNat := ⟨_, rfl⟩
  rw [← ha] at ha1
  rw [← hb] at hb1
  have hb0 : 0 < b := by rw [hb]; exact Nat.mul_pos hdx hp2
  have hqa := Nat.div_le_self a b
  have hra := Nat.mod_le a b
  obtain ⟨q, hq0⟩ : ∃ q, q = rnd (a / b) (a % b) b := ⟨_, rfl⟩
  have hqb : q < 2 ^ 226 := by rw [hq0]; unfold rnd; split <;> omega
  have hqt : q * 10 ^ (-pl).toNat < 2 ^ 300 := Nat.lt_of_lt_of_le (Nat.mul_lt_mul_of_lt_of_le hqb ht2 (by decide)) (by decide)
  have h1t : 1 * 10 ^ pl.toNat < 2 ^ 300 := by
    rw [Nat.one_mul]
    exact Nat.lt_of_le_of_lt ht1 (by decide)
  have hr : rndF kx sx ux dx n = fin kx sx (q * 10 ^ (-pl).toNat) (1 * 10 ^ pl.toNat) := by rw [hq0, ha, hb, hpl]; rfl
  refine JC.go hfl (own := "NumberTower$Desk") (lv := [(0, .ref (ad 9)), (1, .ref (ad x)), (2, .int (iI n))]) rfl (by decide +kernel) (Nat.le_of_ble_eq_true rfl) rfl (fun A => ?_)
  refine J_aload_n 1 d_D_roundTo_0 rfl rfl ?_
  refine gf_D_52 (by omega) (cF_U hxp hxk hxs) rfl d_D_roundTo_1 ?_
  have lab16 : J l rm_D_roundTo (0, 0) "NumberTower$Desk" b_D_roundTo 4 (Option.none : Option Jvm.ClassFile.FieldType) D jCl (jTys g) A (fun _ me => me.name = y_D_roundTo.name) (QD ad N g F0 W K S (rndF kx sx ux dx n)) ad N 0 0 16 [(0, .ref (ad 9)), (1, .ref (ad x)), (2, .int (iI n))] [.int (iI pl)] (cF ad g F0 W K S) := by
    refine J_istore_n (lv' := [(3, .int (iI pl)), (0, .ref (ad 9)), (1, .ref (ad x)), (2, .int (iI n))]) d_D_roundTo_16 rfl (by decide) rfl ?_
    refine J_aload_n 1 d_D_roundTo_17 rfl rfl ?_
    refine gf_D_12 (by omega) ((cF_0 (by decide)).trans hDk) rfl d_D_roundTo_18 ?_
    refine J_aload_n 2 d_D_roundTo_21 rfl rfl ?_
    refine J_callVv cw_D_62 nh_U_become pn_U_become rfl rfl (by omega) (cF_U (by decide) rfl rfl) (As := [.ref (ad x)]) (rest := []) rfl (Nat.le_of_ble_eq_true rfl) ⟨by decide, by decide⟩ rfl ⟨by decide, by decide⟩ d_D_roundTo_22 (u_become hfl (F0 := F0) (W := W) (K := K) (S := S) (k := 10) (p := x) (by omega) hW (by decide) hxp (by omega)) (fun  F1 hq => ?_)
    obtain ⟨hWb, eFb⟩ := hq
    rw [show (W) (x + 1) = ux from hx1, show (W) (x + 3) = dx from hx3] at hWb eFb
    rw [show (K) x = kx from hxk, show (S) x = sx from hxs] at eFb
    have hW2 := hWb
    have eB3 := eFb
    refine J_eqF (F2 := cF ad g F0 (va_up (va_up W 11 ux) 13 dx) (va_up K 10 kx) (va_up S 10 sx)) eB3 ?_
    refine J_aload_n 1 d_D_roundTo_25 rfl rfl ?_
    refine gf_D_12 (by omega) ((cF_0 (by decide)).trans hDk) rfl d_D_roundTo_26 ?_
    refine gf_D_76 (by omega) (cF_U (by decide) (va_up_self ..) (va_up_self ..)) rfl d_D_roundTo_29 ?_
    refine J_iload_n 0 d_D_roundTo_32 rfl rfl ?_
    refine J_callVv cw_D_183 nh_N_scaleTens pn_N_scaleTens rfl rfl (by omega) (cF_N (by decide) ((va_up_ne _ _ (by decide)).trans (va_up_self ..))) (As := [.int (iI pl)]) (rest := []) rfl (Nat.le_of_ble_eq_true rfl) ⟨by decide, by decide⟩ rfl ⟨by decide, by decide⟩ d_D_roundTo_33 (n_scaleTens hfl (F0 := F0) (W := va_up (va_up W 11 ux) 13 dx) (K := va_up K 10 kx) (S := va_up S 10 sx) (k := 11) (n := pl) (hN := by omega) (hW := hW2) (hk := (by decide)) (x := ux) (hx := ((va_up_ne _ _ (by decide)).trans (va_up_self ..))) (hn := by omega) (ht := Nat.lt_trans (ha ▸ ha1) (by decide))) (fun  F7 hq => ?_)
    obtain ⟨hW5, eF6⟩ := hq
    have hW8 := (congrArg bW (up_in1 (by decide))).mp hW5
    refine J_eqF (F2 := cF ad g F0 (va_up (va_up W 11 (ux * 10 ^ pl.toNat)) 13 dx) (va_up K 10 kx) (va_up S 10 sx)) (eF6.trans (congrArg (fun qq => cF ad g F0 qq (va_up K 10 kx) (va_up S 10 sx)) (up_in1 (by decide)))) ?_
    refine J_aload_n 1 d_D_roundTo_36 rfl rfl ?_
    refine gf_D_12 (by omega) ((cF_0 (by decide)).trans hDk) rfl d_D_roundTo_37 ?_
    refine gf_D_79 (by omega) (cF_U (by decide) (va_up_self ..) (va_up_self ..)) rfl d_D_roundTo_40 ?_
    refine J_iload_n 0 d_D_roundTo_43 rfl rfl ?_
    refine J_ineg d_D_roundTo_44 ?_
    refine J_callVv cw_D_183 nh_N_scaleTens pn_N_scaleTens rfl rfl (by omega) (cF_N (by decide) (va_up_self ..)) (As := [.int (iI (-pl))]) (rest := []) rfl (Nat.le_of_ble_eq_true rfl) ⟨by decide, by decide⟩ rfl ⟨by decide, by decide⟩ d_D_roundTo_45 (n_scaleTens hfl (F0 := F0) (W := va_up (va_up W 11 (ux * 10 ^ pl.toNat)) 13 dx) (K := va_up K 10 kx) (S := va_up S 10 sx) (k := 13) (n := -pl) (hN := by omega) (hW := hW8) (hk := (by decide)) (x := dx) (hx := (va_up_self ..)) (hn := by omega) (ht := Nat.lt_trans (hb ▸ hb1) (by decide))) (fun  F12 hq => ?_)
    obtain ⟨hW10, eF11⟩ := hq
    have hW13 := (congrArg bW (up_in0)).mp hW10
    refine J_eqF (F2 := cF ad g F0 (va_up (va_up W 11 (ux * 10 ^ pl.toNat)) 13 (dx * 10 ^ ((-pl).toNat))) (va_up K 10 kx) (va_up S 10 sx)) (eF11.trans (congrArg (fun qq => cF ad g F0 qq (va_up K 10 kx) (va_up S 10 sx)) (up_in0))) ?_
    have hW14 := (congrArg (fun qq : Nat => bW (va_up (va_up W 11 qq) 13 (dx * 10 ^ ((-pl).toNat)))) (show ux * 10 ^ pl.toNat = a from ha.symm)).mp hW13
    refine J_eqF (F2 := cF ad g F0 (va_up (va_up W 11 a) 13 (dx * 10 ^ ((-pl).toNat))) (va_up K 10 kx) (va_up S 10 sx)) (congrArg (fun qq : Nat => cF ad g F0 (va_up (va_up W 11 qq) 13 (dx * 10 ^ ((-pl).toNat))) (va_up K 10 kx) (va_up S 10 sx)) (show ux * 10 ^ pl.toNat = a from ha.symm)) ?_
    have hW15 := (congrArg (fun qq : Nat => bW (va_up (va_up W 11 a) 13 qq)) (show dx * 10 ^ ((-pl).toNat) = b from hb.symm)).mp hW14
    refine J_eqF (F2 := cF ad g F0 (va_up (va_up W 11 a) 13 b) (va_up K 10 kx) (va_up S 10 sx)) (congrArg (fun qq : Nat => cF ad g F0 (va_up (va_up W 11 a) 13 qq) (va_up K 10 kx) (va_up S 10 sx)) (show dx * 10 ^ ((-pl).toNat) = b from hb.symm)) ?_
    refine J_aload_n 1 d_D_roundTo_48 rfl rfl ?_
    refine gf_D_12 (by omega) ((cF_0 (by decide)).trans hDk) rfl d_D_roundTo_49 ?_
    refine gf_D_76 (by omega) (cF_U (by decide) (va_up_self ..) (va_up_self ..)) rfl d_D_roundTo_52 ?_
    refine J_aload_n 1 d_D_roundTo_55 rfl rfl ?_
    refine gf_D_12 (by omega) ((cF_0 (by decide)).trans hDk) rfl d_D_roundTo_56 ?_
    refine gf_D_79 (by omega) (cF_U (by decide) (va_up_self ..) (va_up_self ..)) rfl d_D_roundTo_59 ?_
    refine J_aload_n 1 d_D_roundTo_62 rfl rfl ?_
    refine gf_D_27 (by omega) ((cF_0 (by decide)).trans hDk) rfl d_D_roundTo_63 ?_
    refine J_callVv cw_D_117 nh_N_divide pn_N_divide rfl rfl (by omega) (cF_N (by decide) ((va_up_ne _ _ (by decide)).trans (va_up_self ..))) (As := [.ref (ad 13), .ref (ad 25)]) (rest := []) rfl (Nat.le_of_ble_eq_true rfl) ⟨by decide, by decide⟩ rfl ⟨by decide, by decide⟩ d_D_roundTo_66 (n_divide hfl (F0 := F0) (W := va_up (va_up W 11 a) 13 b) (K := va_up K 10 kx) (S := va_up S 10 sx) (k := 11) (m := 13) (p := 25) (hN := by omega) (hW := hW15) (hk := (by decide)) (hm := (by decide)) (hp := (by decide)) (x := a) (hx := ((va_up_ne _ _ (by decide)).trans (va_up_self ..))) (y := b) (hy := (va_up_self ..)) (hd := (by decide)) (hd1 := (by decide)) (hd2 := (by decide)) (hx4 := Nat.lt_trans ha1 (by decide)) (hy4 := Nat.lt_trans hb1 (by decide))) (fun  F19 hq => ?_)
    obtain ⟨hW17, eF18⟩ := hq
    have hW20 := (congrArg bW (up_in2 (by decide) (by decide))).mp hW17
    refine J_eqF (F2 := cF ad g F0 (va_up (va_up (va_up W 11 (a % b)) 13 b) 25 (a / b)) (va_up K 10 kx) (va_up S 10 sx)) (eF18.trans (congrArg (fun qq => cF ad g F0 qq (va_up K 10 kx) (va_up S 10 sx)) (up_in2 (by decide) (by decide)))) ?_
    refine J_aload_n 1 d_D_roundTo_69 rfl rfl ?_
    refine gf_D_27 (by omega) ((cF_0 (by decide)).trans hDk) rfl d_D_roundTo_70 ?_
    refine J_aload_n 1 d_D_roundTo_73 rfl rfl ?_
    refine gf_D_12 (by omega) ((cF_0 (by decide)).trans hDk) rfl d_D_roundTo_74 ?_
    refine gf_D_76 (by omega) (cF_U (by decide) (va_up_self ..) (va_up_self ..)) rfl d_D_roundTo_77 ?_
    refine J_aload_n 1 d_D_roundTo_80 rfl rfl ?_
    refine gf_D_12 (by omega) ((cF_0 (by decide)).trans hDk) rfl d_D_roundTo_81 ?_
    refine gf_D_79 (by omega) (cF_U (by decide) (va_up_self ..) (va_up_self ..)) rfl d_D_roundTo_84 ?_
    refine J_callVv cw_D_186 nh_N_roundBy pn_N_roundBy rfl rfl (by omega) (cF_N (by decide) (va_up_self ..)) (As := [.ref (ad 11), .ref (ad 13)]) (rest := []) rfl (Nat.le_of_ble_eq_true rfl) ⟨by decide, by decide⟩ rfl ⟨by decide, by decide⟩ d_D_roundTo_87 (n_roundBy hfl (F0 := F0) (W := va_up (va_up (va_up W 11 (a % b)) 13 b) 25 (a / b)) (K := va_up K 10 kx) (S := va_up S 10 sx) (k := 25) (p := 11) (m := 13) (hN := by omega) (hW := hW20) (hk := (by decide)) (hp := (by decide)) (hm := (by decide)) (x := a / b) (hx := (va_up_self ..)) (r := a % b) (hr := ((va_up_ne _ _ (by decide)).trans ((va_up_ne _ _ (by decide)).trans (va_up_self ..)))) (y := b) (hy := ((va_up_ne _ _ (by decide)).trans (va_up_self ..))) (hd0 := (by decide)) (hd1 := (by decide)) (hd2 := (by decide)) (hr4 := by omega) (hq1 := by omega)) (fun  F24 hq => ?_)
    obtain ⟨hW22, eF23⟩ := hq
    have hW25 := (congrArg bW (Eq.trans (congrArg (fun qq : Nat → Nat => va_up qq 25 (rnd (a / b) (a % b) b)) (up_in2 (by decide) (by decide))) (up_in0))).mp hW22
    refine J_eqF (F2 := cF ad g F0 (va_up (va_up (va_up W 11 ((a % b) * 2)) 13 b) 25 (rnd (a / b) (a % b) b)) (va_up K 10 kx) (va_up S 10 sx)) (eF23.trans (congrArg (fun qq => cF ad g F0 qq (va_up K 10 kx) (va_up S 10 sx)) (Eq.trans (congrArg (fun qq : Nat → Nat => va_up qq 25 (rnd (a / b) (a % b) b)) (up_in2 (by decide) (by decide))) (up_in0)))) ?_
    have hW26 := (congrArg (fun qq : Nat => bW (va_up (va_up (va_up W 11 ((a % b) * 2)) 13 b) 25 qq)) (show rnd (a / b) (a % b) b = q from hq0.symm)).mp hW25
    refine J_eqF (F2 := cF ad g F0 (va_up (va_up (va_up W 11 ((a % b) * 2)) 13 b) 25 q) (va_up K 10 kx) (va_up S 10 sx)) (congrArg (fun qq : Nat => cF ad g F0 (va_up (va_up (va_up W 11 ((a % b) * 2)) 13 b) 25 qq) (va_up K 10 kx) (va_up S 10 sx)) (show rnd (a / b) (a % b) b = q from hq0.symm)) ?_
    refine J_aload_n 1 d_D_roundTo_90 rfl rfl ?_
    refine gf_D_12 (by omega) ((cF_0 (by decide)).trans hDk) rfl d_D_roundTo_91 ?_
    refine gf_D_76 (by omega) (cF_U (by decide) (va_up_self ..) (va_up_self ..)) rfl d_D_roundTo_94 ?_
    refine J_aload_n 1 d_D_roundTo_97 rfl rfl ?_
    refine gf_D_27 (by omega) ((cF_0 (by decide)).trans hDk) rfl d_D_roundTo_98 ?_
    refine J_callVv cw_D_89 nh_N_copyFrom pn_N_copyFrom rfl rfl (by omega) (cF_N (by decide) ((va_up_ne _ _ (by decide)).trans ((va_up_ne _ _ (by decide)).trans (va_up_self ..)))) (As := [.ref (ad 25)]) (rest := []) rfl (Nat.le_of_ble_eq_true rfl) ⟨by decide, by decide⟩ rfl ⟨by decide, by decide⟩ d_D_roundTo_101 (n_copyFrom hfl (F0 := F0) (W := va_up (va_up (va_up W 11 ((a % b) * 2)) 13 b) 25 q) (K := va_up K 10 kx) (S := va_up S 10 sx) (k := 11) (m := 25) (hN := by omega) (hW := hW26) (hk := (by decide)) (hm := (by decide)) (x := q) (hx := (va_up_self ..)) (hd := (by decide))) (fun  F30 hq => ?_)
    obtain ⟨hW28, eF29⟩ := hq
    have hW31 := (congrArg bW (up_in2 (by decide) (by decide))).mp hW28
    refine J_eqF (F2 := cF ad g F0 (va_up (va_up (va_up W 11 q) 13 b) 25 q) (va_up K 10 kx) (va_up S 10 sx)) (eF29.trans (congrArg (fun qq => cF ad g F0 qq (va_up K 10 kx) (va_up S 10 sx)) (up_in2 (by decide) (by decide)))) ?_
    refine J_aload_n 1 d_D_roundTo_104 rfl rfl ?_
    refine gf_D_12 (by omega) ((cF_0 (by decide)).trans hDk) rfl d_D_roundTo_105 ?_
    refine gf_D_79 (by omega) (cF_U (by decide) (va_up_self ..) (va_up_self ..)) rfl d_D_roundTo_108 ?_
    refine J_lconst (v := 1) d_D_roundTo_111 rfl ?_
    refine J_callVv cw_D_93 nh_N_set pn_N_set rfl rfl (by omega) (cF_N (by decide) ((va_up_ne _ _ (by decide)).trans (va_up_self ..))) (As := [.long (lI 1)]) (rest := []) rfl (Nat.le_of_ble_eq_true rfl) ⟨by decide, by decide⟩ rfl ⟨by decide, by decide⟩ d_D_roundTo_112 (n_set hfl (F0 := F0) (W := va_up (va_up (va_up W 11 q) 13 b) 25 q) (K := va_up K 10 kx) (S := va_up S 10 sx) (k := 13) (n := 1) (hN := by omega) (hW := hW31) (hk := (by decide)) (hn := by decide)) (fun  F35 hq => ?_)
    obtain ⟨hW33, eF34⟩ := hq
    have hW36 := (congrArg bW (up_in1 (by decide))).mp hW33
    refine J_eqF (F2 := cF ad g F0 (va_up (va_up (va_up W 11 q) 13 1) 25 q) (va_up K 10 kx) (va_up S 10 sx)) (eF34.trans (congrArg (fun qq => cF ad g F0 qq (va_up K 10 kx) (va_up S 10 sx)) (up_in1 (by decide)))) ?_
    refine J_aload_n 1 d_D_roundTo_115 rfl rfl ?_
    refine gf_D_12 (by omega) ((cF_0 (by decide)).trans hDk) rfl d_D_roundTo_116 ?_
    refine gf_D_79 (by omega) (cF_U (by decide) (va_up_self ..) (va_up_self ..)) rfl d_D_roundTo_119 ?_
    refine J_iload_n 0 d_D_roundTo_122 rfl rfl ?_
    refine J_callVv cw_D_183 nh_N_scaleTens pn_N_scaleTens rfl rfl (by omega) (cF_N (by decide) ((va_up_ne _ _ (by decide)).trans (va_up_self ..))) (As := [.int (iI pl)]) (rest := []) rfl (Nat.le_of_ble_eq_true rfl) ⟨by decide, by decide⟩ rfl ⟨by decide, by decide⟩ d_D_roundTo_123 (n_scaleTens hfl (F0 := F0) (W := va_up (va_up (va_up W 11 q) 13 1) 25 q) (K := va_up K 10 kx) (S := va_up S 10 sx) (k := 13) (n := pl) (hN := by omega) (hW := hW36) (hk := (by decide)) (x := 1) (hx := ((va_up_ne _ _ (by decide)).trans (va_up_self ..))) (hn := by omega) (ht := Nat.lt_trans h1t (by decide))) (fun  F40 hq => ?_)
    obtain ⟨hW38, eF39⟩ := hq
    have hW41 := (congrArg bW (up_in1 (by decide))).mp hW38
    refine J_eqF (F2 := cF ad g F0 (va_up (va_up (va_up W 11 q) 13 (1 * 10 ^ pl.toNat)) 25 q) (va_up K 10 kx) (va_up S 10 sx)) (eF39.trans (congrArg (fun qq => cF ad g F0 qq (va_up K 10 kx) (va_up S 10 sx)) (up_in1 (by decide)))) ?_
    refine J_aload_n 1 d_D_roundTo_126 rfl rfl ?_
    refine gf_D_12 (by omega) ((cF_0 (by decide)).trans hDk) rfl d_D_roundTo_127 ?_
    refine gf_D_76 (by omega) (cF_U (by decide) (va_up_self ..) (va_up_self ..)) rfl d_D_roundTo_130 ?_
    refine J_iload_n 0 d_D_roundTo_133 rfl rfl ?_
    refine J_ineg d_D_roundTo_134 ?_
    refine J_callVv cw_D_183 nh_N_scaleTens pn_N_scaleTens rfl rfl (by omega) (cF_N (by decide) ((va_up_ne _ _ (by decide)).trans ((va_up_ne _ _ (by decide)).trans (va_up_self ..)))) (As := [.int (iI (-pl))]) (rest := []) rfl (Nat.le_of_ble_eq_true rfl) ⟨by decide, by decide⟩ rfl ⟨by decide, by decide⟩ d_D_roundTo_135 (n_scaleTens hfl (F0 := F0) (W := va_up (va_up (va_up W 11 q) 13 (1 * 10 ^ pl.toNat)) 25 q) (K := va_up K 10 kx) (S := va_up S 10 sx) (k := 11) (n := -pl) (hN := by omega) (hW := hW41) (hk := (by decide)) (x := q) (hx := ((va_up_ne _ _ (by decide)).trans ((va_up_ne _ _ (by decide)).trans (va_up_self ..)))) (hn := by omega) (ht := Nat.lt_trans hqt (by decide))) (fun  F45 hq => ?_)
    obtain ⟨hW43, eF44⟩ := hq
    have hW46 := (congrArg bW (up_in2 (by decide) (by decide))).mp hW43
    refine J_eqF (F2 := cF ad g F0 (va_up (va_up (va_up W 11 (q * 10 ^ ((-pl).toNat))) 13 (1 * 10 ^ pl.toNat)) 25 q) (va_up K 10 kx) (va_up S 10 sx)) (eF44.trans (congrArg (fun qq => cF ad g F0 qq (va_up K 10 kx) (va_up S 10 sx)) (up_in2 (by decide) (by decide)))) ?_
    refine J_aload_n 1 d_D_roundTo_138 rfl rfl ?_
    refine J_aload_n 2 d_D_roundTo_139 rfl rfl ?_
    refine gf_D_52 (by omega) (cF_U hxp ((va_up_ne _ _ (by omega)).trans hxk) ((va_up_ne _ _ (by omega)).trans hxs)) rfl d_D_roundTo_140 ?_
    have hxx := hx4
    refine J_callVvx cw_D_101 nh_D_settle pn_D_settle rfl rfl (by omega) ((cF_0 (by decide)).trans hDk) (As := [.int (iI kx)]) (rest := []) rfl (Nat.le_of_ble_eq_true rfl) ⟨by decide, by decide⟩ rfl ⟨by decide, by decide⟩ d_D_roundTo_143 (d_settle hfl (F0 := F0) (W1 := va_up (va_up (va_up W 11 (q * 10 ^ ((-pl).toNat))) 13 (1 * 10 ^ pl.toNat)) 25 q) (K1 := va_up K 10 kx) (S1 := va_up S 10 sx) (W := W) (K := K) (S := S) (X := q * 10 ^ ((-pl).toNat)) (Y := 1 * 10 ^ pl.toNat) (kd := kx) (s := sx) hN hW46 hDk (((va_up_ne _ _ (by decide)).trans ((va_up_ne _ _ (by decide)).trans (va_up_self ..)))) (((va_up_ne _ _ (by decide)).trans (va_up_self ..))) ((va_up_self ..)) (by omega) (Nat.lt_trans hqt (by decide)) (Nat.lt_trans h1t (by decide)) ⟨by omega, by omega⟩ ⟨by omega, by omega⟩ (fun e => by rw [show pl.toNat = 0 by rw [hpl, if_pos e]; omega]) (fun j hj => ⟨(show (va_up (va_up (va_up W 11 (q * 10 ^ ((-pl).toNat))) 13 (1 * 10 ^ pl.toNat)) 25 q) j = W j from by rw [va_up_ne _ _ (by omega), va_up_ne _ _ (by omega), va_up_ne _ _ (by omega)]), (show (va_up K 10 kx) j = K j from by rw [va_up_ne _ _ (by omega)]), (show (va_up S 10 sx) j = S j from by rw [va_up_ne _ _ (by omega)])⟩)) (fun  F47 hq => ?_) (fun k9 F9 hq => by (rw [← hr] at hq; exact Or.inr ⟨_, rfl, rfl, rfl, hq⟩))
    obtain hq := hq
    refine J_vret rfl d_D_roundTo_146 ⟨by decide, by decide⟩ ?_
    rw [← hr] at hq
    exact Or.inl ⟨rfl, rfl, rfl, hq⟩
  refine J_ifne (tgt := 15) d_D_roundTo_4 (by decide) ⟨by omega, by omega⟩ (fun c4 => ?_) (fun c4 => ?_)
  · refine J_iload_n 2 d_D_roundTo_15 rfl rfl ?_
    refine J_topi (r := pl) (congrArg iI (by rw [hpl, if_neg (by omega)])) ?_
    exact lab16  
  · refine J_iload_n 2 d_D_roundTo_7 rfl rfl ?_
    refine J_iconst d_D_roundTo_8 ?_
    refine J_callSi cw_D_180 nh_JMath_min pn_JMath_min rfl (As := [.int (iI n), .int (iI 0)]) (rest := []) rfl (Nat.le_of_ble_eq_true rfl) ⟨by decide, by decide⟩ rfl ⟨by decide, by decide⟩ d_D_roundTo_9 (c_JMath_min hfl ⟨by omega, by omega⟩ ⟨by omega, by omega⟩) (fun mn F1 hq => ?_)
    obtain ⟨hmin, eF1⟩ := hq
    refine J_eqF eF1 ?_
    refine J_goto (tgt := 16) d_D_roundTo_12 (by decide) ?_
    refine J_topi (r := pl) (congrArg iI (by rw [hpl, if_pos (by omega)]; omega)) ?_
    exact lab16  
set_option maxRecDepth 100000 in
set_option maxHeartbeats 4000000 in
theorem c_D_finishSum {l : Launch} (hfl : l.flags = flags0) {D : va_G} {g : Nat → ClassId} {ad : Nat → Nat} {N : Nat} {F0 : Nat → va_E} {W : Nat → Nat} {K S : Nat → Int} {a b : Nat}
    (hN : 109 ≤ N) (hW : bW W) (hDk : F0 9 = oD ad) (h27 : W 27 = a) (h29 : W 29 = b) (hab : a < 2 ^ 310 ∧ b < 2 ^ 310) :
    JC l y_D_finishSum b_D_finishSum 1 (Option.none : Option Jvm.ClassFile.FieldType) rm_D_finishSum (0, 0) D jCl (jTys g) ad N (cF ad g F0 W K S) [.ref (ad 9)] (QD ad N g F0 W K S (fin 2 (if b ≤ a then 1 else -1) (if b ≤ a then a - b else b - a) (1 * 2 ^ (152 : Int).toNat))) := by
  refine JC.go hfl (own := "NumberTower$Desk") (lv := [(0, .ref (ad 9))]) rfl (by decide +kernel) (Nat.le_of_ble_eq_true rfl) rfl (fun A => ?_)
  refine J_aload_n 0 d_D_finishSum_0 rfl rfl ?_
  refine J_iconst d_D_finishSum_1 ?_
  refine J_callVv cw_D_107 nh_D_subtractAmounts pn_D_subtractAmounts rfl rfl (by omega) ((cF_0 (by decide)).trans hDk) (As := [.int (iI 1)]) (rest := []) rfl (Nat.le_of_ble_eq_true rfl) ⟨by decide, by decide⟩ rfl ⟨by decide, by decide⟩ d_D_finishSum_2 (c_D_subtractAmounts hfl (F0 := F0) (W := W) (K := K) (S := S) (x := a) (y := b) (s := 1) hN hW hDk h27 h29) (fun  F48 hq => ?_)
  obtain ⟨W3, q1, q2, q3, eFs⟩ := hq
  refine J_eqF (F2 := cF ad g F0 W3 K (va_up S 10 (if b ≤ a then 1 else -1))) eFs ?_
  refine J_aload_n 0 d_D_finishSum_5 rfl rfl ?_
  refine gf_D_12 (by omega) ((cF_0 (by decide)).trans hDk) rfl d_D_finishSum_6 ?_
  refine gf_D_79 (by omega) (cF_U (by decide) rfl (va_up_self ..)) rfl d_D_finishSum_9 ?_
  refine J_lconst (v := 1) d_D_finishSum_12 rfl ?_
  refine J_callVv cw_D_93 nh_N_set pn_N_set rfl rfl (by omega) (cF_N (by decide) (q2 _ (by omega) (by omega) (by omega))) (As := [.long (lI 1)]) (rest := []) rfl (Nat.le_of_ble_eq_true rfl) ⟨by decide, by decide⟩ rfl ⟨by decide, by decide⟩ d_D_finishSum_13 (n_set hfl (F0 := F0) (W := W3) (K := K) (S := va_up S 10 (if b ≤ a then 1 else -1)) (k := 13) (n := 1) (hN := by omega) (hW := q1) (hk := (by decide)) (hn := by decide)) (fun  F52 hq => ?_)
  obtain ⟨hW50, eF51⟩ := hq
  refine J_eqF (F2 := cF ad g F0 (va_up W3 13 1) K (va_up S 10 (if b ≤ a then 1 else -1))) eF51 ?_
  refine J_aload_n 0 d_D_finishSum_16 rfl rfl ?_
  refine gf_D_12 (by omega) ((cF_0 (by decide)).trans hDk) rfl d_D_finishSum_17 ?_
  refine gf_D_79 (by omega) (cF_U (by decide) rfl (va_up_self ..)) rfl d_D_finishSum_20 ?_
  refine J_sipush d_D_finishSum_23 (i16_ok (by decide)) ?_
  refine J_callVv cw_D_155 nh_N_shiftUp pn_N_shiftUp rfl rfl (by omega) (cF_N (by decide) (va_up_self ..)) (As := [.int (iI 152)]) (rest := []) rfl (Nat.le_of_ble_eq_true rfl) ⟨by decide, by decide⟩ rfl ⟨by decide, by decide⟩ d_D_finishSum_26 (n_shiftUp hfl (F0 := F0) (W := va_up W3 13 1) (K := K) (S := va_up S 10 (if b ≤ a then 1 else -1)) (k := 13) (n := 152) (hN := by omega) (hW := hW50) (hk := (by decide)) (x := 1) (hx := (va_up_self ..)) (hn := by decide) (ht := by decide)) (fun  F56 hq => ?_)
  obtain ⟨hW54, eF55⟩ := hq
  have hW57 := (congrArg bW (up_in0)).mp hW54
  refine J_eqF (F2 := cF ad g F0 (va_up W3 13 (1 * 2 ^ ((152 : Int).toNat))) K (va_up S 10 (if b ≤ a then 1 else -1))) (eF55.trans (congrArg (fun qq => cF ad g F0 qq K (va_up S 10 (if b ≤ a then 1 else -1))) (up_in0))) ?_
  refine J_aload_n 0 d_D_finishSum_29 rfl rfl ?_
  refine J_iconst d_D_finishSum_30 ?_
  refine J_callVvx cw_D_101 nh_D_settle pn_D_settle rfl rfl (by omega) ((cF_0 (by decide)).trans hDk) (As := [.int (iI 2)]) (rest := []) rfl (Nat.le_of_ble_eq_true rfl) ⟨by decide, by decide⟩ rfl ⟨by decide, by decide⟩ d_D_finishSum_31 (d_settle hfl (F0 := F0) (W1 := va_up W3 13 (1 * 2 ^ ((152 : Int).toNat))) (K1 := K) (S1 := va_up S 10 (if b ≤ a then 1 else -1)) (W := W) (K := K) (S := S) (X := (if b ≤ a then a - b else b - a)) (Y := 1 * 2 ^ ((152 : Int).toNat)) (kd := 2) (s := (if b ≤ a then 1 else -1)) hN hW57 hDk (((va_up_ne _ _ (by decide)).trans q3)) ((va_up_self ..)) ((va_up_self ..)) (by decide) (by split <;> omega) (by decide) (by split <;> omega) (by decide) (fun e => absurd e (by decide)) (fun j hj => ⟨((show (va_up W3 13 (1 * 2 ^ ((152 : Int).toNat))) j = W3 j from by rw [va_up_ne _ _ (by omega)])).trans (q2 j (by omega) (by omega) (by omega)), (show (K) j = K j from by rfl), (show (va_up S 10 (if b ≤ a then 1 else -1)) j = S j from by rw [va_up_ne _ _ (by omega)])⟩)) (fun  F58 hq => ?_) (fun k9 F9 hq => by exact Or.inr ⟨_, rfl, rfl, rfl, hq⟩)
  obtain hq := hq
  refine J_vret rfl d_D_finishSum_34 ⟨by decide, by decide⟩ ?_
  exact Or.inl ⟨rfl, rfl, rfl, hq⟩
