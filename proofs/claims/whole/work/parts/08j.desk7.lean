/-! the class's desk: bits, shifts, powers, what was read -/
theorem ixor_m {a : Nat} (b : Bool) : (if b then (1073741823 : Int) else 0) = ((msk 30 b : Nat) : Int) := by cases b <;> rfl
/-- the first n factors of a power -/
def powF (kx sx : Int) (ux dx : Nat) : Nat → Option (Int × Int × Nat × Nat)
  | 0 => some (kx, 1, 1, 1)
  | n + 1 => (powF kx sx ux dx n).bind fun r => fin kx (r.2.1 * sx) (r.2.2.1 * ux) (r.2.2.2 * dx)
theorem powF_none {kx sx : Int} {ux dx i : Nat} (h : powF kx sx ux dx i = none) : ∀ n, i ≤ n → powF kx sx ux dx n = none := by
  intro n hn
  induction n with
  | zero => rw [show i = 0 by omega] at h; exact h
  | succ n ih =>
    by_cases e : i = n + 1
    · rw [← e]; exact h
    · show (powF kx sx ux dx n).bind _ = none
      rw [ih (by omega)]; rfl
def readF (kx s : Int) (X Y : Nat) (t : Int) : Option (Int × Int × Nat × Nat) :=
  if kx = 2 ∧ X ≠ 0 then (if 40 < t ∨ t < -80 then none else fin 2 s (X * 10 ^ t.toNat) (Y * 10 ^ (-t).toNat)) else fin kx s X Y
theorem fin_out {kd s kd' s' : Int} {X Y u d : Nat} (h : fin kd s X Y = some (kd', s', u, d)) (hY : 0 < Y) : kd' = kd ∧ 0 < d ∧ u < 2 ^ 154 ∧ d < 2 ^ 154 ∧ (u = 0 ↔ X = 0) ∧ s' = (if X = 0 then 0 else s) ∧ (kd ≠ 2 → u = lowu X Y ∧ d = lowd X Y ∧ u < 2 ^ 120 ∧ d < 2 ^ 120) := by
  unfold fin at h
  split at h
  · rename_i e
    obtain ⟨h1, h2, h3, h4, h5, h6⟩ := near_out h hY
    exact ⟨by omega, h2, h3, h4, h5, h6, fun q => absurd e q⟩
  · split at h
    · rename_i e1 e2
      injection h with h; injection h with h1 h; injection h with h2 h; injection h with h3 h4
      subst h1 h2 h3 h4
      have b1 := blen_le.mp e2.1
      have b2 := blen_le.mp e2.2
      exact ⟨rfl, lowd_pos hY, Nat.lt_trans b1 (by decide), Nat.lt_trans b2 (by decide), lowu_0 hY, rfl, fun _ => ⟨rfl, rfl, b1, b2⟩⟩
    · exact absurd h (by simp)
theorem cop_mul {a b c d : Nat} (h1 : Nat.Coprime a b) (h2 : Nat.Coprime c d) (h3 : Nat.Coprime a d) (h4 : Nat.Coprime c b) : Nat.Coprime (a * c) (b * d) := by
  apply Nat.Coprime.mul_left
  · exact Nat.Coprime.mul_right h1 h3
  · exact Nat.Coprime.mul_right h4 h2
set_option maxRecDepth 100000 in
set_option maxHeartbeats 4000000 in
theorem c_D_mixBits {l : Launch} (hfl : l.flags = flags0) {D : va_G} {g : Nat → ClassId} {ad : Nat → Nat} {N : Nat} {F : Nat → va_E} {op : Int} {a b : Nat}
    (hop : inI op) (ha : a < 1073741824) (hb : b < 1073741824) :
    JC l y_D_mixBits b_D_mixBits 3 (Option.some Jvm.ClassFile.FieldType.int) rm_D_mixBits (0, 0) D jCl (jTys g) ad N F [.int (iI op), .int (iI (a : Int)), .int (iI (b : Int))] (ji ad N (fun z F' => z = ((bopN op a b : Nat) : Int) ∧ F' = F)) := by
  refine JC.go hfl (own := "NumberTower$Desk") (lv := [(0, .int (iI op)), (1, .int (iI (a : Int))), (2, .int (iI (b : Int)))]) rfl (by decide +kernel) (Nat.le_of_ble_eq_true rfl) rfl (fun A => ?_)
  refine J_iload_n 0 d_D_mixBits_0 rfl rfl ?_
  refine J_bipush d_D_mixBits_1 (i8_ok (by decide)) ?_
  refine J_if_icmpne (tgt := 10) d_D_mixBits_3 (by decide) hop ⟨by omega, by omega⟩ (fun c3 => ?_) (fun c3 => ?_)
  · refine J_iload_n 0 d_D_mixBits_10 rfl rfl ?_
    refine J_bipush d_D_mixBits_11 (i8_ok (by decide)) ?_
    refine J_if_icmpne (tgt := 22) d_D_mixBits_13 (by decide) hop ⟨by omega, by omega⟩ (fun c13 => ?_) (fun c13 => ?_)
    · refine J_iload_n 1 d_D_mixBits_22 rfl rfl ?_
      refine J_iload_n 2 d_D_mixBits_23 rfl rfl ?_
      refine J_ixor (r := (((a ^^^ b : Nat)) : Int)) d_D_mixBits_24 (iI_xorn (by omega) (by omega)) ?_
      refine J_iret rfl rfl d_D_mixBits_25 ⟨by decide, by decide⟩ ?_
      exact ⟨_, rfl, rfl, rfl, by unfold bopN; first | rw [if_pos (by omega)] | rw [if_neg (by omega), if_pos (by omega)] | rw [if_neg (by omega), if_neg (by omega)], rfl⟩
    · refine J_iload_n 1 d_D_mixBits_16 rfl rfl ?_
      refine J_iload_n 2 d_D_mixBits_17 rfl rfl ?_
      refine J_ior (r := (((a ||| b : Nat)) : Int)) d_D_mixBits_18 (iI_orn (by omega) (by omega)) ?_
      refine J_goto (tgt := 25) d_D_mixBits_19 (by decide) ?_
      refine J_iret rfl rfl d_D_mixBits_25 ⟨by decide, by decide⟩ ?_
      exact ⟨_, rfl, rfl, rfl, by unfold bopN; first | rw [if_pos (by omega)] | rw [if_neg (by omega), if_pos (by omega)] | rw [if_neg (by omega), if_neg (by omega)], rfl⟩
  · refine J_iload_n 1 d_D_mixBits_6 rfl rfl ?_
    refine J_iload_n 2 d_D_mixBits_7 rfl rfl ?_
    refine J_iand (r := (((a &&& b : Nat)) : Int)) d_D_mixBits_8 (iI_ann (by omega) (by omega)) ?_
    refine J_iret rfl rfl d_D_mixBits_9 ⟨by decide, by decide⟩ ?_
    exact ⟨_, rfl, rfl, rfl, by unfold bopN; first | rw [if_pos (by omega)] | rw [if_neg (by omega), if_pos (by omega)] | rw [if_neg (by omega), if_neg (by omega)], rfl⟩
set_option maxRecDepth 100000 in
set_option maxHeartbeats 4000000 in
theorem c_D_loadForBits {l : Launch} (hfl : l.flags = flags0) {D : va_G} {g : Nat → ClassId} {ad : Nat → Nat} {N : Nat} {F0 : Nat → va_E} {W : Nat → Nat} {K S : Nat → Int} {x q u : Nat} {s : Int}
    (hN : 109 ≤ N) (hW : bW W) (hxp : isU x) (hq : isN q) (hqr : q = 27 ∨ q = 29) (hx2 : x = 2 ∨ 58 ≤ x) (hx1 : W (x + 1) = u) (hxs : S x = s) (hs : -1 ≤ s ∧ s ≤ 1) :
    JC l y_D_loadForBits b_D_loadForBits 2 (Option.some Jvm.ClassFile.FieldType.int) rm_D_loadForBits (0, 0) D jCl (jTys g) ad N (cF ad g F0 W K S) [.ref (ad x), .ref (ad q)] (ji ad N (fun z F' => z = ((msk 30 (decide (s < 0)) : Nat) : Int) ∧ bW (va_up W q (if s < 0 then u - 1 else u)) ∧ F' = cF ad g F0 (va_up W q (if s < 0 then u - 1 else u)) K S)) := by
  have hx4 := (isU_1 hxp).1
  have hq1 := (isN_1 hq).1
  refine JC.go hfl (own := "NumberTower$Desk") (lv := [(0, .ref (ad x)), (1, .ref (ad q))]) rfl (by decide +kernel) (Nat.le_of_ble_eq_true rfl) rfl (fun A => ?_)
  refine J_aload_n 1 d_D_loadForBits_0 rfl rfl ?_
  refine J_aload_n 0 d_D_loadForBits_1 rfl rfl ?_
  refine gf_D_76 (by omega) (cF_U hxp rfl hxs) rfl d_D_loadForBits_2 ?_
  refine J_callVv cw_D_89 nh_N_copyFrom pn_N_copyFrom rfl rfl (by omega) (cF_N hq rfl) (As := [.ref (ad (x + 1))]) (rest := []) rfl (Nat.le_of_ble_eq_true rfl) ⟨by decide, by decide⟩ rfl ⟨by decide, by decide⟩ d_D_loadForBits_5 (n_copyFrom hfl (F0 := F0) (W := W) (K := K) (S := S) (k := q) (m := x + 1) (hN := by omega) (hW := hW) (hk := hq) (hm := (isU_1 hxp).2.1) (x := u) (hx := hx1) (hd := (by omega))) (fun  F4 hq => ?_)
  obtain ⟨hW2, eF3⟩ := hq
  refine J_eqF (F2 := cF ad g F0 (va_up W q u) K S) eF3 ?_
  refine J_aload_n 0 d_D_loadForBits_8 rfl rfl ?_
  refine gf_D_69 (by omega) (cF_U hxp rfl hxs) rfl d_D_loadForBits_9 ?_
  refine J_iflt (tgt := 17) d_D_loadForBits_12 (by decide) ⟨by omega, by omega⟩ (fun c12 => ?_) (fun c12 => ?_)
  · refine J_aload_n 1 d_D_loadForBits_17 rfl rfl ?_
    refine J_callSv cw_D_148 nh_D_lessOne pn_D_lessOne rfl (As := [.ref (ad q)]) (rest := []) rfl (Nat.le_of_ble_eq_true rfl) ⟨by decide, by decide⟩ rfl ⟨by decide, by decide⟩ d_D_loadForBits_18 (c_D_lessOne hfl (F0 := F0) (W := va_up W q u) (K := K) (S := S) (p := q) (x := u) hN hW2 hq ((va_up_self ..))) (fun  F5 hq => ?_)
    obtain ⟨hWl, eFl⟩ := hq
    have hW6 := (congrArg bW (up_in0)).mp hWl
    refine J_eqF (F2 := cF ad g F0 (va_up W q (u - 1)) K S) (eFl.trans (congrArg (fun qq => cF ad g F0 qq K S) (up_in0))) ?_
    refine J_ldc (z := 1073741823) d_D_loadForBits_21 wd_695 (by decide) ?_
    refine J_iret rfl rfl d_D_loadForBits_23 ⟨by decide, by decide⟩ ?_
    refine ⟨_, rfl, rfl, rfl, ?_, ?_, ?_⟩
    · rw [show decide (s < 0) = true from decide_eq_true (by omega)]; rfl
    · rw [if_pos (by omega)]; exact hW6
    · rw [if_pos (by omega)]
  · refine J_iconst d_D_loadForBits_15 ?_
    refine J_iret rfl rfl d_D_loadForBits_16 ⟨by decide, by decide⟩ ?_
    refine ⟨_, rfl, rfl, rfl, ?_, ?_, ?_⟩
    · rw [show decide (s < 0) = false from decide_eq_false (by omega)]; rfl
    · rw [if_neg (by omega)]; exact hW2
    · rw [if_neg (by omega)]
set_option maxRecDepth 100000 in
set_option maxHeartbeats 4000000 in
theorem c_D_mix {l : Launch} (hfl : l.flags = flags0) {D : va_G} {g : Nat → ClassId} {ad : Nat → Nat} {N : Nat} {F0 : Nat → va_E} {W : Nat → Nat} {K S : Nat → Int} {x ux dx y uy dy : Nat} {kx sx ky sy : Int} {op : Int}
    (hN : 109 ≤ N) (hW : bW W) (hDk : F0 9 = oD ad) (hxp : isU x) (hx2 : x = 2 ∨ 58 ≤ x) (hx1 : W (x + 1) = ux) (hx3 : W (x + 3) = dx) (hxk : K x = kx) (hxs : S x = sx) (hxr : -1 ≤ sx ∧ sx ≤ 1 ∧ -1 ≤ kx ∧ kx ≤ 2) (hxb : ux < 2 ^ 154 ∧ dx < 2 ^ 154) (hyp : isU y) (hy2 : y = 2 ∨ 58 ≤ y) (hy1 : W (y + 1) = uy) (hy3 : W (y + 3) = dy) (hyk : K y = ky) (hys : S y = sy) (hyr : -1 ≤ sy ∧ sy ≤ 1 ∧ -1 ≤ ky ∧ ky ≤ 2) (hyb : uy < 2 ^ 154 ∧ dy < 2 ^ 154) (hop : 7 ≤ op ∧ op ≤ 9) (hux : ux < 2 ^ 120) (huy : uy < 2 ^ 120) :
    JC l y_D_mix b_D_mix 9 (Option.none : Option Jvm.ClassFile.FieldType) rm_D_mix (0, 0) D jCl (jTys g) ad N (cF ad g F0 W K S) [.ref (ad 9), .int (iI op), .ref (ad x), .ref (ad y)] (QD ad N g F0 W K S (mixF op sx ux sy uy)) := by
  have hx4 := (isU_1 hxp).1
  have hy4 := (isU_1 hyp).1
  obtain ⟨nx, hnx⟩ : ∃ b : Bool, b = decide (sx < 0) := ⟨_, rfl⟩
  obtain ⟨ny, hny⟩ : ∃ b : Bool, b = decide (sy < 0) := ⟨_, rfl⟩
  obtain ⟨Xa, hXa⟩ : ∃ x : Nat, x = if sx < 0 then ux - 1 else ux := ⟨_, rfl⟩
  obtain ⟨Ya, hYa⟩ : ∃ x : Nat, x = if sy < 0 then uy - 1 else uy := ⟨_, rfl⟩
  obtain ⟨Z, hZ⟩ : ∃ z : Nat, z = mixZ op nx ny Xa Ya := ⟨_, rfl⟩
  have hXb : Xa < 2 ^ 120 := by rw [hXa]; split <;> omega
  have hYb : Ya < 2 ^ 120 := by rw [hYa]; split <;> omega
  have hZ12 : Z < 2 ^ 120 := by rw [hZ]; exact mixZ_lt hXb hYb
  have hZb : Z < 2 ^ 154 := Nat.lt_trans hZ12 (by decide)
  have hX48 : Xa < 2 ^ 480 := Nat.lt_trans hXb (by decide)
  have hY48 : Ya < 2 ^ 480 := Nat.lt_trans hYb (by decide)
  obtain ⟨no, hno⟩ : ∃ b : Bool, b = bopB op nx ny := ⟨_, rfl⟩
  have hm1 := msk_lt 30 nx
  have hm2 := msk_lt 30 ny
  have hm3 := msk_lt 30 no
  obtain ⟨Z1, hZ1⟩ : ∃ z : Nat, z = if no = true then Z + 1 else Z := ⟨_, rfl⟩
  obtain ⟨so, hso⟩ : ∃ z : Int, z = if no = true then -1 else 1 := ⟨_, rfl⟩
  have hr : mixF op sx ux sy uy = fin 0 so Z1 1 := by
    unfold mixF
    simp only [← hnx, ← hny, ← hXa, ← hYa]
    rw [← hZ, ← hno, hso, hZ1]
  have hmz : no = true ∧ msk 30 no = 1073741823 ∨ no = false ∧ msk 30 no = 0 := by cases no <;> simp [msk]
  refine JC.go hfl (own := "NumberTower$Desk") (lv := [(0, .ref (ad 9)), (1, .int (iI op)), (2, .ref (ad x)), (3, .ref (ad y))]) rfl (by decide +kernel) (Nat.le_of_ble_eq_true rfl) rfl (fun A => ?_)
  refine J_aload_n 2 d_D_mix_0 rfl rfl ?_
  refine J_aload_n 0 d_D_mix_1 rfl rfl ?_
  refine gf_D_31 (by omega) ((cF_0 (by decide)).trans hDk) rfl d_D_mix_2 ?_
  refine J_callSi cw_D_133 nh_D_loadForBits pn_D_loadForBits rfl (As := [.ref (ad x), .ref (ad 27)]) (rest := []) rfl (Nat.le_of_ble_eq_true rfl) ⟨by decide, by decide⟩ rfl ⟨by decide, by decide⟩ d_D_mix_5 (c_D_loadForBits hfl (F0 := F0) (W := W) (K := K) (S := S) (x := x) (q := 27) (u := ux) (s := sx) hN hW hxp (by decide) (by decide) hx2 (hx1) (hxs) ⟨by omega, by omega⟩) (fun zx F7 hq => ?_)
  obtain ⟨hzx, hWl, eFl⟩ := hq
  refine J_eqF (F2 := cF ad g F0 (va_up W 27 (if sx < 0 then ux - 1 else ux)) K S) eFl ?_
  refine J_topi (r := (((msk 30 nx : Nat)) : Int)) (congrArg iI (by rw [hzx, ← hnx])) ?_
  refine J_istore (lv' := [(4, .int (iI (((msk 30 nx : Nat)) : Int))), (0, .ref (ad 9)), (1, .int (iI op)), (2, .ref (ad x)), (3, .ref (ad y))]) d_D_mix_8 (by decide) rfl ?_
  refine J_aload_n 4 d_D_mix_10 rfl rfl ?_
  refine J_aload_n 1 d_D_mix_11 rfl rfl ?_
  refine gf_D_34 (by omega) ((cF_0 (by decide)).trans hDk) rfl d_D_mix_12 ?_
  refine J_callSi cw_D_133 nh_D_loadForBits pn_D_loadForBits rfl (As := [.ref (ad y), .ref (ad 29)]) (rest := []) rfl (Nat.le_of_ble_eq_true rfl) ⟨by decide, by decide⟩ rfl ⟨by decide, by decide⟩ d_D_mix_15 (c_D_loadForBits hfl (F0 := F0) (W := va_up W 27 (if sx < 0 then ux - 1 else ux)) (K := K) (S := S) (x := y) (q := 29) (u := uy) (s := sy) hN hWl hyp (by decide) (by decide) hy2 (((va_up_ne _ _ (by omega)).trans hy1)) (hys) ⟨by omega, by omega⟩) (fun zy F8 hq => ?_)
  obtain ⟨hzy, hWl, eFl⟩ := hq
  refine J_eqF (F2 := cF ad g F0 (va_up (va_up W 27 (if sx < 0 then ux - 1 else ux)) 29 (if sy < 0 then uy - 1 else uy)) K S) eFl ?_
  refine J_topi (r := (((msk 30 ny : Nat)) : Int)) (congrArg iI (by rw [hzy, ← hny])) ?_
  refine J_istore (lv' := [(5, .int (iI (((msk 30 ny : Nat)) : Int))), (4, .int (iI (((msk 30 nx : Nat)) : Int))), (0, .ref (ad 9)), (1, .int (iI op)), (2, .ref (ad x)), (3, .ref (ad y))]) d_D_mix_18 (by decide) rfl ?_
  have hW9 := (congrArg (fun qq : Nat => bW (va_up (va_up W 27 qq) 29 (if sy < 0 then uy - 1 else uy))) (show (if sx < 0 then ux - 1 else ux) = (Xa) from hXa.symm)).mp hWl
  refine J_eqF (F2 := cF ad g F0 (va_up (va_up W 27 Xa) 29 (if sy < 0 then uy - 1 else uy)) K S) (congrArg (fun qq : Nat => cF ad g F0 (va_up (va_up W 27 qq) 29 (if sy < 0 then uy - 1 else uy)) K S) (show (if sx < 0 then ux - 1 else ux) = (Xa) from hXa.symm)) ?_
  have hW10 := (congrArg (fun qq : Nat => bW (va_up (va_up W 27 Xa) 29 qq)) (show (if sy < 0 then uy - 1 else uy) = (Ya) from hYa.symm)).mp hW9
  refine J_eqF (F2 := cF ad g F0 (va_up (va_up W 27 Xa) 29 Ya) K S) (congrArg (fun qq : Nat => cF ad g F0 (va_up (va_up W 27 Xa) 29 qq) K S) (show (if sy < 0 then uy - 1 else uy) = (Ya) from hYa.symm)) ?_
  refine J_iload_n 3 d_D_mix_20 rfl rfl ?_
  refine J_iload 1 d_D_mix_21 rfl ?_
  refine J_iload 0 d_D_mix_23 rfl ?_
  refine J_callSi cw_D_137 nh_D_mixBits pn_D_mixBits rfl (As := [.int (iI op), .int (iI (((msk 30 nx : Nat)) : Int)), .int (iI (((msk 30 ny : Nat)) : Int))]) (rest := []) rfl (Nat.le_of_ble_eq_true rfl) ⟨by decide, by decide⟩ rfl ⟨by decide, by decide⟩ d_D_mix_25 (c_D_mixBits hfl (op := op) (a := msk 30 nx) (b := msk 30 ny) ⟨by omega, by omega⟩ (by omega) (by omega)) (fun zo F1 hq => ?_)
  obtain ⟨hzo, eF1⟩ := hq
  refine J_eqF eF1 ?_
  refine J_topi (r := (((msk 30 no : Nat)) : Int)) (congrArg iI (by rw [hzo, msk_op, ← hno])) ?_
  refine J_istore (lv' := [(6, .int (iI (((msk 30 no : Nat)) : Int))), (5, .int (iI (((msk 30 ny : Nat)) : Int))), (4, .int (iI (((msk 30 nx : Nat)) : Int))), (0, .ref (ad 9)), (1, .int (iI op)), (2, .ref (ad x)), (3, .ref (ad y))]) d_D_mix_28 (by decide) rfl ?_
  refine J_aload_n 3 d_D_mix_30 rfl rfl ?_
  refine gf_D_12 (by omega) ((cF_0 (by decide)).trans hDk) rfl d_D_mix_31 ?_
  refine J_lconst (v := 0) d_D_mix_34 rfl ?_
  refine J_callVv cw_D_127 nh_U_setWhole pn_U_setWhole rfl rfl (by omega) (cF_U (by decide) rfl rfl) (As := [.long (lI 0)]) (rest := []) rfl (Nat.le_of_ble_eq_true rfl) ⟨by decide, by decide⟩ rfl ⟨by decide, by decide⟩ d_D_mix_35 (u_setWhole hfl (F0 := F0) (W := va_up (va_up W 27 Xa) 29 Ya) (K := K) (S := S) (k := 10) (v := 0) (by omega) hW10 (by decide) (by decide)) (fun  F11 hq => ?_)
  obtain ⟨hWs, eFs⟩ := hq
  refine J_eqF (F2 := cF ad g F0 (va_up (va_up (va_up (va_up W 27 Xa) 29 Ya) 11 0) 13 1) (va_up K 10 0) (va_up S 10 0)) eFs ?_
  refine J_iconst d_D_mix_38 ?_
  refine J_istore (lv' := [(7, .int (iI 0)), (6, .int (iI (((msk 30 no : Nat)) : Int))), (5, .int (iI (((msk 30 ny : Nat)) : Int))), (4, .int (iI (((msk 30 nx : Nat)) : Int))), (0, .ref (ad 9)), (1, .int (iI op)), (2, .ref (ad x)), (3, .ref (ad y))]) d_D_mix_39 (by decide) rfl ?_
  refine J_pick (lv' := [(0, .ref (ad 9)), (1, .int (iI op)), (2, .ref (ad x)), (3, .ref (ad y)), (4, .int (iI (((msk 30 nx : Nat)) : Int))), (5, .int (iI (((msk 30 ny : Nat)) : Int))), (6, .int (iI (((msk 30 no : Nat)) : Int))), (7, .int (iI 0))]) [4, 5, 6, 7, 3, 2, 1, 0] rfl ?_
  have loop41 : ∀ (fuel : Nat) (i : Nat) (f : Nat → Int) (h1 : i ≤ 16) (hf : f = mix i (dg Z) (dg 0)) (hfu : 16 - i < fuel), J l rm_D_mix (0, 0) "NumberTower$Desk" b_D_mix 9 (Option.none : Option Jvm.ClassFile.FieldType) D jCl (jTys g) A (fun _ me => me.name = y_D_mix.name) (QD ad N g F0 W K S (mixF op sx ux sy uy)) ad N 0 0 41 [(0, .ref (ad 9)), (1, .int (iI op)), (2, .ref (ad x)), (3, .ref (ad y)), (4, .int (iI (((msk 30 nx : Nat)) : Int))), (5, .int (iI (((msk 30 ny : Nat)) : Int))), (6, .int (iI (((msk 30 no : Nat)) : Int))), (7, .int (iI (i : Int)))] [] (va_up (cF ad g F0 (va_up (va_up (va_up (va_up W 27 Xa) 29 Ya) 11 0) 13 1) (va_up K 10 0) (va_up S 10 0)) 12 (.inl (g 0, 16, .inl (aI f)))) := by
    intro fuel
    induction fuel with
    | zero => intro i f h1 hf hfu; exact absurd hfu (Nat.not_lt_zero _)
    | succ fuel ih =>
      intro i f h1 hf hfu
      refine J_iload 7 d_D_mix_41 rfl ?_
      refine J_bipush d_D_mix_43 (i8_ok (by decide)) ?_
      refine J_if_icmpge (tgt := 104) d_D_mix_45 (by decide) ⟨by omega, by omega⟩ ⟨by omega, by omega⟩ (fun c45 => ?_) (fun c45 => ?_)
      · refine J_aload_n 0 d_D_mix_104 rfl rfl ?_
        refine gf_D_12 (by omega) (by rw [va_up_ne _ _ (by decide)]; exact ((cF_0 (by decide)).trans hDk)) rfl d_D_mix_105 ?_
        refine gf_D_76 (by omega) (by rw [va_up_ne _ _ (by decide)]; exact (cF_U (by decide) (va_up_self ..) (va_up_self ..))) rfl d_D_mix_108 ?_
        refine J_bipush d_D_mix_111 (i8_ok (by decide)) ?_
        have hend : f = dg Z := by
          rw [hf]
          refine mix_all (fun j hj => ?_)
          rw [dg_16 (Nat.lt_trans hZb (by decide)) (by omega), dg_nat, dgt_zero (show 0 < 2 ^ (30 * j) from Nat.two_pow_pos _)]; rfl
        refine J_eqF (F2 := va_up (cF ad g F0 (va_up (va_up (va_up (va_up W 27 Xa) 29 Ya) 11 0) 13 1) (va_up K 10 0) (va_up S 10 0)) 12 (.inl (g 0, 16, .inl (aI (dg Z))))) (congrArg (fun qq => va_up (cF ad g F0 (va_up (va_up (va_up (va_up W 27 Xa) 29 Ya) 11 0) 13 1) (va_up K 10 0) (va_up S 10 0)) 12 (.inl (g 0, 16, .inl (aI qq)))) hend) ?_
        refine J_callVv cw_D_145 nh_N_trim pn_N_trim rfl rfl (by omega) (by rw [va_up_ne _ _ (by decide)]; exact (cF_N (by decide) ((va_up_ne _ _ (by decide)).trans (va_up_self ..)))) (As := [.int (iI 16)]) (rest := []) rfl (Nat.le_of_ble_eq_true rfl) ⟨by decide, by decide⟩ rfl ⟨by decide, by decide⟩ d_D_mix_113 (c_N_trimC hfl (k := 11) (n := Z) (z := 16) (c := lnw 30 0) (by omega) (by rw [va_up_ne _ _ (by decide)]; exact (cF_N (by decide) ((va_up_ne _ _ (by decide)).trans (va_up_self ..)))) (by rw [va_up_self]) (Nat.lt_trans hZb (by decide)) ⟨by have := cn_16 (Nat.lt_trans hZb (by decide : 2 ^ 154 < 2 ^ 480)); omega, by omega⟩) (fun  F12 hq => ?_)
        have eFt := hq
        have hWz := bW_up (k := 11) hWs (Nat.lt_trans hZb (by decide : 2 ^ 154 < 2 ^ 480))
        have hWz2 := (congrArg bW (up_in1 (by decide))).mp hWz
        refine J_eqF (F2 := cF ad g F0 (va_up (va_up (va_up (va_up W 27 Xa) 29 Ya) 11 Z) 13 1) (va_up K 10 0) (va_up S 10 0)) ((eFt.trans (cF_upN (by decide))).trans (congrArg (fun qq => cF ad g F0 qq (va_up K 10 0) (va_up S 10 0)) (up_in1 (by decide)))) ?_
        refine J_iload 6 d_D_mix_116 rfl ?_
        refine J_ifeq (tgt := 132) d_D_mix_118 (by decide) ⟨by omega, by omega⟩ (fun c118 => ?_) (fun c118 => ?_)
        · have hnt : ¬ no = true := by rcases hmz with ⟨e1, e2⟩ | ⟨e1, e2⟩; omega; rw [e1]; decide
          refine J_pick (lv' := [(0, .ref (ad 9)), (6, .int (iI (((msk 30 no : Nat)) : Int)))]) [0, 6] rfl ?_
          have hW13 := (congrArg (fun qq : Nat => bW (va_up (va_up (va_up (va_up W 27 Xa) 29 Ya) 11 qq) 13 1)) (show (Z) = (Z1) from (by rw [hZ1, if_neg hnt]))).mp hWz2
          refine J_eqF (F2 := cF ad g F0 (va_up (va_up (va_up (va_up W 27 Xa) 29 Ya) 11 Z1) 13 1) (va_up K 10 0) (va_up S 10 0)) (congrArg (fun qq : Nat => cF ad g F0 (va_up (va_up (va_up (va_up W 27 Xa) 29 Ya) 11 qq) 13 1) (va_up K 10 0) (va_up S 10 0)) (show (Z) = (Z1) from (by rw [hZ1, if_neg hnt]))) ?_
          have lab132 : ∀  (hWz3 : bW (va_up (va_up (va_up (va_up W 27 Xa) 29 Ya) 11 Z1) 13 1)) , J l rm_D_mix (0, 0) "NumberTower$Desk" b_D_mix 9 (Option.none : Option Jvm.ClassFile.FieldType) D jCl (jTys g) A (fun _ me => me.name = y_D_mix.name) (QD ad N g F0 W K S (mixF op sx ux sy uy)) ad N 0 0 132 [(0, .ref (ad 9)), (6, .int (iI (((msk 30 no : Nat)) : Int)))] [] (cF ad g F0 (va_up (va_up (va_up (va_up W 27 Xa) 29 Ya) 11 Z1) 13 1) (va_up K 10 0) (va_up S 10 0)) := by
            intro  hWz3
            refine J_aload_n 0 d_D_mix_132 rfl rfl ?_
            refine gf_D_12 (by omega) ((cF_0 (by decide)).trans hDk) rfl d_D_mix_133 ?_
            refine J_iload 1 d_D_mix_136 rfl ?_
            refine J_ifeq (tgt := 145) d_D_mix_138 (by decide) ⟨by omega, by omega⟩ (fun c138 => ?_) (fun c138 => ?_)
            · have hnt : ¬ no = true := by rcases hmz with ⟨e1, e2⟩ | ⟨e1, e2⟩; omega; rw [e1]; decide
              refine J_iconst d_D_mix_145 ?_
              refine J_pick (lv' := [(0, .ref (ad 9))]) [0] rfl ?_
              refine J_topi (r := so) (congrArg iI (by rw [hso, if_neg hnt])) ?_
              have lab146 : J l rm_D_mix (0, 0) "NumberTower$Desk" b_D_mix 9 (Option.none : Option Jvm.ClassFile.FieldType) D jCl (jTys g) A (fun _ me => me.name = y_D_mix.name) (QD ad N g F0 W K S (mixF op sx ux sy uy)) ad N 0 0 146 [(0, .ref (ad 9))] [.int (iI so), .ref (ad 10)] (cF ad g F0 (va_up (va_up (va_up (va_up W 27 Xa) 29 Ya) 11 Z1) 13 1) (va_up K 10 0) (va_up S 10 0)) := by
                refine pf_D_69 (by omega) (cF_U (by decide) (va_up_self ..) (va_up_self ..)) (Nat.le_of_ble_eq_true rfl) d_D_mix_146 ?_
                refine J_eqF (F2 := cF ad g F0 (va_up (va_up (va_up (va_up W 27 Xa) 29 Ya) 11 Z1) 13 1) (va_up K 10 0) (va_up S 10 so)) (((cF_upU (by decide)).trans (congrArg (fun qq => cF ad g F0 (va_up (va_up (va_up (va_up W 27 Xa) 29 Ya) 11 Z1) 13 1) qq (va_up (va_up S 10 0) 10 so)) (up_same1 (va_up_self ..)).symm)).trans (congrArg (fun qq => cF ad g F0 (va_up (va_up (va_up (va_up W 27 Xa) 29 Ya) 11 Z1) 13 1) (va_up K 10 0) qq) (up_in0))) ?_
                refine J_aload_n 0 d_D_mix_149 rfl rfl ?_
                refine J_iconst d_D_mix_150 ?_
                refine J_callVvx cw_D_101 nh_D_settle pn_D_settle rfl rfl (by omega) ((cF_0 (by decide)).trans hDk) (As := [.int (iI 0)]) (rest := []) rfl (Nat.le_of_ble_eq_true rfl) ⟨by decide, by decide⟩ rfl ⟨by decide, by decide⟩ d_D_mix_151 (d_settle hfl (F0 := F0) (W1 := va_up (va_up (va_up (va_up W 27 Xa) 29 Ya) 11 Z1) 13 1) (K1 := va_up K 10 0) (S1 := va_up S 10 so) (W := W) (K := K) (S := S) (X := Z1) (Y := 1) (kd := 0) (s := so) hN hWz3 hDk (((va_up_ne _ _ (by decide)).trans (va_up_self ..))) ((va_up_self ..)) ((va_up_self ..)) (by decide) (by rw [hZ1]; split <;> omega) (by decide) (by rw [hso]; split <;> omega) (by decide) (fun _ => rfl) (fun j hj => ⟨(show (va_up (va_up (va_up (va_up W 27 Xa) 29 Ya) 11 Z1) 13 1) j = W j from by rw [va_up_ne _ _ (by omega), va_up_ne _ _ (by omega), va_up_ne _ _ (by omega), va_up_ne _ _ (by omega)]), (show (va_up K 10 0) j = K j from by rw [va_up_ne _ _ (by omega)]), (show (va_up S 10 so) j = S j from by rw [va_up_ne _ _ (by omega)])⟩)) (fun  F14 hq => ?_) (fun k9 F9 hq => by (rw [← hr] at hq; exact Or.inr ⟨_, rfl, rfl, rfl, hq⟩))
                have hq := hq
                refine J_vret rfl d_D_mix_154 ⟨by decide, by decide⟩ ?_
                rw [← hr] at hq
                exact Or.inl ⟨rfl, rfl, rfl, hq⟩
              exact lab146  
            · have hnt : no = true := by rcases hmz with ⟨e1, e2⟩ | ⟨e1, e2⟩; exact e1; omega
              refine J_iconst d_D_mix_141 ?_
              refine J_goto (tgt := 146) d_D_mix_142 (by decide) ?_
              refine J_pick (lv' := [(0, .ref (ad 9))]) [0] rfl ?_
              refine J_topi (r := so) (congrArg iI (by rw [hso, if_pos hnt])) ?_
              have lab146 : J l rm_D_mix (0, 0) "NumberTower$Desk" b_D_mix 9 (Option.none : Option Jvm.ClassFile.FieldType) D jCl (jTys g) A (fun _ me => me.name = y_D_mix.name) (QD ad N g F0 W K S (mixF op sx ux sy uy)) ad N 0 0 146 [(0, .ref (ad 9))] [.int (iI so), .ref (ad 10)] (cF ad g F0 (va_up (va_up (va_up (va_up W 27 Xa) 29 Ya) 11 Z1) 13 1) (va_up K 10 0) (va_up S 10 0)) := by
                refine pf_D_69 (by omega) (cF_U (by decide) (va_up_self ..) (va_up_self ..)) (Nat.le_of_ble_eq_true rfl) d_D_mix_146 ?_
                refine J_eqF (F2 := cF ad g F0 (va_up (va_up (va_up (va_up W 27 Xa) 29 Ya) 11 Z1) 13 1) (va_up K 10 0) (va_up S 10 so)) (((cF_upU (by decide)).trans (congrArg (fun qq => cF ad g F0 (va_up (va_up (va_up (va_up W 27 Xa) 29 Ya) 11 Z1) 13 1) qq (va_up (va_up S 10 0) 10 so)) (up_same1 (va_up_self ..)).symm)).trans (congrArg (fun qq => cF ad g F0 (va_up (va_up (va_up (va_up W 27 Xa) 29 Ya) 11 Z1) 13 1) (va_up K 10 0) qq) (up_in0))) ?_
                refine J_aload_n 0 d_D_mix_149 rfl rfl ?_
                refine J_iconst d_D_mix_150 ?_
                refine J_callVvx cw_D_101 nh_D_settle pn_D_settle rfl rfl (by omega) ((cF_0 (by decide)).trans hDk) (As := [.int (iI 0)]) (rest := []) rfl (Nat.le_of_ble_eq_true rfl) ⟨by decide, by decide⟩ rfl ⟨by decide, by decide⟩ d_D_mix_151 (d_settle hfl (F0 := F0) (W1 := va_up (va_up (va_up (va_up W 27 Xa) 29 Ya) 11 Z1) 13 1) (K1 := va_up K 10 0) (S1 := va_up S 10 so) (W := W) (K := K) (S := S) (X := Z1) (Y := 1) (kd := 0) (s := so) hN hWz3 hDk (((va_up_ne _ _ (by decide)).trans (va_up_self ..))) ((va_up_self ..)) ((va_up_self ..)) (by decide) (by rw [hZ1]; split <;> omega) (by decide) (by rw [hso]; split <;> omega) (by decide) (fun _ => rfl) (fun j hj => ⟨(show (va_up (va_up (va_up (va_up W 27 Xa) 29 Ya) 11 Z1) 13 1) j = W j from by rw [va_up_ne _ _ (by omega), va_up_ne _ _ (by omega), va_up_ne _ _ (by omega), va_up_ne _ _ (by omega)]), (show (va_up K 10 0) j = K j from by rw [va_up_ne _ _ (by omega)]), (show (va_up S 10 so) j = S j from by rw [va_up_ne _ _ (by omega)])⟩)) (fun  F15 hq => ?_) (fun k9 F9 hq => by (rw [← hr] at hq; exact Or.inr ⟨_, rfl, rfl, rfl, hq⟩))
                have hq := hq
                refine J_vret rfl d_D_mix_154 ⟨by decide, by decide⟩ ?_
                rw [← hr] at hq
                exact Or.inl ⟨rfl, rfl, rfl, hq⟩
              exact lab146  
          exact lab132  hW13
        · have hnt : no = true := by rcases hmz with ⟨e1, e2⟩ | ⟨e1, e2⟩; exact e1; omega
          refine J_aload_n 0 d_D_mix_121 rfl rfl ?_
          refine gf_D_12 (by omega) ((cF_0 (by decide)).trans hDk) rfl d_D_mix_122 ?_
          refine gf_D_76 (by omega) (cF_U (by decide) (va_up_self ..) (va_up_self ..)) rfl d_D_mix_125 ?_
          refine J_iconst d_D_mix_128 ?_
          refine J_callVv cw_D_124 nh_N_addSmall pn_N_addSmall rfl rfl (by omega) (cF_N (by decide) ((va_up_ne _ _ (by decide)).trans (va_up_self ..))) (As := [.int (iI 1)]) (rest := []) rfl (Nat.le_of_ble_eq_true rfl) ⟨by decide, by decide⟩ rfl ⟨by decide, by decide⟩ d_D_mix_129 (n_addSmall hfl (F0 := F0) (W := va_up (va_up (va_up (va_up W 27 Xa) 29 Ya) 11 Z) 13 1) (K := va_up K 10 0) (S := va_up S 10 0) (k := 11) (n := 1) (hN := by omega) (hW := hWz2) (hk := (by decide)) (x := Z) (hx := ((va_up_ne _ _ (by decide)).trans (va_up_self ..))) (hn := by decide) (ht := by omega)) (fun  F19 hq => ?_)
          obtain ⟨hW17, eF18⟩ := hq
          have hW20 := (congrArg bW (up_in1 (by decide))).mp hW17
          refine J_eqF (F2 := cF ad g F0 (va_up (va_up (va_up (va_up W 27 Xa) 29 Ya) 11 (Z + 1)) 13 1) (va_up K 10 0) (va_up S 10 0)) (eF18.trans (congrArg (fun qq => cF ad g F0 qq (va_up K 10 0) (va_up S 10 0)) (up_in1 (by decide)))) ?_
          refine J_pick (lv' := [(0, .ref (ad 9)), (6, .int (iI (((msk 30 no : Nat)) : Int)))]) [0, 6] rfl ?_
          have hW21 := (congrArg (fun qq : Nat => bW (va_up (va_up (va_up (va_up W 27 Xa) 29 Ya) 11 qq) 13 1)) (show (Z + 1) = (Z1) from (by rw [hZ1, if_pos hnt]))).mp hW20
          refine J_eqF (F2 := cF ad g F0 (va_up (va_up (va_up (va_up W 27 Xa) 29 Ya) 11 Z1) 13 1) (va_up K 10 0) (va_up S 10 0)) (congrArg (fun qq : Nat => cF ad g F0 (va_up (va_up (va_up (va_up W 27 Xa) 29 Ya) 11 qq) 13 1) (va_up K 10 0) (va_up S 10 0)) (show (Z + 1) = (Z1) from (by rw [hZ1, if_pos hnt]))) ?_
          have lab132 : ∀  (hWz3 : bW (va_up (va_up (va_up (va_up W 27 Xa) 29 Ya) 11 Z1) 13 1)) , J l rm_D_mix (0, 0) "NumberTower$Desk" b_D_mix 9 (Option.none : Option Jvm.ClassFile.FieldType) D jCl (jTys g) A (fun _ me => me.name = y_D_mix.name) (QD ad N g F0 W K S (mixF op sx ux sy uy)) ad N 0 0 132 [(0, .ref (ad 9)), (6, .int (iI (((msk 30 no : Nat)) : Int)))] [] (cF ad g F0 (va_up (va_up (va_up (va_up W 27 Xa) 29 Ya) 11 Z1) 13 1) (va_up K 10 0) (va_up S 10 0)) := by
            intro  hWz3
            refine J_aload_n 0 d_D_mix_132 rfl rfl ?_
            refine gf_D_12 (by omega) ((cF_0 (by decide)).trans hDk) rfl d_D_mix_133 ?_
            refine J_iload 1 d_D_mix_136 rfl ?_
            refine J_ifeq (tgt := 145) d_D_mix_138 (by decide) ⟨by omega, by omega⟩ (fun c138 => ?_) (fun c138 => ?_)
            · have hnt : ¬ no = true := by rcases hmz with ⟨e1, e2⟩ | ⟨e1, e2⟩; omega; rw [e1]; decide
              refine J_iconst d_D_mix_145 ?_
              refine J_pick (lv' := [(0, .ref (ad 9))]) [0] rfl ?_
              refine J_topi (r := so) (congrArg iI (by rw [hso, if_neg hnt])) ?_
              have lab146 : J l rm_D_mix (0, 0) "NumberTower$Desk" b_D_mix 9 (Option.none : Option Jvm.ClassFile.FieldType) D jCl (jTys g) A (fun _ me => me.name = y_D_mix.name) (QD ad N g F0 W K S (mixF op sx ux sy uy)) ad N 0 0 146 [(0, .ref (ad 9))] [.int (iI so), .ref (ad 10)] (cF ad g F0 (va_up (va_up (va_up (va_up W 27 Xa) 29 Ya) 11 Z1) 13 1) (va_up K 10 0) (va_up S 10 0)) := by
                refine pf_D_69 (by omega) (cF_U (by decide) (va_up_self ..) (va_up_self ..)) (Nat.le_of_ble_eq_true rfl) d_D_mix_146 ?_
                refine J_eqF (F2 := cF ad g F0 (va_up (va_up (va_up (va_up W 27 Xa) 29 Ya) 11 Z1) 13 1) (va_up K 10 0) (va_up S 10 so)) (((cF_upU (by decide)).trans (congrArg (fun qq => cF ad g F0 (va_up (va_up (va_up (va_up W 27 Xa) 29 Ya) 11 Z1) 13 1) qq (va_up (va_up S 10 0) 10 so)) (up_same1 (va_up_self ..)).symm)).trans (congrArg (fun qq => cF ad g F0 (va_up (va_up (va_up (va_up W 27 Xa) 29 Ya) 11 Z1) 13 1) (va_up K 10 0) qq) (up_in0))) ?_
                refine J_aload_n 0 d_D_mix_149 rfl rfl ?_
                refine J_iconst d_D_mix_150 ?_
                refine J_callVvx cw_D_101 nh_D_settle pn_D_settle rfl rfl (by omega) ((cF_0 (by decide)).trans hDk) (As := [.int (iI 0)]) (rest := []) rfl (Nat.le_of_ble_eq_true rfl) ⟨by decide, by decide⟩ rfl ⟨by decide, by decide⟩ d_D_mix_151 (d_settle hfl (F0 := F0) (W1 := va_up (va_up (va_up (va_up W 27 Xa) 29 Ya) 11 Z1) 13 1) (K1 := va_up K 10 0) (S1 := va_up S 10 so) (W := W) (K := K) (S := S) (X := Z1) (Y := 1) (kd := 0) (s := so) hN hWz3 hDk (((va_up_ne _ _ (by decide)).trans (va_up_self ..))) ((va_up_self ..)) ((va_up_self ..)) (by decide) (by rw [hZ1]; split <;> omega) (by decide) (by rw [hso]; split <;> omega) (by decide) (fun _ => rfl) (fun j hj => ⟨(show (va_up (va_up (va_up (va_up W 27 Xa) 29 Ya) 11 Z1) 13 1) j = W j from by rw [va_up_ne _ _ (by omega), va_up_ne _ _ (by omega), va_up_ne _ _ (by omega), va_up_ne _ _ (by omega)]), (show (va_up K 10 0) j = K j from by rw [va_up_ne _ _ (by omega)]), (show (va_up S 10 so) j = S j from by rw [va_up_ne _ _ (by omega)])⟩)) (fun  F22 hq => ?_) (fun k9 F9 hq => by (rw [← hr] at hq; exact Or.inr ⟨_, rfl, rfl, rfl, hq⟩))
                have hq := hq
                refine J_vret rfl d_D_mix_154 ⟨by decide, by decide⟩ ?_
                rw [← hr] at hq
                exact Or.inl ⟨rfl, rfl, rfl, hq⟩
              exact lab146  
            · have hnt : no = true := by rcases hmz with ⟨e1, e2⟩ | ⟨e1, e2⟩; exact e1; omega
              refine J_iconst d_D_mix_141 ?_
              refine J_goto (tgt := 146) d_D_mix_142 (by decide) ?_
              refine J_pick (lv' := [(0, .ref (ad 9))]) [0] rfl ?_
              refine J_topi (r := so) (congrArg iI (by rw [hso, if_pos hnt])) ?_
              have lab146 : J l rm_D_mix (0, 0) "NumberTower$Desk" b_D_mix 9 (Option.none : Option Jvm.ClassFile.FieldType) D jCl (jTys g) A (fun _ me => me.name = y_D_mix.name) (QD ad N g F0 W K S (mixF op sx ux sy uy)) ad N 0 0 146 [(0, .ref (ad 9))] [.int (iI so), .ref (ad 10)] (cF ad g F0 (va_up (va_up (va_up (va_up W 27 Xa) 29 Ya) 11 Z1) 13 1) (va_up K 10 0) (va_up S 10 0)) := by
                refine pf_D_69 (by omega) (cF_U (by decide) (va_up_self ..) (va_up_self ..)) (Nat.le_of_ble_eq_true rfl) d_D_mix_146 ?_
                refine J_eqF (F2 := cF ad g F0 (va_up (va_up (va_up (va_up W 27 Xa) 29 Ya) 11 Z1) 13 1) (va_up K 10 0) (va_up S 10 so)) (((cF_upU (by decide)).trans (congrArg (fun qq => cF ad g F0 (va_up (va_up (va_up (va_up W 27 Xa) 29 Ya) 11 Z1) 13 1) qq (va_up (va_up S 10 0) 10 so)) (up_same1 (va_up_self ..)).symm)).trans (congrArg (fun qq => cF ad g F0 (va_up (va_up (va_up (va_up W 27 Xa) 29 Ya) 11 Z1) 13 1) (va_up K 10 0) qq) (up_in0))) ?_
                refine J_aload_n 0 d_D_mix_149 rfl rfl ?_
                refine J_iconst d_D_mix_150 ?_
                refine J_callVvx cw_D_101 nh_D_settle pn_D_settle rfl rfl (by omega) ((cF_0 (by decide)).trans hDk) (As := [.int (iI 0)]) (rest := []) rfl (Nat.le_of_ble_eq_true rfl) ⟨by decide, by decide⟩ rfl ⟨by decide, by decide⟩ d_D_mix_151 (d_settle hfl (F0 := F0) (W1 := va_up (va_up (va_up (va_up W 27 Xa) 29 Ya) 11 Z1) 13 1) (K1 := va_up K 10 0) (S1 := va_up S 10 so) (W := W) (K := K) (S := S) (X := Z1) (Y := 1) (kd := 0) (s := so) hN hWz3 hDk (((va_up_ne _ _ (by decide)).trans (va_up_self ..))) ((va_up_self ..)) ((va_up_self ..)) (by decide) (by rw [hZ1]; split <;> omega) (by decide) (by rw [hso]; split <;> omega) (by decide) (fun _ => rfl) (fun j hj => ⟨(show (va_up (va_up (va_up (va_up W 27 Xa) 29 Ya) 11 Z1) 13 1) j = W j from by rw [va_up_ne _ _ (by omega), va_up_ne _ _ (by omega), va_up_ne _ _ (by omega), va_up_ne _ _ (by omega)]), (show (va_up K 10 0) j = K j from by rw [va_up_ne _ _ (by omega)]), (show (va_up S 10 so) j = S j from by rw [va_up_ne _ _ (by omega)])⟩)) (fun  F23 hq => ?_) (fun k9 F9 hq => by (rw [← hr] at hq; exact Or.inr ⟨_, rfl, rfl, rfl, hq⟩))
                have hq := hq
                refine J_vret rfl d_D_mix_154 ⟨by decide, by decide⟩ ?_
                rw [← hr] at hq
                exact Or.inl ⟨rfl, rfl, rfl, hq⟩
              exact lab146  
          exact lab132  hW21
      · have bXi := dgt_b Xa i
        have bYi := dgt_b Ya i
        have hXi := dg_nat Xa i
        have hYi := dg_nat Ya i
        have hZi := dg_nat Z i
        have hmd := mix_dgt 30 op nx ny Xa Ya i
        rw [← hZ, ← hno] at hmd
        have bA : dgt 30 Xa i ^^^ msk 30 nx < 2 ^ 30 := Nat.xor_lt_two_pow bXi hm1
        have bB : dgt 30 Ya i ^^^ msk 30 ny < 2 ^ 30 := Nat.xor_lt_two_pow bYi hm2
        have bC := bopN_lt (op := op) bA bB
        refine J_iload_n 1 d_D_mix_48 rfl rfl ?_
        refine J_aload_n 0 d_D_mix_49 rfl rfl ?_
        refine gf_D_31 (by omega) (by rw [va_up_ne _ _ (by decide)]; exact ((cF_0 (by decide)).trans hDk)) rfl d_D_mix_50 ?_
        refine gf_D_141 (by omega) (by rw [va_up_ne _ _ (by decide)]; exact (cF_N (by decide) ((va_up_ne _ _ (by decide)).trans ((va_up_ne _ _ (by decide)).trans ((va_up_ne _ _ (by decide)).trans (va_up_self ..)))))) rfl d_D_mix_53 ?_
        refine J_iload 7 d_D_mix_56 rfl ?_
        refine J_iaload 0 rfl (by omega) (by rw [va_up_ne _ _ (by decide)]; exact (cF_A (k := 27) (by decide) ((va_up_ne _ _ (by decide)).trans ((va_up_ne _ _ (by decide)).trans ((va_up_ne _ _ (by decide)).trans (va_up_self ..)))))) (by omega) d_D_mix_58 ?_
        refine J_topi (r := (dg Xa) i) (congrArg (fun q => iI ((dg Xa) q)) (by omega)) ?_
        refine J_topi (r := (((dgt 30 Xa i : Nat)) : Int)) (congrArg iI rfl) ?_
        refine J_iload 4 d_D_mix_59 rfl ?_
        refine J_ixor (r := (((dgt 30 Xa i) ^^^ (msk 30 nx) : Nat) : Int)) d_D_mix_61 (iI_xorn (by omega) (by omega)) ?_
        refine J_aload_n 0 d_D_mix_62 rfl rfl ?_
        refine gf_D_34 (by omega) (by rw [va_up_ne _ _ (by decide)]; exact ((cF_0 (by decide)).trans hDk)) rfl d_D_mix_63 ?_
        refine gf_D_141 (by omega) (by rw [va_up_ne _ _ (by decide)]; exact (cF_N (by decide) ((va_up_ne _ _ (by decide)).trans ((va_up_ne _ _ (by decide)).trans (va_up_self ..))))) rfl d_D_mix_66 ?_
        refine J_iload 7 d_D_mix_69 rfl ?_
        refine J_iaload 0 rfl (by omega) (by rw [va_up_ne _ _ (by decide)]; exact (cF_A (k := 29) (by decide) ((va_up_ne _ _ (by decide)).trans ((va_up_ne _ _ (by decide)).trans (va_up_self ..))))) (by omega) d_D_mix_71 ?_
        refine J_topi (r := (dg Ya) i) (congrArg (fun q => iI ((dg Ya) q)) (by omega)) ?_
        refine J_topi (r := (((dgt 30 Ya i : Nat)) : Int)) (congrArg iI rfl) ?_
        refine J_iload 5 d_D_mix_72 rfl ?_
        refine J_ixor (r := (((dgt 30 Ya i) ^^^ (msk 30 ny) : Nat) : Int)) d_D_mix_74 (iI_xorn (by omega) (by omega)) ?_
        refine J_callSi cw_D_137 nh_D_mixBits pn_D_mixBits rfl (As := [.int (iI op), .int (iI (((dgt 30 Xa i) ^^^ (msk 30 nx) : Nat) : Int)), .int (iI (((dgt 30 Ya i) ^^^ (msk 30 ny) : Nat) : Int))]) (rest := []) rfl (Nat.le_of_ble_eq_true rfl) ⟨by decide, by decide⟩ rfl ⟨by decide, by decide⟩ d_D_mix_75 (c_D_mixBits hfl (op := op) (a := dgt 30 Xa i ^^^ msk 30 nx) (b := dgt 30 Ya i ^^^ msk 30 ny) ⟨by omega, by omega⟩ bA bB) (fun zb F2 hq => ?_)
        obtain ⟨hzb, eF2⟩ := hq
        refine J_eqF eF2 ?_
        refine J_topi (r := (((bopN op (dgt 30 Xa i ^^^ msk 30 nx) (dgt 30 Ya i ^^^ msk 30 ny) : Nat)) : Int)) (congrArg iI hzb) ?_
        refine J_istore (lv' := [(8, .int (iI (((bopN op (dgt 30 Xa i ^^^ msk 30 nx) (dgt 30 Ya i ^^^ msk 30 ny) : Nat)) : Int))), (0, .ref (ad 9)), (1, .int (iI op)), (2, .ref (ad x)), (3, .ref (ad y)), (4, .int (iI (((msk 30 nx : Nat)) : Int))), (5, .int (iI (((msk 30 ny : Nat)) : Int))), (6, .int (iI (((msk 30 no : Nat)) : Int))), (7, .int (iI (i : Int)))]) d_D_mix_78 (by decide) rfl ?_
        refine J_aload_n 1 d_D_mix_80 rfl rfl ?_
        refine gf_D_12 (by omega) (by rw [va_up_ne _ _ (by decide)]; exact ((cF_0 (by decide)).trans hDk)) rfl d_D_mix_81 ?_
        refine gf_D_76 (by omega) (by rw [va_up_ne _ _ (by decide)]; exact (cF_U (by decide) (va_up_self ..) (va_up_self ..))) rfl d_D_mix_84 ?_
        refine gf_D_141 (by omega) (by rw [va_up_ne _ _ (by decide)]; exact (cF_N (by decide) ((va_up_ne _ _ (by decide)).trans (va_up_self ..)))) rfl d_D_mix_87 ?_
        refine J_iload 8 d_D_mix_90 rfl ?_
        refine J_iload 0 d_D_mix_92 rfl ?_
        refine J_iload 7 d_D_mix_94 rfl ?_
        refine J_ixor (r := (((bopN op (dgt 30 Xa i ^^^ msk 30 nx) (dgt 30 Ya i ^^^ msk 30 ny)) ^^^ (msk 30 no) : Nat) : Int)) d_D_mix_96 (iI_xorn (by omega) (by omega)) ?_
        refine J_topi (r := (((dgt 30 Z i : Nat)) : Int)) (congrArg iI (by rw [hmd])) ?_
        refine J_iastore 0 rfl (by omega) (by rw [va_up_self]) (by omega) d_D_mix_97 ?_
        refine J_eqF (F2 := va_up (va_up (cF ad g F0 (va_up (va_up (va_up (va_up W 27 Xa) 29 Ya) 11 0) 13 1) (va_up K 10 0) (va_up S 10 0)) 12 (.inl (g 0, 16, .inl (aI f)))) 12 (.inl (g 0, 16, .inl (aI (va_up f i (((dgt 30 Z i : Nat)) : Int)))))) (congrArg (fun q => va_up (va_up (cF ad g F0 (va_up (va_up (va_up (va_up W 27 Xa) 29 Ya) 11 0) 13 1) (va_up K 10 0) (va_up S 10 0)) 12 (.inl (g 0, 16, .inl (aI f)))) 12 (.inl (g 0, 16, .inl (aI (va_up f q (((dgt 30 Z i : Nat)) : Int)))))) (by omega : (i : Int).toNat = i)) ?_
        refine J_eqF (F2 := va_up (cF ad g F0 (va_up (va_up (va_up (va_up W 27 Xa) 29 Ya) 11 0) 13 1) (va_up K 10 0) (va_up S 10 0)) 12 (.inl (g 0, 16, .inl (aI (va_up f i (((dgt 30 Z i : Nat)) : Int)))))) (up_in0) ?_
        refine J_iinc (j := 8) (b := (i : Int) + 1) (lv' := [(7, .int (iI ((i : Int) + 1))), (8, .int (iI (((bopN op (dgt 30 Xa i ^^^ msk 30 nx) (dgt 30 Ya i ^^^ msk 30 ny) : Nat)) : Int))), (0, .ref (ad 9)), (1, .int (iI op)), (2, .ref (ad x)), (3, .ref (ad y)), (4, .int (iI (((msk 30 nx : Nat)) : Int))), (5, .int (iI (((msk 30 ny : Nat)) : Int))), (6, .int (iI (((msk 30 no : Nat)) : Int)))]) d_D_mix_98 rfl (by omega) (by decide) rfl ?_
        refine J_goto (tgt := 41) d_D_mix_101 (by decide) ?_
        refine J_pick (lv' := [(0, .ref (ad 9)), (1, .int (iI op)), (2, .ref (ad x)), (3, .ref (ad y)), (4, .int (iI (((msk 30 nx : Nat)) : Int))), (5, .int (iI (((msk 30 ny : Nat)) : Int))), (6, .int (iI (((msk 30 no : Nat)) : Int))), (7, .int (iI ((i : Int) + 1)))]) [2, 3, 4, 5, 6, 7, 8, 0] rfl ?_
        exact ih (i + 1) (va_up f i (((dgt 30 Z i : Nat)) : Int)) (by omega) (by rw [hf]; exact mix_up (dg_nat Z i).symm) (by omega)
  refine J_eqF (F2 := va_up (cF ad g F0 (va_up (va_up (va_up (va_up W 27 Xa) 29 Ya) 11 0) 13 1) (va_up K 10 0) (va_up S 10 0)) 12 (.inl (g 0, 16, .inl (aI (dg 0))))) (up_same1 (cF_A (k := 11) (by decide) ((va_up_ne _ _ (by decide)).trans (va_up_self ..)))) ?_
  exact loop41 ((16 - 0) + 1) 0 (dg 0) (by omega) (mix_0 _ _) (Nat.lt_succ_self _)
set_option maxRecDepth 100000 in
set_option maxHeartbeats 4000000 in
theorem c_D_shift {l : Launch} (hfl : l.flags = flags0) {D : va_G} {g : Nat → ClassId} {ad : Nat → Nat} {N : Nat} {F0 : Nat → va_E} {W : Nat → Nat} {K S : Nat → Int} {x ux dx : Nat} {kx sx : Int} {by0 : Int}
    (hN : 109 ≤ N) (hW : bW W) (hDk : F0 9 = oD ad) (hxp : isU x) (hx2 : x = 2 ∨ 58 ≤ x) (hx1 : W (x + 1) = ux) (hx3 : W (x + 3) = dx) (hxk : K x = kx) (hxs : S x = sx) (hxr : -1 ≤ sx ∧ sx ≤ 1 ∧ -1 ≤ kx ∧ kx ≤ 2) (hxb : ux < 2 ^ 154 ∧ dx < 2 ^ 154) (hby : -120 ≤ by0 ∧ by0 ≤ 120) (hux : ux < 2 ^ 120) (hdx : dx = 1) :
    JC l y_D_shift b_D_shift 3 (Option.none : Option Jvm.ClassFile.FieldType) rm_D_shift (0, 0) D jCl (jTys g) ad N (cF ad g F0 W K S) [.ref (ad 9), .ref (ad x), .int (iI by0)] (QD ad N g F0 W K S (shF sx ux by0)) := by
  have hx4 := (isU_1 hxp).1
  obtain ⟨R1, hR1⟩ : ∃ r : Nat, r = (if 0 ≤ by0 then ux * 2 ^ by0.toNat else if 0 ≤ sx then ux / 2 ^ (-by0).toNat else (ux - 1) / 2 ^ (-by0).toNat + 1) := ⟨_, rfl⟩
  have hd1 := Nat.div_le_self ux (2 ^ (-by0).toNat)
  have hd2 := Nat.div_le_self (ux - 1) (2 ^ (-by0).toNat)
  have hRb : R1 < 2 ^ 310 := by
    rw [hR1]
    split
    · exact Nat.lt_trans (Nat.lt_of_lt_of_le (Nat.mul_lt_mul_of_lt_of_le hux (Nat.pow_le_pow_right (by decide) (show by0.toNat ≤ 120 by omega)) (Nat.two_pow_pos _)) (by decide : 2 ^ 120 * 2 ^ 120 ≤ 2 ^ 240)) (by decide)
    · split <;> omega
  have hr : shF sx ux by0 = fin 0 sx R1 1 := by unfold shF; rw [← hR1]
  refine JC.go hfl (own := "NumberTower$Desk") (lv := [(0, .ref (ad 9)), (1, .ref (ad x)), (2, .int (iI by0))]) rfl (by decide +kernel) (Nat.le_of_ble_eq_true rfl) rfl (fun A => ?_)
  refine J_aload_n 0 d_D_shift_0 rfl rfl ?_
  refine gf_D_12 (by omega) ((cF_0 (by decide)).trans hDk) rfl d_D_shift_1 ?_
  refine J_aload_n 1 d_D_shift_4 rfl rfl ?_
  refine J_callVv cw_D_62 nh_U_become pn_U_become rfl rfl (by omega) (cF_U (by decide) rfl rfl) (As := [.ref (ad x)]) (rest := []) rfl (Nat.le_of_ble_eq_true rfl) ⟨by decide, by decide⟩ rfl ⟨by decide, by decide⟩ d_D_shift_5 (u_become hfl (F0 := F0) (W := W) (K := K) (S := S) (k := 10) (p := x) (by omega) hW (by decide) hxp (by omega)) (fun  F24 hq => ?_)
  obtain ⟨hWb, eFb⟩ := hq
  rw [show (W) (x + 1) = ux from hx1, show (W) (x + 3) = dx from hx3] at hWb eFb
  rw [show (K) x = kx from hxk, show (S) x = sx from hxs] at eFb
  have hW25 := hWb
  have eB26 := eFb
  refine J_eqF (F2 := cF ad g F0 (va_up (va_up W 11 ux) 13 dx) (va_up K 10 kx) (va_up S 10 sx)) eB26 ?_
  have hW27 := (congrArg (fun qq : Nat => bW (va_up (va_up W 11 ux) 13 qq)) (show (dx) = (1) from hdx)).mp hW25
  refine J_eqF (F2 := cF ad g F0 (va_up (va_up W 11 ux) 13 1) (va_up K 10 kx) (va_up S 10 sx)) (congrArg (fun qq : Nat => cF ad g F0 (va_up (va_up W 11 ux) 13 qq) (va_up K 10 kx) (va_up S 10 sx)) (show (dx) = (1) from hdx)) ?_
  have lab81 : ∀  (hWr : bW (va_up (va_up W 11 R1) 13 1)) , J l rm_D_shift (0, 0) "NumberTower$Desk" b_D_shift 3 (Option.none : Option Jvm.ClassFile.FieldType) D jCl (jTys g) A (fun _ me => me.name = y_D_shift.name) (QD ad N g F0 W K S (shF sx ux by0)) ad N 0 0 81 [(0, .ref (ad 9))] [] (cF ad g F0 (va_up (va_up W 11 R1) 13 1) (va_up K 10 kx) (va_up S 10 sx)) := by
    intro  hWr
    refine J_aload_n 0 d_D_shift_81 rfl rfl ?_
    refine J_iconst d_D_shift_82 ?_
    refine J_callVvx cw_D_101 nh_D_settle pn_D_settle rfl rfl (by omega) ((cF_0 (by decide)).trans hDk) (As := [.int (iI 0)]) (rest := []) rfl (Nat.le_of_ble_eq_true rfl) ⟨by decide, by decide⟩ rfl ⟨by decide, by decide⟩ d_D_shift_83 (d_settle hfl (F0 := F0) (W1 := va_up (va_up W 11 R1) 13 1) (K1 := va_up K 10 kx) (S1 := va_up S 10 sx) (W := W) (K := K) (S := S) (X := R1) (Y := 1) (kd := 0) (s := sx) hN hWr hDk (((va_up_ne _ _ (by decide)).trans (va_up_self ..))) ((va_up_self ..)) ((va_up_self ..)) (by decide) hRb (by decide) ⟨by omega, by omega⟩ (by decide) (fun _ => rfl) (fun j hj => ⟨(show (va_up (va_up W 11 R1) 13 1) j = W j from by rw [va_up_ne _ _ (by omega), va_up_ne _ _ (by omega)]), (show (va_up K 10 kx) j = K j from by rw [va_up_ne _ _ (by omega)]), (show (va_up S 10 sx) j = S j from by rw [va_up_ne _ _ (by omega)])⟩)) (fun  F28 hq => ?_) (fun k9 F9 hq => by (rw [← hr] at hq; exact Or.inr ⟨_, rfl, rfl, rfl, hq⟩))
    have hq := hq
    refine J_vret rfl d_D_shift_86 ⟨by decide, by decide⟩ ?_
    rw [← hr] at hq
    exact Or.inl ⟨rfl, rfl, rfl, hq⟩
  refine J_iload_n 2 d_D_shift_8 rfl rfl ?_
  refine J_iflt (tgt := 26) d_D_shift_9 (by decide) ⟨by omega, by omega⟩ (fun c9 => ?_) (fun c9 => ?_)
  · refine J_aload_n 1 d_D_shift_26 rfl rfl ?_
    refine gf_D_69 (by omega) (cF_U hxp ((va_up_ne _ _ (by omega)).trans hxk) ((va_up_ne _ _ (by omega)).trans hxs)) rfl d_D_shift_27 ?_
    refine J_iflt (tgt := 48) d_D_shift_30 (by decide) ⟨by omega, by omega⟩ (fun c30 => ?_) (fun c30 => ?_)
    · refine J_aload_n 0 d_D_shift_48 rfl rfl ?_
      refine gf_D_12 (by omega) ((cF_0 (by decide)).trans hDk) rfl d_D_shift_49 ?_
      refine gf_D_76 (by omega) (cF_U (by decide) (va_up_self ..) (va_up_self ..)) rfl d_D_shift_52 ?_
      refine J_callSv cw_D_148 nh_D_lessOne pn_D_lessOne rfl (As := [.ref (ad 11)]) (rest := []) rfl (Nat.le_of_ble_eq_true rfl) ⟨by decide, by decide⟩ rfl ⟨by decide, by decide⟩ d_D_shift_55 (c_D_lessOne hfl (F0 := F0) (W := va_up (va_up W 11 ux) 13 1) (K := va_up K 10 kx) (S := va_up S 10 sx) (p := 11) (x := ux) hN hW27 (by decide) (((va_up_ne _ _ (by decide)).trans (va_up_self ..)))) (fun  F29 hq => ?_)
      obtain ⟨hWl, eFl⟩ := hq
      have hW30 := (congrArg bW (up_in1 (by decide))).mp hWl
      refine J_eqF (F2 := cF ad g F0 (va_up (va_up W 11 (ux - 1)) 13 1) (va_up K 10 kx) (va_up S 10 sx)) (eFl.trans (congrArg (fun qq => cF ad g F0 qq (va_up K 10 kx) (va_up S 10 sx)) (up_in1 (by decide)))) ?_
      refine J_aload_n 0 d_D_shift_58 rfl rfl ?_
      refine gf_D_12 (by omega) ((cF_0 (by decide)).trans hDk) rfl d_D_shift_59 ?_
      refine gf_D_76 (by omega) (cF_U (by decide) (va_up_self ..) (va_up_self ..)) rfl d_D_shift_62 ?_
      refine J_iload_n 2 d_D_shift_65 rfl rfl ?_
      refine J_ineg d_D_shift_66 ?_
      refine J_callVv cw_D_158 nh_N_shiftDown pn_N_shiftDown rfl rfl (by omega) (cF_N (by decide) ((va_up_ne _ _ (by decide)).trans (va_up_self ..))) (As := [.int (iI (-by0))]) (rest := []) rfl (Nat.le_of_ble_eq_true rfl) ⟨by decide, by decide⟩ rfl ⟨by decide, by decide⟩ d_D_shift_67 (n_shiftDown hfl (F0 := F0) (W := va_up (va_up W 11 (ux - 1)) 13 1) (K := va_up K 10 kx) (S := va_up S 10 sx) (k := 11) (n := -by0) (hN := by omega) (hW := hW30) (hk := (by decide)) (x := ux - 1) (hx := ((va_up_ne _ _ (by decide)).trans (va_up_self ..))) (hn := ⟨by omega, by omega⟩)) (fun  F34 hq => ?_)
      obtain ⟨hW32, eF33⟩ := hq
      have hW35 := (congrArg bW (up_in1 (by decide))).mp hW32
      refine J_eqF (F2 := cF ad g F0 (va_up (va_up W 11 ((ux - 1) / 2 ^ ((-by0).toNat))) 13 1) (va_up K 10 kx) (va_up S 10 sx)) (eF33.trans (congrArg (fun qq => cF ad g F0 qq (va_up K 10 kx) (va_up S 10 sx)) (up_in1 (by decide)))) ?_
      refine J_aload_n 0 d_D_shift_70 rfl rfl ?_
      refine gf_D_12 (by omega) ((cF_0 (by decide)).trans hDk) rfl d_D_shift_71 ?_
      refine gf_D_76 (by omega) (cF_U (by decide) (va_up_self ..) (va_up_self ..)) rfl d_D_shift_74 ?_
      refine J_iconst d_D_shift_77 ?_
      refine J_callVv cw_D_124 nh_N_addSmall pn_N_addSmall rfl rfl (by omega) (cF_N (by decide) ((va_up_ne _ _ (by decide)).trans (va_up_self ..))) (As := [.int (iI 1)]) (rest := []) rfl (Nat.le_of_ble_eq_true rfl) ⟨by decide, by decide⟩ rfl ⟨by decide, by decide⟩ d_D_shift_78 (n_addSmall hfl (F0 := F0) (W := va_up (va_up W 11 ((ux - 1) / 2 ^ ((-by0).toNat))) 13 1) (K := va_up K 10 kx) (S := va_up S 10 sx) (k := 11) (n := 1) (hN := by omega) (hW := hW35) (hk := (by decide)) (x := (ux - 1) / 2 ^ ((-by0).toNat)) (hx := ((va_up_ne _ _ (by decide)).trans (va_up_self ..))) (hn := by decide) (ht := by omega)) (fun  F39 hq => ?_)
      obtain ⟨hW37, eF38⟩ := hq
      have hW40 := (congrArg bW (up_in1 (by decide))).mp hW37
      refine J_eqF (F2 := cF ad g F0 (va_up (va_up W 11 (((ux - 1) / 2 ^ ((-by0).toNat)) + 1)) 13 1) (va_up K 10 kx) (va_up S 10 sx)) (eF38.trans (congrArg (fun qq => cF ad g F0 qq (va_up K 10 kx) (va_up S 10 sx)) (up_in1 (by decide)))) ?_
      refine J_pick (lv' := [(0, .ref (ad 9))]) [0] rfl ?_
      have hW41 := (congrArg (fun qq : Nat => bW (va_up (va_up W 11 qq) 13 1)) (show (((ux - 1) / 2 ^ ((-by0).toNat)) + 1) = (R1) from (by first | rw [hR1, if_pos (by omega)] | rw [hR1, if_neg (by omega), if_pos (by omega)] | rw [hR1, if_neg (by omega), if_neg (by omega)]))).mp hW40
      refine J_eqF (F2 := cF ad g F0 (va_up (va_up W 11 R1) 13 1) (va_up K 10 kx) (va_up S 10 sx)) (congrArg (fun qq : Nat => cF ad g F0 (va_up (va_up W 11 qq) 13 1) (va_up K 10 kx) (va_up S 10 sx)) (show (((ux - 1) / 2 ^ ((-by0).toNat)) + 1) = (R1) from (by first | rw [hR1, if_pos (by omega)] | rw [hR1, if_neg (by omega), if_pos (by omega)] | rw [hR1, if_neg (by omega), if_neg (by omega)]))) ?_
      exact lab81  hW41
    · refine J_aload_n 0 d_D_shift_33 rfl rfl ?_
      refine gf_D_12 (by omega) ((cF_0 (by decide)).trans hDk) rfl d_D_shift_34 ?_
      refine gf_D_76 (by omega) (cF_U (by decide) (va_up_self ..) (va_up_self ..)) rfl d_D_shift_37 ?_
      refine J_iload_n 2 d_D_shift_40 rfl rfl ?_
      refine J_ineg d_D_shift_41 ?_
      refine J_callVv cw_D_158 nh_N_shiftDown pn_N_shiftDown rfl rfl (by omega) (cF_N (by decide) ((va_up_ne _ _ (by decide)).trans (va_up_self ..))) (As := [.int (iI (-by0))]) (rest := []) rfl (Nat.le_of_ble_eq_true rfl) ⟨by decide, by decide⟩ rfl ⟨by decide, by decide⟩ d_D_shift_42 (n_shiftDown hfl (F0 := F0) (W := va_up (va_up W 11 ux) 13 1) (K := va_up K 10 kx) (S := va_up S 10 sx) (k := 11) (n := -by0) (hN := by omega) (hW := hW27) (hk := (by decide)) (x := ux) (hx := ((va_up_ne _ _ (by decide)).trans (va_up_self ..))) (hn := ⟨by omega, by omega⟩)) (fun  F45 hq => ?_)
      obtain ⟨hW43, eF44⟩ := hq
      have hW46 := (congrArg bW (up_in1 (by decide))).mp hW43
      refine J_eqF (F2 := cF ad g F0 (va_up (va_up W 11 (ux / 2 ^ ((-by0).toNat))) 13 1) (va_up K 10 kx) (va_up S 10 sx)) (eF44.trans (congrArg (fun qq => cF ad g F0 qq (va_up K 10 kx) (va_up S 10 sx)) (up_in1 (by decide)))) ?_
      refine J_goto (tgt := 81) d_D_shift_45 (by decide) ?_
      refine J_pick (lv' := [(0, .ref (ad 9))]) [0] rfl ?_
      have hW47 := (congrArg (fun qq : Nat => bW (va_up (va_up W 11 qq) 13 1)) (show (ux / 2 ^ ((-by0).toNat)) = (R1) from (by first | rw [hR1, if_pos (by omega)] | rw [hR1, if_neg (by omega), if_pos (by omega)] | rw [hR1, if_neg (by omega), if_neg (by omega)]))).mp hW46
      refine J_eqF (F2 := cF ad g F0 (va_up (va_up W 11 R1) 13 1) (va_up K 10 kx) (va_up S 10 sx)) (congrArg (fun qq : Nat => cF ad g F0 (va_up (va_up W 11 qq) 13 1) (va_up K 10 kx) (va_up S 10 sx)) (show (ux / 2 ^ ((-by0).toNat)) = (R1) from (by first | rw [hR1, if_pos (by omega)] | rw [hR1, if_neg (by omega), if_pos (by omega)] | rw [hR1, if_neg (by omega), if_neg (by omega)]))) ?_
      exact lab81  hW47
  · refine J_aload_n 0 d_D_shift_12 rfl rfl ?_
    refine gf_D_12 (by omega) ((cF_0 (by decide)).trans hDk) rfl d_D_shift_13 ?_
    refine gf_D_76 (by omega) (cF_U (by decide) (va_up_self ..) (va_up_self ..)) rfl d_D_shift_16 ?_
    refine J_iload_n 2 d_D_shift_19 rfl rfl ?_
    have hsb : ux * 2 ^ by0.toNat < 2 ^ 241 := Nat.lt_of_lt_of_le (Nat.mul_lt_mul_of_lt_of_le hux (Nat.pow_le_pow_right (by decide) (show by0.toNat ≤ 120 by omega)) (Nat.two_pow_pos _)) (by decide)
    refine J_callVv cw_D_155 nh_N_shiftUp pn_N_shiftUp rfl rfl (by omega) (cF_N (by decide) ((va_up_ne _ _ (by decide)).trans (va_up_self ..))) (As := [.int (iI by0)]) (rest := []) rfl (Nat.le_of_ble_eq_true rfl) ⟨by decide, by decide⟩ rfl ⟨by decide, by decide⟩ d_D_shift_20 (n_shiftUp hfl (F0 := F0) (W := va_up (va_up W 11 ux) 13 1) (K := va_up K 10 kx) (S := va_up S 10 sx) (k := 11) (n := by0) (hN := by omega) (hW := hW27) (hk := (by decide)) (x := ux) (hx := ((va_up_ne _ _ (by decide)).trans (va_up_self ..))) (hn := ⟨by omega, by omega⟩) (ht := Nat.lt_trans hsb (by decide))) (fun  F51 hq => ?_)
    obtain ⟨hW49, eF50⟩ := hq
    have hW52 := (congrArg bW (up_in1 (by decide))).mp hW49
    refine J_eqF (F2 := cF ad g F0 (va_up (va_up W 11 (ux * 2 ^ by0.toNat)) 13 1) (va_up K 10 kx) (va_up S 10 sx)) (eF50.trans (congrArg (fun qq => cF ad g F0 qq (va_up K 10 kx) (va_up S 10 sx)) (up_in1 (by decide)))) ?_
    refine J_goto (tgt := 81) d_D_shift_23 (by decide) ?_
    refine J_pick (lv' := [(0, .ref (ad 9))]) [0] rfl ?_
    have hW53 := (congrArg (fun qq : Nat => bW (va_up (va_up W 11 qq) 13 1)) (show (ux * 2 ^ by0.toNat) = (R1) from (by first | rw [hR1, if_pos (by omega)] | rw [hR1, if_neg (by omega), if_pos (by omega)] | rw [hR1, if_neg (by omega), if_neg (by omega)]))).mp hW52
    refine J_eqF (F2 := cF ad g F0 (va_up (va_up W 11 R1) 13 1) (va_up K 10 kx) (va_up S 10 sx)) (congrArg (fun qq : Nat => cF ad g F0 (va_up (va_up W 11 qq) 13 1) (va_up K 10 kx) (va_up S 10 sx)) (show (ux * 2 ^ by0.toNat) = (R1) from (by first | rw [hR1, if_pos (by omega)] | rw [hR1, if_neg (by omega), if_pos (by omega)] | rw [hR1, if_neg (by omega), if_neg (by omega)]))) ?_
    exact lab81  hW53
set_option maxRecDepth 100000 in
set_option maxHeartbeats 4000000 in
theorem c_D_finishReading {l : Launch} (hfl : l.flags = flags0) {D : va_G} {g : Nat → ClassId} {ad : Nat → Nat} {N : Nat} {F0 : Nat → va_E} {W : Nat → Nat} {K S : Nat → Int} {X Y : Nat} {kx s t : Int}
    (hN : 109 ≤ N) (hW : bW W) (hDk : F0 9 = oD ad) (h11 : W 11 = X) (h13 : W 13 = Y) (h10 : K 10 = kx) (hs10 : S 10 = s) (hX : X < 2 ^ 154) (hY : 0 < Y ∧ Y < 2 ^ 154) (hY2 : kx ≠ 1 → Y = 1) (hs : -1 ≤ s ∧ s ≤ 1) (hk : 0 ≤ kx ∧ kx ≤ 2) (ht : -100000 ≤ t ∧ t ≤ 100000) :
    JC l y_D_finishReading b_D_finishReading 2 (Option.none : Option Jvm.ClassFile.FieldType) rm_D_finishReading (0, 0) D jCl (jTys g) ad N (cF ad g F0 W K S) [.ref (ad 9), .int (iI t)] (QD ad N g F0 W K S (readF kx s X Y t)) := by
  refine JC.go hfl (own := "NumberTower$Desk") (lv := [(0, .ref (ad 9)), (1, .int (iI t))]) rfl (by decide +kernel) (Nat.le_of_ble_eq_true rfl) rfl (fun A => ?_)
  refine J_aload_n 0 d_D_finishReading_0 rfl rfl ?_
  refine gf_D_12 (by omega) ((cF_0 (by decide)).trans hDk) rfl d_D_finishReading_1 ?_
  refine gf_D_52 (by omega) (cF_U (by decide) h10 hs10) rfl d_D_finishReading_4 ?_
  refine J_iconst d_D_finishReading_7 ?_
  refine J_if_icmpne (tgt := 69) d_D_finishReading_8 (by decide) ⟨by omega, by omega⟩ ⟨by omega, by omega⟩ (fun c8 => ?_) (fun c8 => ?_)
  · refine J_pick (lv' := [(0, .ref (ad 9))]) [0] rfl ?_
    have lab69 : ∀ (W1 : Nat → Nat) (X1 : Nat) (Y1 : Nat) (hW1 : bW W1) (hf1 : ∀ j, (j < 10 ∨ 40 < j) → W1 j = W j) (h11 : W1 11 = X1) (h13 : W1 13 = Y1) (hr : readF kx s X Y t = fin kx s X1 Y1) (hX1b : X1 < 2 ^ 310) (hY1b : Y1 < 2 ^ 310) (hY10 : 0 < Y1) (hk10 : kx = 0 → Y1 = 1) , J l rm_D_finishReading (0, 0) "NumberTower$Desk" b_D_finishReading 2 (Option.none : Option Jvm.ClassFile.FieldType) D jCl (jTys g) A (fun _ me => me.name = y_D_finishReading.name) (QD ad N g F0 W K S (readF kx s X Y t)) ad N 0 0 69 [(0, .ref (ad 9))] [] (cF ad g F0 W1 K S) := by
      intro W1 X1 Y1 hW1 hf1 h11 h13 hr hX1b hY1b hY10 hk10
      refine J_aload_n 0 d_D_finishReading_69 rfl rfl ?_
      refine J_aload_n 0 d_D_finishReading_70 rfl rfl ?_
      refine gf_D_12 (by omega) ((cF_0 (by decide)).trans hDk) rfl d_D_finishReading_71 ?_
      refine gf_D_52 (by omega) (cF_U (by decide) h10 hs10) rfl d_D_finishReading_74 ?_
      refine J_callVvx cw_D_101 nh_D_settle pn_D_settle rfl rfl (by omega) ((cF_0 (by decide)).trans hDk) (As := [.int (iI kx)]) (rest := []) rfl (Nat.le_of_ble_eq_true rfl) ⟨by decide, by decide⟩ rfl ⟨by decide, by decide⟩ d_D_finishReading_77 (d_settle hfl (F0 := F0) (W1 := W1) (K1 := K) (S1 := S) (W := W) (K := K) (S := S) (X := X1) (Y := Y1) (kd := kx) (s := s) hN hW1 hDk (h11) (h13) (hs10) hY10 hX1b hY1b hs hk hk10 (fun j hj => ⟨((show (W1) j = W1 j from by rfl)).trans (hf1 j hj), (show (K) j = K j from by rfl), (show (S) j = S j from by rfl)⟩)) (fun  F54 hq => ?_) (fun k9 F9 hq => by (rw [← hr] at hq; exact Or.inr ⟨_, rfl, rfl, rfl, hq⟩))
      have hq := hq
      refine J_vret rfl d_D_finishReading_80 ⟨by decide, by decide⟩ ?_
      rw [← hr] at hq
      exact Or.inl ⟨rfl, rfl, rfl, hq⟩
    exact lab69 W X Y hW (fun j hj => (show (W) j = W j from by rfl)) (h11) (h13) (by unfold readF; rw [if_neg (by omega)]) (Nat.lt_trans hX (by decide)) (Nat.lt_trans hY.2 (by decide)) hY.1 (fun e => hY2 (by omega))
  · refine J_aload_n 0 d_D_finishReading_11 rfl rfl ?_
    refine gf_D_12 (by omega) ((cF_0 (by decide)).trans hDk) rfl d_D_finishReading_12 ?_
    refine gf_D_76 (by omega) (cF_U (by decide) h10 hs10) rfl d_D_finishReading_15 ?_
    refine J_callVi cw_D_120 nh_N_isZero pn_N_isZero rfl rfl (by omega) (cF_N (by decide) h11) (As := []) (rest := []) rfl (Nat.le_of_ble_eq_true rfl) ⟨by decide, by decide⟩ rfl ⟨by decide, by decide⟩ d_D_finishReading_18 (n_isZero hfl (F0 := F0) (W := W) (K := K) (S := S) (k := 11) (hN := by omega) (hW := hW) (hk := (by decide)) (x := X) (hx := h11)) (fun z55 F1 hq => ?_)
    obtain ⟨hz55, eF1⟩ := hq
    refine J_eqF eF1 ?_
    refine J_ifne (tgt := 69) d_D_finishReading_21 (by decide) ⟨by omega, by omega⟩ (fun c21 => ?_) (fun c21 => ?_)
    · refine J_pick (lv' := [(0, .ref (ad 9))]) [0] rfl ?_
      have lab69 : ∀ (W1 : Nat → Nat) (X1 : Nat) (Y1 : Nat) (hW1 : bW W1) (hf1 : ∀ j, (j < 10 ∨ 40 < j) → W1 j = W j) (h11 : W1 11 = X1) (h13 : W1 13 = Y1) (hr : readF kx s X Y t = fin kx s X1 Y1) (hX1b : X1 < 2 ^ 310) (hY1b : Y1 < 2 ^ 310) (hY10 : 0 < Y1) (hk10 : kx = 0 → Y1 = 1) , J l rm_D_finishReading (0, 0) "NumberTower$Desk" b_D_finishReading 2 (Option.none : Option Jvm.ClassFile.FieldType) D jCl (jTys g) A (fun _ me => me.name = y_D_finishReading.name) (QD ad N g F0 W K S (readF kx s X Y t)) ad N 0 0 69 [(0, .ref (ad 9))] [] (cF ad g F0 W1 K S) := by
        intro W1 X1 Y1 hW1 hf1 h11 h13 hr hX1b hY1b hY10 hk10
        refine J_aload_n 0 d_D_finishReading_69 rfl rfl ?_
        refine J_aload_n 0 d_D_finishReading_70 rfl rfl ?_
        refine gf_D_12 (by omega) ((cF_0 (by decide)).trans hDk) rfl d_D_finishReading_71 ?_
        refine gf_D_52 (by omega) (cF_U (by decide) h10 hs10) rfl d_D_finishReading_74 ?_
        refine J_callVvx cw_D_101 nh_D_settle pn_D_settle rfl rfl (by omega) ((cF_0 (by decide)).trans hDk) (As := [.int (iI kx)]) (rest := []) rfl (Nat.le_of_ble_eq_true rfl) ⟨by decide, by decide⟩ rfl ⟨by decide, by decide⟩ d_D_finishReading_77 (d_settle hfl (F0 := F0) (W1 := W1) (K1 := K) (S1 := S) (W := W) (K := K) (S := S) (X := X1) (Y := Y1) (kd := kx) (s := s) hN hW1 hDk (h11) (h13) (hs10) hY10 hX1b hY1b hs hk hk10 (fun j hj => ⟨((show (W1) j = W1 j from by rfl)).trans (hf1 j hj), (show (K) j = K j from by rfl), (show (S) j = S j from by rfl)⟩)) (fun  F56 hq => ?_) (fun k9 F9 hq => by (rw [← hr] at hq; exact Or.inr ⟨_, rfl, rfl, rfl, hq⟩))
        have hq := hq
        refine J_vret rfl d_D_finishReading_80 ⟨by decide, by decide⟩ ?_
        rw [← hr] at hq
        exact Or.inl ⟨rfl, rfl, rfl, hq⟩
      exact lab69 W X Y hW (fun j hj => (show (W) j = W j from by rfl)) (h11) (h13) (by unfold readF; rw [if_neg (by omega)]) (Nat.lt_trans hX (by decide)) (Nat.lt_trans hY.2 (by decide)) hY.1 (fun e => hY2 (by omega))
    · refine J_iload_n 1 d_D_finishReading_24 rfl rfl ?_
      refine J_bipush d_D_finishReading_25 (i8_ok (by decide)) ?_
      refine J_if_icmpgt (tgt := 36) d_D_finishReading_27 (by decide) ⟨by omega, by omega⟩ ⟨by omega, by omega⟩ (fun c27 => ?_) (fun c27 => ?_)
      · refine J_throw (k := 2) (by decide) wd_614 wd_615 wd_17 wd_624 (List.mem_of_getElem? (i := 2) rfl) d_D_finishReading_36 d_D_finishReading_39 d_D_finishReading_40 d_D_finishReading_42 d_D_finishReading_45 ⟨by decide, by decide⟩ (by decide) (by decide) ?_
        exact Or.inr ⟨_, rfl, rfl, rfl, rfl, by unfold readF; rw [if_pos ⟨by omega, by omega⟩, if_pos (by omega)], scr_0 hW (fun j hj => ⟨rfl, rfl, rfl⟩)⟩
      · refine J_iload_n 1 d_D_finishReading_30 rfl rfl ?_
        refine J_bipush d_D_finishReading_31 (i8_ok (by decide)) ?_
        refine J_if_icmpge (tgt := 46) d_D_finishReading_33 (by decide) ⟨by omega, by omega⟩ ⟨by omega, by omega⟩ (fun c33 => ?_) (fun c33 => ?_)
        · have ht1 : 10 ^ t.toNat ≤ 10 ^ 40 := Nat.pow_le_pow_right (by decide) (by omega)
          have ht2 : 10 ^ (-t).toNat ≤ 10 ^ 80 := Nat.pow_le_pow_right (by decide) (by omega)
          have hb1 : X * 10 ^ t.toNat < 2 ^ 300 := Nat.lt_of_lt_of_le (Nat.mul_lt_mul_of_lt_of_le hX ht1 (Nat.pow_pos (by decide))) (by decide)
          have hb2 : Y * 10 ^ (-t).toNat < 2 ^ 300 := by
            rw [hY2 (by omega), Nat.one_mul]
            exact Nat.lt_of_le_of_lt ht2 (by decide)
          refine J_aload_n 0 d_D_finishReading_46 rfl rfl ?_
          refine gf_D_12 (by omega) ((cF_0 (by decide)).trans hDk) rfl d_D_finishReading_47 ?_
          refine gf_D_76 (by omega) (cF_U (by decide) h10 hs10) rfl d_D_finishReading_50 ?_
          refine J_iload_n 1 d_D_finishReading_53 rfl rfl ?_
          refine J_callVv cw_D_183 nh_N_scaleTens pn_N_scaleTens rfl rfl (by omega) (cF_N (by decide) h11) (As := [.int (iI t)]) (rest := []) rfl (Nat.le_of_ble_eq_true rfl) ⟨by decide, by decide⟩ rfl ⟨by decide, by decide⟩ d_D_finishReading_54 (n_scaleTens hfl (F0 := F0) (W := W) (K := K) (S := S) (k := 11) (n := t) (hN := by omega) (hW := hW) (hk := (by decide)) (x := X) (hx := h11) (hn := by omega) (ht := Nat.lt_trans hb1 (by decide))) (fun  F60 hq => ?_)
          obtain ⟨hW58, eF59⟩ := hq
          refine J_eqF (F2 := cF ad g F0 (va_up W 11 (X * 10 ^ t.toNat)) K S) eF59 ?_
          refine J_aload_n 0 d_D_finishReading_57 rfl rfl ?_
          refine gf_D_12 (by omega) ((cF_0 (by decide)).trans hDk) rfl d_D_finishReading_58 ?_
          refine gf_D_79 (by omega) (cF_U (by decide) h10 hs10) rfl d_D_finishReading_61 ?_
          refine J_iload_n 1 d_D_finishReading_64 rfl rfl ?_
          refine J_ineg d_D_finishReading_65 ?_
          refine J_callVv cw_D_183 nh_N_scaleTens pn_N_scaleTens rfl rfl (by omega) (cF_N (by decide) ((va_up_ne _ _ (by decide)).trans h13)) (As := [.int (iI (-t))]) (rest := []) rfl (Nat.le_of_ble_eq_true rfl) ⟨by decide, by decide⟩ rfl ⟨by decide, by decide⟩ d_D_finishReading_66 (n_scaleTens hfl (F0 := F0) (W := va_up W 11 (X * 10 ^ t.toNat)) (K := K) (S := S) (k := 13) (n := -t) (hN := by omega) (hW := hW58) (hk := (by decide)) (x := Y) (hx := ((va_up_ne _ _ (by decide)).trans h13)) (hn := by omega) (ht := Nat.lt_trans hb2 (by decide))) (fun  F64 hq => ?_)
          obtain ⟨hW62, eF63⟩ := hq
          refine J_eqF (F2 := cF ad g F0 (va_up (va_up W 11 (X * 10 ^ t.toNat)) 13 (Y * 10 ^ ((-t).toNat))) K S) eF63 ?_
          refine J_pick (lv' := [(0, .ref (ad 9))]) [0] rfl ?_
          have lab69 : ∀ (W1 : Nat → Nat) (X1 : Nat) (Y1 : Nat) (hW1 : bW W1) (hf1 : ∀ j, (j < 10 ∨ 40 < j) → W1 j = W j) (h11 : W1 11 = X1) (h13 : W1 13 = Y1) (hr : readF kx s X Y t = fin kx s X1 Y1) (hX1b : X1 < 2 ^ 310) (hY1b : Y1 < 2 ^ 310) (hY10 : 0 < Y1) (hk10 : kx = 0 → Y1 = 1) , J l rm_D_finishReading (0, 0) "NumberTower$Desk" b_D_finishReading 2 (Option.none : Option Jvm.ClassFile.FieldType) D jCl (jTys g) A (fun _ me => me.name = y_D_finishReading.name) (QD ad N g F0 W K S (readF kx s X Y t)) ad N 0 0 69 [(0, .ref (ad 9))] [] (cF ad g F0 W1 K S) := by
            intro W1 X1 Y1 hW1 hf1 h11 h13 hr hX1b hY1b hY10 hk10
            refine J_aload_n 0 d_D_finishReading_69 rfl rfl ?_
            refine J_aload_n 0 d_D_finishReading_70 rfl rfl ?_
            refine gf_D_12 (by omega) ((cF_0 (by decide)).trans hDk) rfl d_D_finishReading_71 ?_
            refine gf_D_52 (by omega) (cF_U (by decide) h10 hs10) rfl d_D_finishReading_74 ?_
            refine J_callVvx cw_D_101 nh_D_settle pn_D_settle rfl rfl (by omega) ((cF_0 (by decide)).trans hDk) (As := [.int (iI kx)]) (rest := []) rfl (Nat.le_of_ble_eq_true rfl) ⟨by decide, by decide⟩ rfl ⟨by decide, by decide⟩ d_D_finishReading_77 (d_settle hfl (F0 := F0) (W1 := W1) (K1 := K) (S1 := S) (W := W) (K := K) (S := S) (X := X1) (Y := Y1) (kd := kx) (s := s) hN hW1 hDk (h11) (h13) (hs10) hY10 hX1b hY1b hs hk hk10 (fun j hj => ⟨((show (W1) j = W1 j from by rfl)).trans (hf1 j hj), (show (K) j = K j from by rfl), (show (S) j = S j from by rfl)⟩)) (fun  F65 hq => ?_) (fun k9 F9 hq => by (rw [← hr] at hq; exact Or.inr ⟨_, rfl, rfl, rfl, hq⟩))
            have hq := hq
            refine J_vret rfl d_D_finishReading_80 ⟨by decide, by decide⟩ ?_
            rw [← hr] at hq
            exact Or.inl ⟨rfl, rfl, rfl, hq⟩
          exact lab69 (va_up (va_up W 11 (X * 10 ^ t.toNat)) 13 (Y * 10 ^ ((-t).toNat))) (X * 10 ^ t.toNat) (Y * 10 ^ ((-t).toNat)) hW62 (fun j hj => (show (va_up (va_up W 11 (X * 10 ^ t.toNat)) 13 (Y * 10 ^ ((-t).toNat))) j = W j from by rw [va_up_ne _ _ (by omega), va_up_ne _ _ (by omega)])) (((va_up_ne _ _ (by decide)).trans (va_up_self ..))) ((va_up_self ..)) (by unfold readF; rw [if_pos ⟨by omega, by omega⟩, if_neg (by omega), show kx = 2 by omega]) (Nat.lt_trans hb1 (by decide)) (Nat.lt_trans hb2 (by decide)) (Nat.mul_pos hY.1 (Nat.pow_pos (by decide))) (fun e => by omega)
        · refine J_throw (k := 2) (by decide) wd_614 wd_615 wd_17 wd_624 (List.mem_of_getElem? (i := 2) rfl) d_D_finishReading_36 d_D_finishReading_39 d_D_finishReading_40 d_D_finishReading_42 d_D_finishReading_45 ⟨by decide, by decide⟩ (by decide) (by decide) ?_
          exact Or.inr ⟨_, rfl, rfl, rfl, rfl, by unfold readF; rw [if_pos ⟨by omega, by omega⟩, if_pos (by omega)], scr_0 hW (fun j hj => ⟨rfl, rfl, rfl⟩)⟩
