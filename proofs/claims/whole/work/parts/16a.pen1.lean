/-! the class writes: digits -/

abbrev oP (ad : Nat → Nat) (ex : Int) : va_E := .inr (4, [.ref (ad 44), .ref (ad 46), .ref (ad 48), .ref (ad 50), .ref (ad 52), .ref (ad 54), .ref (ad 56), .int (iI ex)])
theorem c_T_putN {l : Launch} (hfl : l.flags = flags0) {D : va_G} {g : Nat → ClassId} {ad : Nat → Nat} {N : Nat} {F : Nat → va_E} {k : Nat} {w : List Nat} {hh : Nat → Int} {c : Nat} (hk : k + 1 < N) (hF : F k = oT ad k (w.length : Int)) (hA : F (k + 1) = aT g hh) (tt : tx hh w) (hl : w.length < 200) (hc : c < 65536) :
    JC l y_T_put b_T_put 2 (Option.none : Option Jvm.ClassFile.FieldType) rm_T_put (0, 0) D jCl (jTys g) ad N F [.ref (ad k), .int (iI (c : Int))] (jv ad N (fun F' => ∃ h' : Nat → Int, tx h' (w ++ [c]) ∧ F' = va_up (va_up F (k + 1) (aT g h')) k (oT ad k ((w ++ [c]).length : Int)))) :=
  c_T_put hfl (c := (c : Int)) hk hF hA tt hl ⟨by omega, by omega⟩
theorem c_T_putManyN {l : Launch} (hfl : l.flags = flags0) {D : va_G} {g : Nat → ClassId} {ad : Nat → Nat} {N : Nat} {F : Nat → va_E} {k : Nat} {w : List Nat} {hh : Nat → Int} {c n : Nat} (hk : k + 1 < N) (hF : F k = oT ad k (w.length : Int)) (hA : F (k + 1) = aT g hh) (tt : tx hh w) (hl : w.length ≤ 200) (hc : c < 65536) (hn : w.length + n ≤ 200) :
    JC l y_T_putMany b_T_putMany 4 (Option.none : Option Jvm.ClassFile.FieldType) rm_T_putMany (0, 0) D jCl (jTys g) ad N F [.ref (ad k), .int (iI (c : Int)), .int (iI (n : Int))] (jv ad N (fun F' => ∃ h' : Nat → Int, tx h' (w ++ List.replicate n c) ∧ F' = va_up (va_up F (k + 1) (aT g h')) k (oT ad k ((w ++ List.replicate n c).length : Int)))) :=
  c_T_putMany hfl (c := (c : Int)) (n := (n : Int)) hk hF hA tt hl ⟨by omega, by omega⟩ ⟨⟨by omega, by omega⟩, hn⟩
theorem c_T_putManyI {l : Launch} (hfl : l.flags = flags0) {D : va_G} {g : Nat → ClassId} {ad : Nat → Nat} {N : Nat} {F : Nat → va_E} {k : Nat} {w : List Nat} {hh : Nat → Int} {c : Nat} {n : Int} (hk : k + 1 < N) (hF : F k = oT ad k (w.length : Int)) (hA : F (k + 1) = aT g hh) (tt : tx hh w) (hl : w.length ≤ 200) (hc : c < 65536) (hn : -2000 ≤ n ∧ w.length + n.toNat ≤ 200) :
    JC l y_T_putMany b_T_putMany 4 (Option.none : Option Jvm.ClassFile.FieldType) rm_T_putMany (0, 0) D jCl (jTys g) ad N F [.ref (ad k), .int (iI (c : Int)), .int (iI n)] (jv ad N (fun F' => ∃ h' : Nat → Int, tx h' (w ++ List.replicate n.toNat c) ∧ F' = va_up (va_up F (k + 1) (aT g h')) k (oT ad k ((w ++ List.replicate n.toNat c).length : Int)))) :=
  c_T_putMany hfl (c := (c : Int)) (n := n) hk hF hA tt hl ⟨by omega, by omega⟩ ⟨⟨by omega, by omega⟩, hn.2⟩
theorem c_T_putFromN {l : Launch} (hfl : l.flags = flags0) {D : va_G} {g : Nat → ClassId} {ad : Nat → Nat} {N : Nat} {F : Nat → va_E} {k m : Nat} {w v u : List Nat} {hh yh : Nat → Int} {p q : Nat} (hk : k + 1 < N) (hF : F k = oT ad k (w.length : Int)) (hA : F (k + 1) = aT g hh) (tt : tx hh w) (hl : w.length ≤ 200) (yhk : m + 1 < N) (yhF : F m = oT ad m (v.length : Int)) (yhA : F (m + 1) = aT g yh) (ytt : tx yh v) (yhl : v.length ≤ 200) (hd : k + 1 < m ∨ m + 1 < k) (hp : p ≤ 1000) (hq : q ≤ 1000) (hu : (v.drop p).take (q - p) = u) (hn2 : (w ++ u).length ≤ 200) :
    JC l y_T_putFrom b_T_putFrom 5 (Option.none : Option Jvm.ClassFile.FieldType) rm_T_putFrom (0, 0) D jCl (jTys g) ad N F [.ref (ad k), .ref (ad m), .int (iI (p : Int)), .int (iI (q : Int))] (jv ad N (fun F' => ∃ h' : Nat → Int, tx h' (w ++ u) ∧ F' = va_up (va_up F (k + 1) (aT g h')) k (oT ad k ((w ++ u).length : Int)))) := by
  subst hu
  exact c_T_putFrom hfl (p := (p : Int)) (q := (q : Int)) hk hF hA tt hl yhk yhF yhA ytt yhl hd ⟨by omega, by omega⟩ ⟨by omega, by omega⟩ hn2
theorem c_T_clearN {l : Launch} (hfl : l.flags = flags0) {D : va_G} {g : Nat → ClassId} {ad : Nat → Nat} {N : Nat} {F : Nat → va_E} {k : Nat} {w : List Nat} {hh : Nat → Int} (hk : k + 1 < N) (hF : F k = oT ad k (w.length : Int)) (hA : F (k + 1) = aT g hh) (tt : tx hh w) (hl : w.length ≤ 200) :
    JC l y_T_clear b_T_clear 1 (Option.none : Option Jvm.ClassFile.FieldType) rm_T_clear (0, 0) D jCl (jTys g) ad N F [.ref (ad k)] (jv ad N (fun F' => F' = va_up F k (oT ad k ((([] : List Nat).length : Nat) : Int)))) :=
  c_T_clear hfl hk hF hA tt hl
theorem c_T_reverseN {l : Launch} (hfl : l.flags = flags0) {D : va_G} {g : Nat → ClassId} {ad : Nat → Nat} {N : Nat} {F : Nat → va_E} {k : Nat} {w u : List Nat} {hh : Nat → Int} (hk : k + 1 < N) (hF : F k = oT ad k (w.length : Int)) (hA : F (k + 1) = aT g hh) (tt : tx hh w) (hl : w.length ≤ 200) (hu : w.reverse = u) :
    JC l y_T_reverse b_T_reverse 4 (Option.none : Option Jvm.ClassFile.FieldType) rm_T_reverse (0, 0) D jCl (jTys g) ad N F [.ref (ad k)] (jv ad N (fun F' => ∃ h' : Nat → Int, tx h' u ∧ F' = va_up (va_up F (k + 1) (aT g h')) k (oT ad k (u.length : Int)))) := by
  subst hu
  exact c_T_reverse hfl hk hF hA tt hl
/-- digits from the lowest on -/
def lowD (dv : Nat → Nat) (cap : Int) : Nat → List Nat
  | 0 => []
  | n + 1 => lowD dv cap n ++ [chd cap (dv n)]
theorem lowD_l {dv : Nat → Nat} {cap : Int} : ∀ n, (lowD dv cap n).length = n := by
  intro n
  induction n with
  | zero => rfl
  | succ n ih => show (lowD dv cap n ++ [_]).length = _; rw [List.length_append, ih]; rfl
theorem lowD_r {dv : Nat → Nat} {cap : Int} {grp : Nat} : ∀ n, (lowD dv cap n).reverse = sgr dv cap grp 0 0 n := by
  intro n
  induction n with
  | zero => rfl
  | succ n ih =>
    show (lowD dv cap n ++ [_]).reverse = _
    rw [List.reverse_append, ih, sgr_n (by omega), Nat.zero_add]; rfl
/-- the digits of a number, at least l of them -/
def dgL (b : Nat) (cap : Int) (l v : Nat) : List Nat := sgr (dgv b v) cap 3 0 0 (ndm b l v)
theorem dgL_l {b l v : Nat} {cap : Int} : (dgL b cap l v).length = ndm b l v := sgr_1 _
theorem take_all0 {v : List Nat} : (v.drop 0).take (v.length - 0) = v := by rw [List.drop_zero, Nat.sub_zero, List.take_length]
set_option maxRecDepth 100000 in
set_option maxHeartbeats 4000000 in
theorem c_P_setDigits {l : Launch} (hfl : l.flags = flags0) {D : va_G} {g : Nat → ClassId} {ad : Nat → Nat} {N : Nat} {F0 : Nat → va_E} {W : Nat → Nat} {K S : Nat → Int} {ex : Int} {wD : List Nat} {hD : Nat → Int} {b lst v : Nat} {ten cap : Int}
    (hN : 109 ≤ N) (hW : bW W) (hPn : F0 43 = oP ad ex) (hTD : F0 50 = oT ad 50 (wD.length : Int)) (hAD : F0 51 = aT g hD) (ttD : tx hD wD) (hlD : wD.length ≤ 200) (hv : W 52 = v) (hb : 2 ≤ b ∧ b ≤ 16) (hcap : (cap = 0 ∧ ten = 97) ∨ (cap = 1 ∧ ten = 65)) (hn : ndm b lst v ≤ 199) :
    JC l y_P_setDigits b_P_setDigits 6 (Option.none : Option Jvm.ClassFile.FieldType) rm_P_setDigits (0, 0) D jCl (jTys g) ad N (cF ad g F0 W K S) [.ref (ad 43), .int (iI (b : Int)), .int (iI ten), .int (iI (lst : Int))] (jv ad N (fun F' => ∃ h' : Nat → Int, tx h' (dgL b cap lst v) ∧ bW (va_up W 52 0) ∧ F' = cF ad g (va_up (va_up F0 51 (aT g h')) 50 (oT ad 50 ((dgL b cap lst v).length : Int))) (va_up W 52 0) K S)) := by
  have hlst : lst ≤ 199 := by unfold ndm at hn; split at hn <;> omega
  have hstep : ∀ i, (v / b ^ i ≠ 0 ∨ i < lst) → i < ndm b lst v := by
    intro i h
    have h2 : ndg b v ≤ i ↔ v < b ^ i := ndg_le hb.1
    unfold ndm
    rcases h with h | h
    · have h3 : ¬ v < b ^ i := fun w2 => h (Nat.div_eq_of_lt w2)
      have h4 : ¬ ndg b v ≤ i := fun w2 => h3 (h2.mp w2)
      split <;> omega
    · split <;> omega
  refine JC.go hfl (own := "NumberTower$Pen") (lv := [(0, .ref (ad 43)), (1, .int (iI (b : Int))), (2, .int (iI ten)), (3, .int (iI (lst : Int)))]) rfl (by decide +kernel) (Nat.le_of_ble_eq_true rfl) rfl (fun A => ?_)
  refine J_aload_n 0 d_P_setDigits_0 rfl rfl ?_
  refine gf_P_24 (by omega) ((cF_0 (by decide)).trans hPn) rfl d_P_setDigits_1 ?_
  refine J_callVv cw_P_40 nh_T_clear pn_T_clear rfl rfl (by omega) ((cF_0 (by decide)).trans hTD) (As := []) (rest := []) rfl (Nat.le_of_ble_eq_true rfl) ⟨by decide, by decide⟩ rfl ⟨by decide, by decide⟩ d_P_setDigits_4 (c_T_clearN hfl (k := 50) (w := wD) (hh := hD) (by omega) ((cF_0 (by decide)).trans hTD) ((cF_0 (by decide)).trans hAD) ttD hlD) (fun  F1 hq => ?_)
  have eF1 := hq
  refine J_eqF (F2 := cF ad g (va_up F0 50 (.inr (7, [.ref (ad 51), .int (iI ((([] : List Nat).length : Nat) : Int))]))) W K S) (eF1.trans (cF_up0 (by decide))) ?_
  refine J_iconst d_P_setDigits_7 ?_
  refine J_istore (lv' := [(4, .int (iI 0)), (0, .ref (ad 43)), (1, .int (iI (b : Int))), (2, .int (iI ten)), (3, .int (iI (lst : Int)))]) d_P_setDigits_8 (by decide) rfl ?_
  refine J_pick (lv' := [(0, .ref (ad 43)), (1, .int (iI (b : Int))), (2, .int (iI ten)), (3, .int (iI (lst : Int))), (4, .int (iI 0))]) [1, 2, 3, 4, 0] rfl ?_
  refine J_eqF (F2 := cF ad g (va_up (va_up F0 50 (.inr (7, [.ref (ad 51), .int (iI ((([] : List Nat).length : Nat) : Int))]))) 51 (.inl (g 1, 200, .inl (aI hD)))) W K S) (congrArg (fun qq : Nat → va_E => cF ad g qq W K S) (up_same1 (i := 51) (a := ((.inl (g 1, 200, .inl (aI hD))) : va_E)) (by rw [va_up_ne _ _ (by decide)]; exact hAD))) ?_
  refine J_eqF (F2 := cF ad g (va_up (va_up F0 51 (.inl (g 1, 200, .inl (aI hD)))) 50 (.inr (7, [.ref (ad 51), .int (iI ((([] : List Nat).length : Nat) : Int))]))) W K S) (congrArg (fun qq : Nat → va_E => cF ad g qq W K S) (up_cm (by decide))) ?_
  have hW1 := (congrArg bW (up_same1 (i := 52) (a := v) (show (W) 52 = v from hv))).mp hW
  refine J_eqF (F2 := cF ad g (va_up (va_up F0 51 (.inl (g 1, 200, .inl (aI hD)))) 50 (.inr (7, [.ref (ad 51), .int (iI ((([] : List Nat).length : Nat) : Int))]))) (va_up W 52 v) K S) (congrArg (fun qq => cF ad g (va_up (va_up F0 51 (.inl (g 1, 200, .inl (aI hD)))) 50 (.inr (7, [.ref (ad 51), .int (iI ((([] : List Nat).length : Nat) : Int))]))) qq K S) (up_same1 (i := 52) (a := v) (show (W) 52 = v from hv))) ?_
  have hW2 := (congrArg (fun qq : Nat => bW (va_up W 52 qq)) (show (v) = (v / b ^ 0) from (by rw [Nat.pow_zero, Nat.div_one]))).mp hW1
  refine J_eqF (F2 := cF ad g (va_up (va_up F0 51 (.inl (g 1, 200, .inl (aI hD)))) 50 (.inr (7, [.ref (ad 51), .int (iI ((([] : List Nat).length : Nat) : Int))]))) (va_up W 52 (v / b ^ 0)) K S) (congrArg (fun qq : Nat => cF ad g (va_up (va_up F0 51 (.inl (g 1, 200, .inl (aI hD)))) 50 (.inr (7, [.ref (ad 51), .int (iI ((([] : List Nat).length : Nat) : Int))]))) (va_up W 52 qq) K S) (show (v) = (v / b ^ 0) from (by rw [Nat.pow_zero, Nat.div_one]))) ?_
  have loop10 : ∀ (fuel : Nat) (i : Nat) (hD : Nat → Int) (hi : i ≤ ndm b lst v) (ttd : tx hD (lowD (dgv b v) cap i)) (hW1 : bW (va_up W 52 (v / b ^ i))) (hfu : 200 - i < fuel), J l rm_P_setDigits (0, 0) "NumberTower$Pen" b_P_setDigits 6 (Option.none : Option Jvm.ClassFile.FieldType) D jCl (jTys g) A (fun _ me => me.name = y_P_setDigits.name) (jv ad N (fun F' => ∃ h' : Nat → Int, tx h' (dgL b cap lst v) ∧ bW (va_up W 52 0) ∧ F' = cF ad g (va_up (va_up F0 51 (aT g h')) 50 (oT ad 50 ((dgL b cap lst v).length : Int))) (va_up W 52 0) K S)) ad N 0 0 10 [(0, .ref (ad 43)), (1, .int (iI (b : Int))), (2, .int (iI ten)), (3, .int (iI (lst : Int))), (4, .int (iI (i : Int)))] [] (cF ad g (va_up (va_up F0 51 (.inl (g 1, 200, .inl (aI hD)))) 50 (.inr (7, [.ref (ad 51), .int (iI (((lowD (dgv b v) cap i).length : Nat) : Int))]))) (va_up W 52 (v / b ^ i)) K S) := by
    intro fuel
    induction fuel with
    | zero => intro i hD hi ttd hW1 hfu; exact absurd hfu (Nat.not_lt_zero _)
    | succ fuel ih =>
      intro i hD hi ttd hW1 hfu
      refine J_iload 4 d_P_setDigits_10 rfl ?_
      refine J_sipush d_P_setDigits_12 (i16_ok (by decide)) ?_
      refine J_if_icmpge (tgt := 79) d_P_setDigits_15 (by decide) ⟨by omega, by omega⟩ ⟨by omega, by omega⟩ (fun c15 => ?_) (fun c15 => ?_)
      · exact absurd c15 (by omega)
      · refine J_iload 4 d_P_setDigits_18 rfl ?_
        refine J_iload_n 3 d_P_setDigits_20 rfl rfl ?_
        refine J_if_icmplt (tgt := 34) d_P_setDigits_21 (by decide) ⟨by omega, by omega⟩ ⟨by omega, by omega⟩ (fun c21 => ?_) (fun c21 => ?_)
        · have hi2 : i + 1 ≤ ndm b lst v := hstep i (by omega)
          refine J_aload_n 0 d_P_setDigits_34 rfl rfl ?_
          refine gf_P_30 (by omega) ((cF_0 (by decide)).trans (by rw [va_up_ne _ _ (by decide), va_up_ne _ _ (by decide)]; exact hPn)) rfl d_P_setDigits_35 ?_
          refine J_iload_n 1 d_P_setDigits_38 rfl rfl ?_
          refine J_callVi cw_P_98 nh_N_divideSmall pn_N_divideSmall rfl rfl (by omega) (cF_N (by decide) (va_up_self ..)) (As := [.int (iI (b : Int))]) (rest := []) rfl (Nat.le_of_ble_eq_true rfl) ⟨by decide, by decide⟩ rfl ⟨by decide, by decide⟩ d_P_setDigits_39 (n_divideSmall hfl (F0 := va_up (va_up F0 51 (.inl (g 1, 200, .inl (aI hD)))) 50 (.inr (7, [.ref (ad 51), .int (iI (((lowD (dgv b v) cap i).length : Nat) : Int))]))) (W := va_up W 52 (v / b ^ i)) (K := K) (S := S) (k := 52) (d := b) (hN := by omega) (hW := hW1) (hk := (by decide)) (x := v / b ^ i) (hx := (va_up_self ..)) (hd := ⟨by omega, by omega⟩)) (fun z3 F6 hq => ?_)
          obtain ⟨hz3, hW4, eF5⟩ := hq
          have hW7 := (congrArg bW (up_in0)).mp hW4
          refine J_eqF (F2 := cF ad g (va_up (va_up F0 51 (.inl (g 1, 200, .inl (aI hD)))) 50 (.inr (7, [.ref (ad 51), .int (iI (((lowD (dgv b v) cap i).length : Nat) : Int))]))) (va_up W 52 ((v / b ^ i) / b)) K S) (eF5.trans (congrArg (fun qq => cF ad g (va_up (va_up F0 51 (.inl (g 1, 200, .inl (aI hD)))) 50 (.inr (7, [.ref (ad 51), .int (iI (((lowD (dgv b v) cap i).length : Nat) : Int))]))) qq K S) (up_in0))) ?_
          refine J_topi (r := ((((v / b ^ i) % b : Nat)) : Int)) (congrArg iI hz3) ?_
          refine J_topi (r := (((dgv b v i : Nat)) : Int)) (congrArg iI rfl) ?_
          have hdb := dgv_b (b := b) (v := v) (k := i) hb
          have hcd := chd_b (cap := cap) hdb
          refine J_istore (lv' := [(5, .int (iI (((dgv b v i : Nat)) : Int))), (0, .ref (ad 43)), (1, .int (iI (b : Int))), (2, .int (iI ten)), (3, .int (iI (lst : Int))), (4, .int (iI (i : Int)))]) d_P_setDigits_42 (by decide) rfl ?_
          have lab70 : J l rm_P_setDigits (0, 0) "NumberTower$Pen" b_P_setDigits 6 (Option.none : Option Jvm.ClassFile.FieldType) D jCl (jTys g) A (fun _ me => me.name = y_P_setDigits.name) (jv ad N (fun F' => ∃ h' : Nat → Int, tx h' (dgL b cap lst v) ∧ bW (va_up W 52 0) ∧ F' = cF ad g (va_up (va_up F0 51 (aT g h')) 50 (oT ad 50 ((dgL b cap lst v).length : Int))) (va_up W 52 0) K S)) ad N 0 0 70 [(0, .ref (ad 43)), (1, .int (iI (b : Int))), (2, .int (iI ten)), (3, .int (iI (lst : Int))), (4, .int (iI (i : Int))), (5, .int (iI (((dgv b v i : Nat)) : Int)))] [.int (iI (((chd cap (dgv b v i) : Nat)) : Int)), .ref (ad 50)] (cF ad g (va_up (va_up F0 51 (.inl (g 1, 200, .inl (aI hD)))) 50 (.inr (7, [.ref (ad 51), .int (iI (((lowD (dgv b v) cap i).length : Nat) : Int))]))) (va_up W 52 ((v / b ^ i) / b)) K S) := by
            refine J_callVv cw_P_49 nh_T_put pn_T_put rfl rfl (by omega) ((cF_0 (by decide)).trans (by rw [va_up_self])) (As := [.int (iI (((chd cap (dgv b v i) : Nat)) : Int))]) (rest := []) rfl (Nat.le_of_ble_eq_true rfl) ⟨by decide, by decide⟩ rfl ⟨by decide, by decide⟩ d_P_setDigits_70 (c_T_putN hfl (k := 50) (w := (lowD (dgv b v) cap i)) (hh := hD) (c := chd cap (dgv b v i)) (by omega) ((cF_0 (by decide)).trans (by rw [va_up_self])) ((cF_0 (by decide)).trans (by rw [va_up_ne _ _ (by decide), va_up_self])) ttd (by rw [lowD_l]; omega) (by omega)) (fun  F2 hq => ?_)
            obtain ⟨hh8, htx9, eF2⟩ := hq
            refine J_eqF (F2 := cF ad g (va_up (va_up F0 51 (.inl (g 1, 200, .inl (aI hh8)))) 50 (.inr (7, [.ref (ad 51), .int (iI ((((lowD (dgv b v) cap i) ++ [chd cap (dgv b v i)]).length : Nat) : Int))]))) (va_up W 52 ((v / b ^ i) / b)) K S) (eF2.trans (Eq.trans (congrArg (fun qF : Nat → va_E => va_up qF 50 (.inr (7, [.ref (ad 51), .int (iI ((((lowD (dgv b v) cap i) ++ [chd cap (dgv b v i)]).length : Nat) : Int))]))) ((cF_up0 (by decide)).trans (congrArg (fun qq => cF ad g qq (va_up W 52 ((v / b ^ i) / b)) K S) (up_in1 (by decide))))) ((cF_up0 (by decide)).trans (congrArg (fun qq => cF ad g qq (va_up W 52 ((v / b ^ i) / b)) K S) (up_in0))))) ?_
            refine J_iinc (j := 4) (b := (i : Int) + 1) (lv' := [(4, .int (iI ((i : Int) + 1))), (0, .ref (ad 43)), (1, .int (iI (b : Int))), (2, .int (iI ten)), (3, .int (iI (lst : Int))), (5, .int (iI (((dgv b v i : Nat)) : Int)))]) d_P_setDigits_73 rfl (by omega) (by decide) rfl ?_
            refine J_goto (tgt := 10) d_P_setDigits_76 (by decide) ?_
            refine J_pick (lv' := [(0, .ref (ad 43)), (1, .int (iI (b : Int))), (2, .int (iI ten)), (3, .int (iI (lst : Int))), (4, .int (iI ((i : Int) + 1)))]) [1, 2, 3, 4, 0] rfl ?_
            have eT10 : ((lowD (dgv b v) cap i) ++ [chd cap (dgv b v i)]) = lowD (dgv b v) cap (i + 1) := rfl
            have htx11 : tx hh8 (lowD (dgv b v) cap (i + 1)) := eT10 ▸ htx9
            refine J_eqF (F2 := cF ad g (va_up (va_up F0 51 (.inl (g 1, 200, .inl (aI hh8)))) 50 (.inr (7, [.ref (ad 51), .int (iI (((lowD (dgv b v) cap (i + 1)).length : Nat) : Int))]))) (va_up W 52 ((v / b ^ i) / b)) K S) (congrArg (fun qq : List Nat => cF ad g (va_up (va_up F0 51 (.inl (g 1, 200, .inl (aI hh8)))) 50 (oT ad 50 ((qq.length : Nat) : Int))) (va_up W 52 ((v / b ^ i) / b)) K S) eT10) ?_
            have hW12 := (congrArg (fun qq : Nat => bW (va_up W 52 qq)) (show ((v / b ^ i) / b) = (v / b ^ (i + 1)) from spl_div v b i)).mp hW7
            refine J_eqF (F2 := cF ad g (va_up (va_up F0 51 (.inl (g 1, 200, .inl (aI hh8)))) 50 (.inr (7, [.ref (ad 51), .int (iI (((lowD (dgv b v) cap (i + 1)).length : Nat) : Int))]))) (va_up W 52 (v / b ^ (i + 1))) K S) (congrArg (fun qq : Nat => cF ad g (va_up (va_up F0 51 (.inl (g 1, 200, .inl (aI hh8)))) 50 (.inr (7, [.ref (ad 51), .int (iI (((lowD (dgv b v) cap (i + 1)).length : Nat) : Int))]))) (va_up W 52 qq) K S) (show ((v / b ^ i) / b) = (v / b ^ (i + 1)) from spl_div v b i)) ?_
            exact ih (i + 1) hh8 hi2 htx11 hW12 (by omega)
          refine J_aload_n 1 d_P_setDigits_44 rfl rfl ?_
          refine gf_P_24 (by omega) ((cF_0 (by decide)).trans (by rw [va_up_ne _ _ (by decide), va_up_ne _ _ (by decide)]; exact hPn)) rfl d_P_setDigits_45 ?_
          refine J_iload 0 d_P_setDigits_48 rfl ?_
          refine J_bipush d_P_setDigits_50 (i8_ok (by decide)) ?_
          refine J_if_icmpge (tgt := 63) d_P_setDigits_52 (by decide) ⟨by omega, by omega⟩ ⟨by omega, by omega⟩ (fun c52 => ?_) (fun c52 => ?_)
          · refine J_iload_n 3 d_P_setDigits_63 rfl rfl ?_
            refine J_iload 0 d_P_setDigits_64 rfl ?_
            refine J_iadd d_P_setDigits_66 ?_
            refine J_bipush d_P_setDigits_67 (i8_ok (by decide)) ?_
            refine J_isub d_P_setDigits_69 ?_
            refine J_pick (lv' := [(0, .ref (ad 43)), (1, .int (iI (b : Int))), (2, .int (iI ten)), (3, .int (iI (lst : Int))), (4, .int (iI (i : Int))), (5, .int (iI (((dgv b v i : Nat)) : Int)))]) [1, 2, 3, 4, 5, 0] rfl ?_
            refine J_topi (r := (((chd cap (dgv b v i) : Nat)) : Int)) (congrArg iI (by unfold chd; rw [if_neg (by omega)]; split <;> omega)) ?_
            exact lab70  
          · refine J_bipush d_P_setDigits_55 (i8_ok (by decide)) ?_
            refine J_iload 0 d_P_setDigits_57 rfl ?_
            refine J_iadd d_P_setDigits_59 ?_
            refine J_goto (tgt := 70) d_P_setDigits_60 (by decide) ?_
            refine J_pick (lv' := [(0, .ref (ad 43)), (1, .int (iI (b : Int))), (2, .int (iI ten)), (3, .int (iI (lst : Int))), (4, .int (iI (i : Int))), (5, .int (iI (((dgv b v i : Nat)) : Int)))]) [1, 2, 3, 4, 5, 0] rfl ?_
            refine J_topi (r := (((chd cap (dgv b v i) : Nat)) : Int)) (congrArg iI (by unfold chd; rw [if_pos (by omega)]; omega)) ?_
            exact lab70  
        · refine J_aload_n 0 d_P_setDigits_24 rfl rfl ?_
          refine gf_P_30 (by omega) ((cF_0 (by decide)).trans (by rw [va_up_ne _ _ (by decide), va_up_ne _ _ (by decide)]; exact hPn)) rfl d_P_setDigits_25 ?_
          refine J_callVi cw_P_95 nh_N_isZero pn_N_isZero rfl rfl (by omega) (cF_N (by decide) (va_up_self ..)) (As := []) (rest := []) rfl (Nat.le_of_ble_eq_true rfl) ⟨by decide, by decide⟩ rfl ⟨by decide, by decide⟩ d_P_setDigits_28 (n_isZero hfl (F0 := va_up (va_up F0 51 (.inl (g 1, 200, .inl (aI hD)))) 50 (.inr (7, [.ref (ad 51), .int (iI (((lowD (dgv b v) cap i).length : Nat) : Int))]))) (W := va_up W 52 (v / b ^ i)) (K := K) (S := S) (k := 52) (hN := by omega) (hW := hW1) (hk := (by decide)) (x := v / b ^ i) (hx := (va_up_self ..))) (fun z13 F3 hq => ?_)
          obtain ⟨hz13, eF3⟩ := hq
          refine J_eqF eF3 ?_
          refine J_ifne (tgt := 79) d_P_setDigits_31 (by decide) ⟨by omega, by omega⟩ (fun c31 => ?_) (fun c31 => ?_)
          · have hme : ndm b lst v = i := by
              have h2 : ndg b v ≤ i ↔ v < b ^ i := ndg_le hb.1
              have h3 : v / b ^ i = 0 := by omega
              have h4 : ndg b v ≤ i := h2.mpr ((Nat.div_eq_zero_iff_lt (Nat.pow_pos (by omega))).mp h3)
              unfold ndm at hi ⊢; split at hi <;> split <;> omega
            have h30 : v / b ^ i = 0 := by omega
            have hW14 := (congrArg (fun qq : Nat => bW (va_up W 52 qq)) (show (v / b ^ i) = (0) from h30)).mp hW1
            refine J_eqF (F2 := cF ad g (va_up (va_up F0 51 (.inl (g 1, 200, .inl (aI hD)))) 50 (.inr (7, [.ref (ad 51), .int (iI (((lowD (dgv b v) cap i).length : Nat) : Int))]))) (va_up W 52 0) K S) (congrArg (fun qq : Nat => cF ad g (va_up (va_up F0 51 (.inl (g 1, 200, .inl (aI hD)))) 50 (.inr (7, [.ref (ad 51), .int (iI (((lowD (dgv b v) cap i).length : Nat) : Int))]))) (va_up W 52 qq) K S) (show (v / b ^ i) = (0) from h30)) ?_
            refine J_aload_n 0 d_P_setDigits_79 rfl rfl ?_
            refine gf_P_24 (by omega) ((cF_0 (by decide)).trans (by rw [va_up_ne _ _ (by decide), va_up_ne _ _ (by decide)]; exact hPn)) rfl d_P_setDigits_80 ?_
            refine J_callVv cw_P_102 nh_T_reverse pn_T_reverse rfl rfl (by omega) ((cF_0 (by decide)).trans (by rw [va_up_self])) (As := []) (rest := []) rfl (Nat.le_of_ble_eq_true rfl) ⟨by decide, by decide⟩ rfl ⟨by decide, by decide⟩ d_P_setDigits_83 (c_T_reverseN hfl (k := 50) (w := (lowD (dgv b v) cap i)) (u := (dgL b cap lst v)) (hh := hD) (by omega) ((cF_0 (by decide)).trans (by rw [va_up_self])) ((cF_0 (by decide)).trans (by rw [va_up_ne _ _ (by decide), va_up_self])) ttd (by rw [lowD_l]; omega) (by unfold dgL; rw [hme]; exact lowD_r _)) (fun  F4 hq => ?_)
            obtain ⟨hh15, htx16, eF4⟩ := hq
            refine J_eqF (F2 := cF ad g (va_up (va_up F0 51 (.inl (g 1, 200, .inl (aI hh15)))) 50 (.inr (7, [.ref (ad 51), .int (iI (((dgL b cap lst v).length : Nat) : Int))]))) (va_up W 52 0) K S) (eF4.trans (Eq.trans (congrArg (fun qF : Nat → va_E => va_up qF 50 (.inr (7, [.ref (ad 51), .int (iI (((dgL b cap lst v).length : Nat) : Int))]))) ((cF_up0 (by decide)).trans (congrArg (fun qq => cF ad g qq (va_up W 52 0) K S) (up_in1 (by decide))))) ((cF_up0 (by decide)).trans (congrArg (fun qq => cF ad g qq (va_up W 52 0) K S) (up_in0))))) ?_
            refine J_vret rfl d_P_setDigits_86 ⟨by decide, by decide⟩ ?_
            exact ⟨rfl, rfl, rfl, _, htx16, hW14, rfl⟩
          · have hi2 : i + 1 ≤ ndm b lst v := hstep i (by omega)
            refine J_aload_n 0 d_P_setDigits_34 rfl rfl ?_
            refine gf_P_30 (by omega) ((cF_0 (by decide)).trans (by rw [va_up_ne _ _ (by decide), va_up_ne _ _ (by decide)]; exact hPn)) rfl d_P_setDigits_35 ?_
            refine J_iload_n 1 d_P_setDigits_38 rfl rfl ?_
            refine J_callVi cw_P_98 nh_N_divideSmall pn_N_divideSmall rfl rfl (by omega) (cF_N (by decide) (va_up_self ..)) (As := [.int (iI (b : Int))]) (rest := []) rfl (Nat.le_of_ble_eq_true rfl) ⟨by decide, by decide⟩ rfl ⟨by decide, by decide⟩ d_P_setDigits_39 (n_divideSmall hfl (F0 := va_up (va_up F0 51 (.inl (g 1, 200, .inl (aI hD)))) 50 (.inr (7, [.ref (ad 51), .int (iI (((lowD (dgv b v) cap i).length : Nat) : Int))]))) (W := va_up W 52 (v / b ^ i)) (K := K) (S := S) (k := 52) (d := b) (hN := by omega) (hW := hW1) (hk := (by decide)) (x := v / b ^ i) (hx := (va_up_self ..)) (hd := ⟨by omega, by omega⟩)) (fun z17 F20 hq => ?_)
            obtain ⟨hz17, hW18, eF19⟩ := hq
            have hW21 := (congrArg bW (up_in0)).mp hW18
            refine J_eqF (F2 := cF ad g (va_up (va_up F0 51 (.inl (g 1, 200, .inl (aI hD)))) 50 (.inr (7, [.ref (ad 51), .int (iI (((lowD (dgv b v) cap i).length : Nat) : Int))]))) (va_up W 52 ((v / b ^ i) / b)) K S) (eF19.trans (congrArg (fun qq => cF ad g (va_up (va_up F0 51 (.inl (g 1, 200, .inl (aI hD)))) 50 (.inr (7, [.ref (ad 51), .int (iI (((lowD (dgv b v) cap i).length : Nat) : Int))]))) qq K S) (up_in0))) ?_
            refine J_topi (r := ((((v / b ^ i) % b : Nat)) : Int)) (congrArg iI hz17) ?_
            refine J_topi (r := (((dgv b v i : Nat)) : Int)) (congrArg iI rfl) ?_
            have hdb := dgv_b (b := b) (v := v) (k := i) hb
            have hcd := chd_b (cap := cap) hdb
            refine J_istore (lv' := [(5, .int (iI (((dgv b v i : Nat)) : Int))), (0, .ref (ad 43)), (1, .int (iI (b : Int))), (2, .int (iI ten)), (3, .int (iI (lst : Int))), (4, .int (iI (i : Int)))]) d_P_setDigits_42 (by decide) rfl ?_
            have lab70 : J l rm_P_setDigits (0, 0) "NumberTower$Pen" b_P_setDigits 6 (Option.none : Option Jvm.ClassFile.FieldType) D jCl (jTys g) A (fun _ me => me.name = y_P_setDigits.name) (jv ad N (fun F' => ∃ h' : Nat → Int, tx h' (dgL b cap lst v) ∧ bW (va_up W 52 0) ∧ F' = cF ad g (va_up (va_up F0 51 (aT g h')) 50 (oT ad 50 ((dgL b cap lst v).length : Int))) (va_up W 52 0) K S)) ad N 0 0 70 [(0, .ref (ad 43)), (1, .int (iI (b : Int))), (2, .int (iI ten)), (3, .int (iI (lst : Int))), (4, .int (iI (i : Int))), (5, .int (iI (((dgv b v i : Nat)) : Int)))] [.int (iI (((chd cap (dgv b v i) : Nat)) : Int)), .ref (ad 50)] (cF ad g (va_up (va_up F0 51 (.inl (g 1, 200, .inl (aI hD)))) 50 (.inr (7, [.ref (ad 51), .int (iI (((lowD (dgv b v) cap i).length : Nat) : Int))]))) (va_up W 52 ((v / b ^ i) / b)) K S) := by
              refine J_callVv cw_P_49 nh_T_put pn_T_put rfl rfl (by omega) ((cF_0 (by decide)).trans (by rw [va_up_self])) (As := [.int (iI (((chd cap (dgv b v i) : Nat)) : Int))]) (rest := []) rfl (Nat.le_of_ble_eq_true rfl) ⟨by decide, by decide⟩ rfl ⟨by decide, by decide⟩ d_P_setDigits_70 (c_T_putN hfl (k := 50) (w := (lowD (dgv b v) cap i)) (hh := hD) (c := chd cap (dgv b v i)) (by omega) ((cF_0 (by decide)).trans (by rw [va_up_self])) ((cF_0 (by decide)).trans (by rw [va_up_ne _ _ (by decide), va_up_self])) ttd (by rw [lowD_l]; omega) (by omega)) (fun  F5 hq => ?_)
              obtain ⟨hh22, htx23, eF5⟩ := hq
              refine J_eqF (F2 := cF ad g (va_up (va_up F0 51 (.inl (g 1, 200, .inl (aI hh22)))) 50 (.inr (7, [.ref (ad 51), .int (iI ((((lowD (dgv b v) cap i) ++ [chd cap (dgv b v i)]).length : Nat) : Int))]))) (va_up W 52 ((v / b ^ i) / b)) K S) (eF5.trans (Eq.trans (congrArg (fun qF : Nat → va_E => va_up qF 50 (.inr (7, [.ref (ad 51), .int (iI ((((lowD (dgv b v) cap i) ++ [chd cap (dgv b v i)]).length : Nat) : Int))]))) ((cF_up0 (by decide)).trans (congrArg (fun qq => cF ad g qq (va_up W 52 ((v / b ^ i) / b)) K S) (up_in1 (by decide))))) ((cF_up0 (by decide)).trans (congrArg (fun qq => cF ad g qq (va_up W 52 ((v / b ^ i) / b)) K S) (up_in0))))) ?_
              refine J_iinc (j := 4) (b := (i : Int) + 1) (lv' := [(4, .int (iI ((i : Int) + 1))), (0, .ref (ad 43)), (1, .int (iI (b : Int))), (2, .int (iI ten)), (3, .int (iI (lst : Int))), (5, .int (iI (((dgv b v i : Nat)) : Int)))]) d_P_setDigits_73 rfl (by omega) (by decide) rfl ?_
              refine J_goto (tgt := 10) d_P_setDigits_76 (by decide) ?_
              refine J_pick (lv' := [(0, .ref (ad 43)), (1, .int (iI (b : Int))), (2, .int (iI ten)), (3, .int (iI (lst : Int))), (4, .int (iI ((i : Int) + 1)))]) [1, 2, 3, 4, 0] rfl ?_
              have eT24 : ((lowD (dgv b v) cap i) ++ [chd cap (dgv b v i)]) = lowD (dgv b v) cap (i + 1) := rfl
              have htx25 : tx hh22 (lowD (dgv b v) cap (i + 1)) := eT24 ▸ htx23
              refine J_eqF (F2 := cF ad g (va_up (va_up F0 51 (.inl (g 1, 200, .inl (aI hh22)))) 50 (.inr (7, [.ref (ad 51), .int (iI (((lowD (dgv b v) cap (i + 1)).length : Nat) : Int))]))) (va_up W 52 ((v / b ^ i) / b)) K S) (congrArg (fun qq : List Nat => cF ad g (va_up (va_up F0 51 (.inl (g 1, 200, .inl (aI hh22)))) 50 (oT ad 50 ((qq.length : Nat) : Int))) (va_up W 52 ((v / b ^ i) / b)) K S) eT24) ?_
              have hW26 := (congrArg (fun qq : Nat => bW (va_up W 52 qq)) (show ((v / b ^ i) / b) = (v / b ^ (i + 1)) from spl_div v b i)).mp hW21
              refine J_eqF (F2 := cF ad g (va_up (va_up F0 51 (.inl (g 1, 200, .inl (aI hh22)))) 50 (.inr (7, [.ref (ad 51), .int (iI (((lowD (dgv b v) cap (i + 1)).length : Nat) : Int))]))) (va_up W 52 (v / b ^ (i + 1))) K S) (congrArg (fun qq : Nat => cF ad g (va_up (va_up F0 51 (.inl (g 1, 200, .inl (aI hh22)))) 50 (.inr (7, [.ref (ad 51), .int (iI (((lowD (dgv b v) cap (i + 1)).length : Nat) : Int))]))) (va_up W 52 qq) K S) (show ((v / b ^ i) / b) = (v / b ^ (i + 1)) from spl_div v b i)) ?_
              exact ih (i + 1) hh22 hi2 htx25 hW26 (by omega)
            refine J_aload_n 1 d_P_setDigits_44 rfl rfl ?_
            refine gf_P_24 (by omega) ((cF_0 (by decide)).trans (by rw [va_up_ne _ _ (by decide), va_up_ne _ _ (by decide)]; exact hPn)) rfl d_P_setDigits_45 ?_
            refine J_iload 0 d_P_setDigits_48 rfl ?_
            refine J_bipush d_P_setDigits_50 (i8_ok (by decide)) ?_
            refine J_if_icmpge (tgt := 63) d_P_setDigits_52 (by decide) ⟨by omega, by omega⟩ ⟨by omega, by omega⟩ (fun c52 => ?_) (fun c52 => ?_)
            · refine J_iload_n 3 d_P_setDigits_63 rfl rfl ?_
              refine J_iload 0 d_P_setDigits_64 rfl ?_
              refine J_iadd d_P_setDigits_66 ?_
              refine J_bipush d_P_setDigits_67 (i8_ok (by decide)) ?_
              refine J_isub d_P_setDigits_69 ?_
              refine J_pick (lv' := [(0, .ref (ad 43)), (1, .int (iI (b : Int))), (2, .int (iI ten)), (3, .int (iI (lst : Int))), (4, .int (iI (i : Int))), (5, .int (iI (((dgv b v i : Nat)) : Int)))]) [1, 2, 3, 4, 5, 0] rfl ?_
              refine J_topi (r := (((chd cap (dgv b v i) : Nat)) : Int)) (congrArg iI (by unfold chd; rw [if_neg (by omega)]; split <;> omega)) ?_
              exact lab70  
            · refine J_bipush d_P_setDigits_55 (i8_ok (by decide)) ?_
              refine J_iload 0 d_P_setDigits_57 rfl ?_
              refine J_iadd d_P_setDigits_59 ?_
              refine J_goto (tgt := 70) d_P_setDigits_60 (by decide) ?_
              refine J_pick (lv' := [(0, .ref (ad 43)), (1, .int (iI (b : Int))), (2, .int (iI ten)), (3, .int (iI (lst : Int))), (4, .int (iI (i : Int))), (5, .int (iI (((dgv b v i : Nat)) : Int)))]) [1, 2, 3, 4, 5, 0] rfl ?_
              refine J_topi (r := (((chd cap (dgv b v i) : Nat)) : Int)) (congrArg iI (by unfold chd; rw [if_pos (by omega)]; omega)) ?_
              exact lab70  
  exact loop10 ((200 - 0) + 1) 0 hD (Nat.zero_le _) (tx_nil hD) hW2 (Nat.lt_succ_self _)
set_option maxRecDepth 100000 in
set_option maxHeartbeats 4000000 in
theorem c_P_setZero {l : Launch} (hfl : l.flags = flags0) {D : va_G} {g : Nat → ClassId} {ad : Nat → Nat} {N : Nat} {F0 : Nat → va_E} {W : Nat → Nat} {K S : Nat → Int} {ex : Int} {wD : List Nat} {hD : Nat → Int}
    (hN : 109 ≤ N) (hW : bW W) (hPn : F0 43 = oP ad ex) (hTD : F0 50 = oT ad 50 (wD.length : Int)) (hAD : F0 51 = aT g hD) (ttD : tx hD wD) (hlD : wD.length ≤ 200) :
    JC l y_P_setZero b_P_setZero 1 (Option.some Jvm.ClassFile.FieldType.int) rm_P_setZero (0, 0) D jCl (jTys g) ad N (cF ad g F0 W K S) [.ref (ad 43)] (ji ad N (fun z F' => z = 0 ∧ ∃ h' : Nat → Int, tx h' [48] ∧ F' = cF ad g (va_up (va_up F0 51 (aT g h')) 50 (oT ad 50 ((([48] : List Nat)).length : Int))) W K S)) := by
  refine JC.go hfl (own := "NumberTower$Pen") (lv := [(0, .ref (ad 43))]) rfl (by decide +kernel) (Nat.le_of_ble_eq_true rfl) rfl (fun A => ?_)
  refine J_aload_n 0 d_P_setZero_0 rfl rfl ?_
  refine gf_P_24 (by omega) ((cF_0 (by decide)).trans hPn) rfl d_P_setZero_1 ?_
  refine J_callVv cw_P_40 nh_T_clear pn_T_clear rfl rfl (by omega) ((cF_0 (by decide)).trans hTD) (As := []) (rest := []) rfl (Nat.le_of_ble_eq_true rfl) ⟨by decide, by decide⟩ rfl ⟨by decide, by decide⟩ d_P_setZero_4 (c_T_clearN hfl (k := 50) (w := wD) (hh := hD) (by omega) ((cF_0 (by decide)).trans hTD) ((cF_0 (by decide)).trans hAD) ttD hlD) (fun  F1 hq => ?_)
  have eF1 := hq
  refine J_eqF (F2 := cF ad g (va_up F0 50 (.inr (7, [.ref (ad 51), .int (iI ((([] : List Nat).length : Nat) : Int))]))) W K S) (eF1.trans (cF_up0 (by decide))) ?_
  refine J_aload_n 0 d_P_setZero_7 rfl rfl ?_
  refine gf_P_24 (by omega) ((cF_0 (by decide)).trans (by rw [va_up_ne _ _ (by decide)]; exact hPn)) rfl d_P_setZero_8 ?_
  refine J_bipush d_P_setZero_11 (i8_ok (by decide)) ?_
  refine J_callVv cw_P_49 nh_T_put pn_T_put rfl rfl (by omega) ((cF_0 (by decide)).trans (by rw [va_up_self])) (As := [.int (iI 48)]) (rest := []) rfl (Nat.le_of_ble_eq_true rfl) ⟨by decide, by decide⟩ rfl ⟨by decide, by decide⟩ d_P_setZero_13 (c_T_putN hfl (k := 50) (w := ([] : List Nat)) (hh := hD) (c := (48 : Nat)) (by omega) ((cF_0 (by decide)).trans (by rw [va_up_self])) ((cF_0 (by decide)).trans (by rw [va_up_ne _ _ (by decide)]; exact hAD)) (tx_nil hD) (by decide) (by omega)) (fun  F2 hq => ?_)
  obtain ⟨hh27, htx28, eF2⟩ := hq
  refine J_eqF (F2 := cF ad g (va_up (va_up F0 50 (.inr (7, [.ref (ad 51), .int (iI (((([] : List Nat) ++ [(48 : Nat)]).length : Nat) : Int))]))) 51 (.inl (g 1, 200, .inl (aI hh27)))) W K S) (eF2.trans (Eq.trans (congrArg (fun qF : Nat → va_E => va_up qF 50 (.inr (7, [.ref (ad 51), .int (iI (((([] : List Nat) ++ [(48 : Nat)]).length : Nat) : Int))]))) (cF_up0 (by decide))) ((cF_up0 (by decide)).trans (congrArg (fun qq => cF ad g qq W K S) (up_in1 (by decide)))))) ?_
  refine J_iconst d_P_setZero_16 ?_
  have eT29 : (([] : List Nat) ++ [(48 : Nat)]) = ([48] : List Nat) := rfl
  have htx30 : tx hh27 ([48] : List Nat) := eT29 ▸ htx28
  refine J_eqF (F2 := cF ad g (va_up (va_up F0 50 (.inr (7, [.ref (ad 51), .int (iI ((([48] : List Nat).length : Nat) : Int))]))) 51 (.inl (g 1, 200, .inl (aI hh27)))) W K S) (congrArg (fun qq : List Nat => cF ad g (va_up (va_up F0 50 (oT ad 50 ((qq.length : Nat) : Int))) 51 (.inl (g 1, 200, .inl (aI hh27)))) W K S) eT29) ?_
  refine J_eqF (F2 := cF ad g (va_up (va_up F0 51 (.inl (g 1, 200, .inl (aI hh27)))) 50 (.inr (7, [.ref (ad 51), .int (iI ((([48] : List Nat).length : Nat) : Int))]))) W K S) (congrArg (fun qq : Nat → va_E => cF ad g qq W K S) (up_cm (by decide))) ?_
  refine J_iret rfl rfl d_P_setZero_17 ⟨by decide, by decide⟩ ?_
  exact ⟨_, rfl, rfl, rfl, rfl, _, htx30, rfl⟩
set_option maxRecDepth 100000 in
set_option maxHeartbeats 4000000 in
theorem c_P_putExponent {l : Launch} (hfl : l.flags = flags0) {D : va_G} {g : Nat → ClassId} {ad : Nat → Nat} {N : Nat} {F : Nat → va_E} {k lt : Nat} {w : List Nat} {hh : Nat → Int} {e : Int}
    (hk : k + 1 < N) (hF : F k = oT ad k (w.length : Int)) (hA : F (k + 1) = aT g hh) (tt : tx hh w) (hl : w.length ≤ 190) (he : -100 < e ∧ e < 100) (hlt : lt < 128) :
    JC l y_P_putExponent b_P_putExponent 4 (Option.none : Option Jvm.ClassFile.FieldType) rm_P_putExponent (0, 0) D jCl (jTys g) ad N F [.ref (ad k), .int (iI e), .int (iI (lt : Int))] (jv ad N (fun F' => ∃ h' : Nat → Int, tx h' (w ++ expT e lt) ∧ F' = va_up (va_up F (k + 1) (aT g h')) k (oT ad k ((w ++ expT e lt).length : Int)))) := by
  refine JC.go hfl (own := "NumberTower$Pen") (lv := [(0, .ref (ad k)), (1, .int (iI e)), (2, .int (iI (lt : Int)))]) rfl (by decide +kernel) (Nat.le_of_ble_eq_true rfl) rfl (fun A => ?_)
  refine J_iload_n 1 d_P_putExponent_0 rfl rfl ?_
  refine J_callSi cw_P_115 nh_JMath_abs pn_JMath_abs rfl (As := [.int (iI e)]) (rest := []) rfl (Nat.le_of_ble_eq_true rfl) ⟨by decide, by decide⟩ rfl ⟨by decide, by decide⟩ d_P_putExponent_1 (c_JMath_abs hfl (by omega)) (fun ab F1 hq => ?_)
  obtain ⟨habs, eF1⟩ := hq
  refine J_eqF eF1 ?_
  refine J_topi (r := ((e.natAbs : Nat) : Int)) (congrArg iI (by omega)) ?_
  refine J_istore_n (lv' := [(3, .int (iI ((e.natAbs : Nat) : Int))), (0, .ref (ad k)), (1, .int (iI e)), (2, .int (iI (lt : Int)))]) d_P_putExponent_4 rfl (by decide) rfl ?_
  refine J_aload_n 1 d_P_putExponent_5 rfl rfl ?_
  refine J_iload_n 3 d_P_putExponent_6 rfl rfl ?_
  refine J_callVv cw_P_49 nh_T_put pn_T_put rfl rfl (by omega) hF (As := [.int (iI (lt : Int))]) (rest := []) rfl (Nat.le_of_ble_eq_true rfl) ⟨by decide, by decide⟩ rfl ⟨by decide, by decide⟩ d_P_putExponent_7 (c_T_putN hfl (k := k) (w := w) (hh := hh) (c := lt) (by omega) (hF) (hA) tt (by omega) (by omega)) (fun  F2 hq => ?_)
  obtain ⟨hh31, htx32, eF2⟩ := hq
  refine J_eqF (F2 := va_up (va_up F (k + 1) (.inl (g 1, 200, .inl (aI hh31)))) k (.inr (7, [.ref (ad (k + 1)), .int (iI (((w ++ [lt]).length : Nat) : Int))]))) eF2 ?_
  refine J_aload_n 1 d_P_putExponent_10 rfl rfl ?_
  refine J_iload_n 2 d_P_putExponent_11 rfl rfl ?_
  refine J_ifge (tgt := 20) d_P_putExponent_12 (by decide) ⟨by omega, by omega⟩ (fun c12 => ?_) (fun c12 => ?_)
  · refine J_bipush d_P_putExponent_20 (i8_ok (by decide)) ?_
    refine J_callVv cw_P_49 nh_T_put pn_T_put rfl rfl (by omega) (by rw [va_up_self]) (As := [.int (iI 43)]) (rest := []) rfl (Nat.le_of_ble_eq_true rfl) ⟨by decide, by decide⟩ rfl ⟨by decide, by decide⟩ d_P_putExponent_22 (c_T_putN hfl (k := k) (w := (w ++ [lt])) (hh := hh31) (c := (43 : Nat)) (by omega) (by rw [va_up_self]) (by rw [va_up_ne _ _ (by omega), va_up_self]) htx32 (by simp only [List.length_append, List.length_cons, List.length_nil, List.length_replicate]; omega) (by omega)) (fun  F3 hq => ?_)
    obtain ⟨hh33, htx34, eF3⟩ := hq
    refine J_eqF (F2 := va_up (va_up F (k + 1) (.inl (g 1, 200, .inl (aI hh33)))) k (.inr (7, [.ref (ad (k + 1)), .int (iI ((((w ++ [lt]) ++ [(43 : Nat)]).length : Nat) : Int))]))) (eF3.trans (Eq.trans (congrArg (fun qF : Nat → va_E => va_up qF k (.inr (7, [.ref (ad (k + 1)), .int (iI ((((w ++ [lt]) ++ [(43 : Nat)]).length : Nat) : Int))]))) (up_in1 (by omega))) (up_in0))) ?_
    refine J_aload_n 1 d_P_putExponent_25 rfl rfl ?_
    refine J_bipush d_P_putExponent_26 (i8_ok (by decide)) ?_
    refine J_iload_n 0 d_P_putExponent_28 rfl rfl ?_
    refine J_bipush d_P_putExponent_29 (i8_ok (by decide)) ?_
    refine J_idivn d_P_putExponent_31 (by omega) (by omega) ?_
    refine J_topi (r := ((e.natAbs / 10 : Nat) : Int)) (congrArg iI (by omega)) ?_
    refine J_iadd d_P_putExponent_32 ?_
    refine J_callVv cw_P_49 nh_T_put pn_T_put rfl rfl (by omega) (by rw [va_up_self]) (As := [.int (iI (48 + ((e.natAbs / 10 : Nat) : Int)))]) (rest := []) rfl (Nat.le_of_ble_eq_true rfl) ⟨by decide, by decide⟩ rfl ⟨by decide, by decide⟩ d_P_putExponent_33 (c_T_putN hfl (k := k) (w := ((w ++ [lt]) ++ [(43 : Nat)])) (hh := hh33) (c := 48 + (e.natAbs / 10)) (by omega) (by rw [va_up_self]) (by rw [va_up_ne _ _ (by omega), va_up_self]) htx34 (by simp only [List.length_append, List.length_cons, List.length_nil, List.length_replicate]; omega) (by omega)) (fun  F4 hq => ?_)
    obtain ⟨hh35, htx36, eF4⟩ := hq
    refine J_eqF (F2 := va_up (va_up F (k + 1) (.inl (g 1, 200, .inl (aI hh35)))) k (.inr (7, [.ref (ad (k + 1)), .int (iI (((((w ++ [lt]) ++ [(43 : Nat)]) ++ [48 + (e.natAbs / 10)]).length : Nat) : Int))]))) (eF4.trans (Eq.trans (congrArg (fun qF : Nat → va_E => va_up qF k (.inr (7, [.ref (ad (k + 1)), .int (iI (((((w ++ [lt]) ++ [(43 : Nat)]) ++ [48 + (e.natAbs / 10)]).length : Nat) : Int))]))) (up_in1 (by omega))) (up_in0))) ?_
    refine J_aload_n 1 d_P_putExponent_36 rfl rfl ?_
    refine J_bipush d_P_putExponent_37 (i8_ok (by decide)) ?_
    refine J_iload_n 0 d_P_putExponent_39 rfl rfl ?_
    refine J_bipush d_P_putExponent_40 (i8_ok (by decide)) ?_
    refine J_iremn d_P_putExponent_42 (by omega) (by omega) ?_
    refine J_topi (r := ((e.natAbs % 10 : Nat) : Int)) (congrArg iI (by omega)) ?_
    refine J_iadd d_P_putExponent_43 ?_
    refine J_callVv cw_P_49 nh_T_put pn_T_put rfl rfl (by omega) (by rw [va_up_self]) (As := [.int (iI (48 + ((e.natAbs % 10 : Nat) : Int)))]) (rest := []) rfl (Nat.le_of_ble_eq_true rfl) ⟨by decide, by decide⟩ rfl ⟨by decide, by decide⟩ d_P_putExponent_44 (c_T_putN hfl (k := k) (w := (((w ++ [lt]) ++ [(43 : Nat)]) ++ [48 + (e.natAbs / 10)])) (hh := hh35) (c := 48 + (e.natAbs % 10)) (by omega) (by rw [va_up_self]) (by rw [va_up_ne _ _ (by omega), va_up_self]) htx36 (by simp only [List.length_append, List.length_cons, List.length_nil, List.length_replicate]; omega) (by omega)) (fun  F5 hq => ?_)
    obtain ⟨hh37, htx38, eF5⟩ := hq
    refine J_eqF (F2 := va_up (va_up F (k + 1) (.inl (g 1, 200, .inl (aI hh37)))) k (.inr (7, [.ref (ad (k + 1)), .int (iI ((((((w ++ [lt]) ++ [(43 : Nat)]) ++ [48 + (e.natAbs / 10)]) ++ [48 + (e.natAbs % 10)]).length : Nat) : Int))]))) (eF5.trans (Eq.trans (congrArg (fun qF : Nat → va_E => va_up qF k (.inr (7, [.ref (ad (k + 1)), .int (iI ((((((w ++ [lt]) ++ [(43 : Nat)]) ++ [48 + (e.natAbs / 10)]) ++ [48 + (e.natAbs % 10)]).length : Nat) : Int))]))) (up_in1 (by omega))) (up_in0))) ?_
    have eT39 : ((((w ++ [lt]) ++ [(43 : Nat)]) ++ [48 + (e.natAbs / 10)]) ++ [48 + (e.natAbs % 10)]) = w ++ expT e lt := (by unfold expT; rw [if_neg (by omega)]; simp only [List.append_assoc]; rfl)
    have htx40 : tx hh37 (w ++ expT e lt) := eT39 ▸ htx38
    refine J_eqF (F2 := va_up (va_up F (k + 1) (.inl (g 1, 200, .inl (aI hh37)))) k (.inr (7, [.ref (ad (k + 1)), .int (iI (((w ++ expT e lt).length : Nat) : Int))]))) (congrArg (fun qq : List Nat => va_up (va_up F (k + 1) (.inl (g 1, 200, .inl (aI hh37)))) k (oT ad k ((qq.length : Nat) : Int))) eT39) ?_
    refine J_vret rfl d_P_putExponent_47 ⟨by decide, by decide⟩ ?_
    exact ⟨rfl, rfl, rfl, _, htx40, rfl⟩
  · refine J_bipush d_P_putExponent_15 (i8_ok (by decide)) ?_
    refine J_goto (tgt := 22) d_P_putExponent_17 (by decide) ?_
    refine J_callVv cw_P_49 nh_T_put pn_T_put rfl rfl (by omega) (by rw [va_up_self]) (As := [.int (iI 45)]) (rest := []) rfl (Nat.le_of_ble_eq_true rfl) ⟨by decide, by decide⟩ rfl ⟨by decide, by decide⟩ d_P_putExponent_22 (c_T_putN hfl (k := k) (w := (w ++ [lt])) (hh := hh31) (c := (45 : Nat)) (by omega) (by rw [va_up_self]) (by rw [va_up_ne _ _ (by omega), va_up_self]) htx32 (by simp only [List.length_append, List.length_cons, List.length_nil, List.length_replicate]; omega) (by omega)) (fun  F6 hq => ?_)
    obtain ⟨hh41, htx42, eF6⟩ := hq
    refine J_eqF (F2 := va_up (va_up F (k + 1) (.inl (g 1, 200, .inl (aI hh41)))) k (.inr (7, [.ref (ad (k + 1)), .int (iI ((((w ++ [lt]) ++ [(45 : Nat)]).length : Nat) : Int))]))) (eF6.trans (Eq.trans (congrArg (fun qF : Nat → va_E => va_up qF k (.inr (7, [.ref (ad (k + 1)), .int (iI ((((w ++ [lt]) ++ [(45 : Nat)]).length : Nat) : Int))]))) (up_in1 (by omega))) (up_in0))) ?_
    refine J_aload_n 1 d_P_putExponent_25 rfl rfl ?_
    refine J_bipush d_P_putExponent_26 (i8_ok (by decide)) ?_
    refine J_iload_n 0 d_P_putExponent_28 rfl rfl ?_
    refine J_bipush d_P_putExponent_29 (i8_ok (by decide)) ?_
    refine J_idivn d_P_putExponent_31 (by omega) (by omega) ?_
    refine J_topi (r := ((e.natAbs / 10 : Nat) : Int)) (congrArg iI (by omega)) ?_
    refine J_iadd d_P_putExponent_32 ?_
    refine J_callVv cw_P_49 nh_T_put pn_T_put rfl rfl (by omega) (by rw [va_up_self]) (As := [.int (iI (48 + ((e.natAbs / 10 : Nat) : Int)))]) (rest := []) rfl (Nat.le_of_ble_eq_true rfl) ⟨by decide, by decide⟩ rfl ⟨by decide, by decide⟩ d_P_putExponent_33 (c_T_putN hfl (k := k) (w := ((w ++ [lt]) ++ [(45 : Nat)])) (hh := hh41) (c := 48 + (e.natAbs / 10)) (by omega) (by rw [va_up_self]) (by rw [va_up_ne _ _ (by omega), va_up_self]) htx42 (by simp only [List.length_append, List.length_cons, List.length_nil, List.length_replicate]; omega) (by omega)) (fun  F7 hq => ?_)
    obtain ⟨hh43, htx44, eF7⟩ := hq
    refine J_eqF (F2 := va_up (va_up F (k + 1) (.inl (g 1, 200, .inl (aI hh43)))) k (.inr (7, [.ref (ad (k + 1)), .int (iI (((((w ++ [lt]) ++ [(45 : Nat)]) ++ [48 + (e.natAbs / 10)]).length : Nat) : Int))]))) (eF7.trans (Eq.trans (congrArg (fun qF : Nat → va_E => va_up qF k (.inr (7, [.ref (ad (k + 1)), .int (iI (((((w ++ [lt]) ++ [(45 : Nat)]) ++ [48 + (e.natAbs / 10)]).length : Nat) : Int))]))) (up_in1 (by omega))) (up_in0))) ?_
    refine J_aload_n 1 d_P_putExponent_36 rfl rfl ?_
    refine J_bipush d_P_putExponent_37 (i8_ok (by decide)) ?_
    refine J_iload_n 0 d_P_putExponent_39 rfl rfl ?_
    refine J_bipush d_P_putExponent_40 (i8_ok (by decide)) ?_
    refine J_iremn d_P_putExponent_42 (by omega) (by omega) ?_
    refine J_topi (r := ((e.natAbs % 10 : Nat) : Int)) (congrArg iI (by omega)) ?_
    refine J_iadd d_P_putExponent_43 ?_
    refine J_callVv cw_P_49 nh_T_put pn_T_put rfl rfl (by omega) (by rw [va_up_self]) (As := [.int (iI (48 + ((e.natAbs % 10 : Nat) : Int)))]) (rest := []) rfl (Nat.le_of_ble_eq_true rfl) ⟨by decide, by decide⟩ rfl ⟨by decide, by decide⟩ d_P_putExponent_44 (c_T_putN hfl (k := k) (w := (((w ++ [lt]) ++ [(45 : Nat)]) ++ [48 + (e.natAbs / 10)])) (hh := hh43) (c := 48 + (e.natAbs % 10)) (by omega) (by rw [va_up_self]) (by rw [va_up_ne _ _ (by omega), va_up_self]) htx44 (by simp only [List.length_append, List.length_cons, List.length_nil, List.length_replicate]; omega) (by omega)) (fun  F8 hq => ?_)
    obtain ⟨hh45, htx46, eF8⟩ := hq
    refine J_eqF (F2 := va_up (va_up F (k + 1) (.inl (g 1, 200, .inl (aI hh45)))) k (.inr (7, [.ref (ad (k + 1)), .int (iI ((((((w ++ [lt]) ++ [(45 : Nat)]) ++ [48 + (e.natAbs / 10)]) ++ [48 + (e.natAbs % 10)]).length : Nat) : Int))]))) (eF8.trans (Eq.trans (congrArg (fun qF : Nat → va_E => va_up qF k (.inr (7, [.ref (ad (k + 1)), .int (iI ((((((w ++ [lt]) ++ [(45 : Nat)]) ++ [48 + (e.natAbs / 10)]) ++ [48 + (e.natAbs % 10)]).length : Nat) : Int))]))) (up_in1 (by omega))) (up_in0))) ?_
    have eT47 : ((((w ++ [lt]) ++ [(45 : Nat)]) ++ [48 + (e.natAbs / 10)]) ++ [48 + (e.natAbs % 10)]) = w ++ expT e lt := (by unfold expT; rw [if_pos (by omega)]; simp only [List.append_assoc]; rfl)
    have htx48 : tx hh45 (w ++ expT e lt) := eT47 ▸ htx46
    refine J_eqF (F2 := va_up (va_up F (k + 1) (.inl (g 1, 200, .inl (aI hh45)))) k (.inr (7, [.ref (ad (k + 1)), .int (iI (((w ++ expT e lt).length : Nat) : Int))]))) (congrArg (fun qq : List Nat => va_up (va_up F (k + 1) (.inl (g 1, 200, .inl (aI hh45)))) k (oT ad k ((qq.length : Nat) : Int))) eT47) ?_
    refine J_vret rfl d_P_putExponent_47 ⟨by decide, by decide⟩ ?_
    exact ⟨rfl, rfl, rfl, _, htx48, rfl⟩
set_option maxRecDepth 100000 in
set_option maxHeartbeats 4000000 in
theorem c_P_showPart {l : Launch} (hfl : l.flags = flags0) {D : va_G} {g : Nat → ClassId} {ad : Nat → Nat} {N : Nat} {F0 : Nat → va_E} {W : Nat → Nat} {K S : Nat → Int} {ex : Int} {wS : List Nat} {hS : Nat → Int} {wD : List Nat} {hD : Nat → Int} {q v : Nat}
    (hN : 109 ≤ N) (hW : bW W) (hPn : F0 43 = oP ad ex) (hTS : F0 44 = oT ad 44 (wS.length : Int)) (hAS : F0 45 = aT g hS) (ttS : tx hS wS) (hlS : wS.length ≤ 200) (hTD : F0 50 = oT ad 50 (wD.length : Int)) (hAD : F0 51 = aT g hD) (ttD : tx hD wD) (hlD : wD.length ≤ 200) (hq : isN q) (hq2 : q ≠ 52) (hv : W q = v) (hn : ndm 10 1 v ≤ 60) (hlS2 : wS.length ≤ 100) :
    JC l y_P_showPart b_P_showPart 2 (Option.none : Option Jvm.ClassFile.FieldType) rm_P_showPart (0, 0) D jCl (jTys g) ad N (cF ad g F0 W K S) [.ref (ad 43), .ref (ad q)] (jv ad N (fun F' => ∃ h1 h2 : Nat → Int, tx h1 (dgT v) ∧ tx h2 (wS ++ dgT v) ∧ bW (va_up W 52 0) ∧ F' = cF ad g (va_up (va_up (va_up (va_up F0 51 (aT g h1)) 50 (oT ad 50 ((dgT v).length : Int))) 45 (aT g h2)) 44 (oT ad 44 ((wS ++ dgT v).length : Int))) (va_up W 52 0) K S)) := by
  have hq97 := nMask_lt hq
  have hdl : (dgL 10 0 1 v).length ≤ 60 := by rw [dgL_l]; exact hn
  refine JC.go hfl (own := "NumberTower$Pen") (lv := [(0, .ref (ad 43)), (1, .ref (ad q))]) rfl (by decide +kernel) (Nat.le_of_ble_eq_true rfl) rfl (fun A => ?_)
  refine J_aload_n 0 d_P_showPart_0 rfl rfl ?_
  refine gf_P_30 (by omega) ((cF_0 (by decide)).trans hPn) rfl d_P_showPart_1 ?_
  refine J_aload_n 1 d_P_showPart_4 rfl rfl ?_
  refine J_callVv cw_P_81 nh_N_copyFrom pn_N_copyFrom rfl rfl (by omega) (cF_N (by decide) rfl) (As := [.ref (ad q)]) (rest := []) rfl (Nat.le_of_ble_eq_true rfl) ⟨by decide, by decide⟩ rfl ⟨by decide, by decide⟩ d_P_showPart_5 (n_copyFrom hfl (F0 := F0) (W := W) (K := K) (S := S) (k := 52) (m := q) (hN := by omega) (hW := hW) (hk := (by decide)) (hm := hq) (x := v) (hx := hv) (hd := (by omega))) (fun  F52 hq => ?_)
  obtain ⟨hW50, eF51⟩ := hq
  refine J_eqF (F2 := cF ad g F0 (va_up W 52 v) K S) eF51 ?_
  refine J_aload_n 0 d_P_showPart_8 rfl rfl ?_
  refine J_bipush d_P_showPart_9 (i8_ok (by decide)) ?_
  refine J_bipush d_P_showPart_11 (i8_ok (by decide)) ?_
  refine J_iconst d_P_showPart_13 ?_
  refine J_callVv cw_P_84 nh_P_setDigits pn_P_setDigits rfl rfl (by omega) ((cF_0 (by decide)).trans hPn) (As := [.int (iI 10), .int (iI 97), .int (iI 1)]) (rest := []) rfl (Nat.le_of_ble_eq_true rfl) ⟨by decide, by decide⟩ rfl ⟨by decide, by decide⟩ d_P_showPart_14 (c_P_setDigits hfl (F0 := F0) (W := va_up W 52 v) (K := K) (S := S) (ex := ex) (wD := wD) (hD := hD) (b := 10) (lst := 1) (v := v) (ten := 97) (cap := 0) hN hW50 (hPn) (hTD) (hAD) ttD hlD ((va_up_self ..)) (by omega) (Or.inl ⟨rfl, rfl⟩) (by omega)) (fun  F57 hq => ?_)
  obtain ⟨hh53, htx54, hW55, eF56⟩ := hq
  have hW58 := (congrArg bW (up_in0)).mp hW55
  refine J_eqF (F2 := cF ad g (va_up (va_up F0 51 (.inl (g 1, 200, .inl (aI hh53)))) 50 (.inr (7, [.ref (ad 51), .int (iI (((dgL 10 0 1 v).length : Nat) : Int))]))) (va_up W 52 0) K S) (eF56.trans (congrArg (fun qq => cF ad g (va_up (va_up F0 51 (.inl (g 1, 200, .inl (aI hh53)))) 50 (.inr (7, [.ref (ad 51), .int (iI (((dgL 10 0 1 v).length : Nat) : Int))]))) qq K S) (up_in0))) ?_
  refine J_aload_n 0 d_P_showPart_17 rfl rfl ?_
  refine gf_P_12 (by omega) ((cF_0 (by decide)).trans (by rw [va_up_ne _ _ (by decide), va_up_ne _ _ (by decide)]; exact hPn)) rfl d_P_showPart_18 ?_
  refine J_aload_n 0 d_P_showPart_21 rfl rfl ?_
  refine gf_P_24 (by omega) ((cF_0 (by decide)).trans (by rw [va_up_ne _ _ (by decide), va_up_ne _ _ (by decide)]; exact hPn)) rfl d_P_showPart_22 ?_
  refine J_iconst d_P_showPart_25 ?_
  refine J_aload_n 0 d_P_showPart_26 rfl rfl ?_
  refine gf_P_24 (by omega) ((cF_0 (by decide)).trans (by rw [va_up_ne _ _ (by decide), va_up_ne _ _ (by decide)]; exact hPn)) rfl d_P_showPart_27 ?_
  refine gf_P_88 (by omega) ((cF_0 (by decide)).trans (by rw [va_up_self])) rfl d_P_showPart_30 ?_
  refine J_callVv cw_P_91 nh_T_putFrom pn_T_putFrom rfl rfl (by omega) ((cF_0 (by decide)).trans (by rw [va_up_ne _ _ (by decide), va_up_ne _ _ (by decide)]; exact hTS)) (As := [.ref (ad 50), .int (iI 0), .int (iI (((dgL 10 0 1 v).length : Nat) : Int))]) (rest := []) rfl (Nat.le_of_ble_eq_true rfl) ⟨by decide, by decide⟩ rfl ⟨by decide, by decide⟩ d_P_showPart_33 (c_T_putFromN hfl (k := 44) (m := 50) (w := wS) (v := (dgL 10 0 1 v)) (u := (dgL 10 0 1 v)) (hh := hS) (yh := hh53) (p := 0) (q := (dgL 10 0 1 v).length) (by omega) ((cF_0 (by decide)).trans (by rw [va_up_ne _ _ (by decide), va_up_ne _ _ (by decide)]; exact hTS)) ((cF_0 (by decide)).trans (by rw [va_up_ne _ _ (by decide), va_up_ne _ _ (by decide)]; exact hAS)) ttS hlS (by omega) ((cF_0 (by decide)).trans (by rw [va_up_self])) ((cF_0 (by decide)).trans (by rw [va_up_ne _ _ (by decide), va_up_self])) htx54 (by rw [dgL_l]; omega) (by omega) (by omega) (by omega) take_all0 (by simp only [List.length_append, List.length_cons, List.length_nil, List.length_replicate]; omega)) (fun  F1 hq => ?_)
  obtain ⟨hh59, htx60, eF1⟩ := hq
  refine J_eqF (F2 := cF ad g (va_up (va_up (va_up (va_up F0 51 (.inl (g 1, 200, .inl (aI hh53)))) 50 (.inr (7, [.ref (ad 51), .int (iI (((dgL 10 0 1 v).length : Nat) : Int))]))) 45 (.inl (g 1, 200, .inl (aI hh59)))) 44 (.inr (7, [.ref (ad 45), .int (iI (((wS ++ (dgL 10 0 1 v)).length : Nat) : Int))]))) (va_up W 52 0) K S) (eF1.trans (Eq.trans (congrArg (fun qF : Nat → va_E => va_up qF 44 (.inr (7, [.ref (ad 45), .int (iI (((wS ++ (dgL 10 0 1 v)).length : Nat) : Int))]))) (cF_up0 (by decide))) (cF_up0 (by decide)))) ?_
  refine J_vret rfl d_P_showPart_36 ⟨by decide, by decide⟩ ?_
  exact ⟨rfl, rfl, rfl, _, _, htx54, htx60, hW58, rfl⟩
