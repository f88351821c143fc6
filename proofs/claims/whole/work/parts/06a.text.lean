/-! texts -/
abbrev oT (ad : Nat → Nat) (k : Nat) (c : Int) : va_E := .inr (7, [.ref (ad (k + 1)), .int (iI c)])
abbrev aT (g : Nat → ClassId) (h : Nat → Int) : va_E := .inl (g 1, 200, .inl (aI h))
def tx (h : Nat → Int) (w : List Nat) : Prop := (∀ j, j < w.length → h j = ((w.getD j 0 : Nat) : Int)) ∧ ∀ j, j < w.length → w.getD j 0 < 65536
/-- the character at a place, or -1 -/
def tat (w : List Nat) (k : Int) : Int := if 0 ≤ k ∧ k < w.length then ((w.getD k.toNat 0 : Nat) : Int) else -1
theorem tat_out {w : List Nat} {k : Int} (h : ¬(0 ≤ k ∧ k < w.length)) : tat w k = -1 := by unfold tat; rw [if_neg h]
theorem tat_in {w : List Nat} {k : Int} {h : Nat → Int} (ht : tx h w) (h0 : 0 ≤ k) (h1 : k < w.length) : tat w k = h k.toNat := by
  unfold tat; rw [if_pos ⟨h0, h1⟩, ht.1 _ (by omega)]
theorem tat_v {w : List Nat} {k : Int} (h0 : 0 ≤ k) (h1 : k < w.length) : tat w k = ((w.getD k.toNat 0 : Nat) : Int) := by
  unfold tat; rw [if_pos ⟨h0, h1⟩]
theorem tx_rng {w : List Nat} {h : Nat → Int} {j : Nat} (ht : tx h w) (hj : j < w.length) : 0 ≤ h j ∧ h j < 65536 := by
  rw [ht.1 j hj]
  have := ht.2 j hj
  omega
theorem tat_rng {w : List Nat} {h : Nat → Int} (ht : tx h w) (k : Int) : -1 ≤ tat w k ∧ tat w k < 65536 := by
  unfold tat
  split
  · rename_i q
    have := ht.2 k.toNat (by omega)
    omega
  · omega
theorem tx_nil (h : Nat → Int) : tx h [] := ⟨fun j hj => absurd hj (Nat.not_lt_zero _), fun j hj => absurd hj (Nat.not_lt_zero _)⟩
theorem tx_put {w : List Nat} {h : Nat → Int} {c : Int} (ht : tx h w) (hc : 0 ≤ c ∧ c < 65536) : tx (va_up h w.length c) (w ++ [c.toNat]) := by
  have key : ∀ j, j < (w ++ [c.toNat]).length → (w ++ [c.toNat]).getD j 0 = if j < w.length then w.getD j 0 else c.toNat := by
    intro j hj
    simp only [List.length_append, List.length_cons, List.length_nil] at hj
    simp only [List.getD_eq_getElem?_getD, List.getElem?_append]
    split
    · rfl
    · rw [show j - w.length = 0 by omega]; rfl
  constructor
  · intro j hj
    rw [key j hj]
    simp only [List.length_append, List.length_cons, List.length_nil] at hj
    by_cases e : j = w.length
    · subst e; rw [va_up_self, if_neg (by omega)]; omega
    · rw [va_up_ne _ _ e, if_pos (by omega)]; exact ht.1 j (by omega)
  · intro j hj
    rw [key j hj]
    split
    · rename_i q; exact ht.2 j q
    · omega
theorem tx_pre {w u : List Nat} {h : Nat → Int} (ht : tx h (u ++ w)) : tx h u := by
  have key : ∀ j, j < u.length → (u ++ w).getD j 0 = u.getD j 0 := by
    intro j hj
    simp only [List.getD_eq_getElem?_getD, List.getElem?_append, if_pos hj]
  constructor
  · intro j hj
    rw [ht.1 j (by rw [List.length_append]; omega), key j hj]
  · intro j hj
    rw [← key j hj]; exact ht.2 j (by rw [List.length_append]; omega)
theorem tx_take {w : List Nat} {h : Nat → Int} {n : Nat} (ht : tx h w) : tx h (w.take n) := by
  refine tx_pre (w := w.drop n) ?_
  rw [List.take_append_drop]; exact ht
theorem len_put {w : List Nat} {c : Nat} : ((w ++ [c]).length : Int) = (w.length : Int) + 1 := by simp
theorem take_next {v : List Nat} {p i : Nat} (h : i < v.length) (hp : p ≤ i) : (v.drop p).take (i + 1 - p) = (v.drop p).take (i - p) ++ [v.getD i 0] := by
  rw [show i + 1 - p = (i - p) + 1 by omega, List.take_succ]
  congr 1
  rw [List.getElem?_drop, show p + (i - p) = i by omega, List.getElem?_eq_getElem h, List.getD_eq_getElem?_getD, List.getElem?_eq_getElem h]
  rfl
theorem take_all {v : List Nat} {p a b : Nat} (ha : v.length ≤ p + a) (hb : v.length ≤ p + b) : (v.drop p).take a = (v.drop p).take b := by
  rw [List.take_of_length_le (by rw [List.length_drop]; omega), List.take_of_length_le (by rw [List.length_drop]; omega)]
/-- how many 0s at the end, at most n -/
def tz : Nat → List Nat → Nat
  | 0, _ => 0
  | n + 1, w => if tat w ((w.length : Int) - 1) = 48 then tz n w.dropLast + 1 else 0
theorem tz_le : ∀ (n : Nat) (w : List Nat), tz n w ≤ n ∧ tz n w ≤ w.length
  | 0, w => ⟨Nat.zero_le _, Nat.zero_le _⟩
  | n + 1, w => by
    have ih := tz_le n w.dropLast
    unfold tz
    split
    · rename_i h
      have : w.length ≠ 0 := by
        intro z
        rw [tat_out (by omega)] at h
        omega
      rw [List.length_dropLast] at ih
      omega
    · omega
theorem tat_take {w : List Nat} {n : Nat} {k : Int} (h : k < n) : tat (w.take n) k = tat w k := by
  unfold tat
  rw [List.length_take]
  by_cases q : 0 ≤ k ∧ k < w.length
  · rw [if_pos ⟨q.1, by omega⟩, if_pos q]
    congr 1
    simp only [List.getD_eq_getElem?_getD]
    rw [List.getElem?_take_of_lt (by omega)]
  · rw [if_neg (by omega), if_neg q]
set_option maxRecDepth 100000 in
set_option maxHeartbeats 4000000 in
theorem c_T_clear {l : Launch} (hfl : l.flags = flags0) {D : va_G} {g : Nat → ClassId} {ad : Nat → Nat} {N : Nat} {F : Nat → va_E} {k : Nat} {w : List Nat} {hh : Nat → Int}
    (hk : k + 1 < N) (hF : F k = oT ad k (w.length : Int)) (hA : F (k + 1) = aT g hh) (tt : tx hh w) (hl : w.length ≤ 200) :
    JC l y_T_clear b_T_clear 1 (Option.none : Option Jvm.ClassFile.FieldType) rm_T_clear (0, 0) D jCl (jTys g) ad N F [.ref (ad k)] (jv ad N (fun F' => F' = va_up F k (oT ad k 0))) := by
  refine JC.go hfl (own := "NumberTower$Text") (lv := [(0, .ref (ad k))]) rfl (by decide +kernel) (Nat.le_of_ble_eq_true rfl) rfl (fun A => ?_)
  refine J_aload_n 0 d_T_clear_0 rfl rfl ?_
  refine J_iconst d_T_clear_1 ?_
  refine pf_T_15 (by omega) hF (Nat.le_of_ble_eq_true rfl) d_T_clear_2 ?_
  refine J_eqF (F2 := va_up F k (.inr (7, [.ref (ad (k + 1)), .int (iI 0)]))) rfl ?_
  refine J_vret rfl d_T_clear_5 ⟨by decide, by decide⟩ ?_
  exact ⟨rfl, rfl, rfl, rfl⟩
set_option maxRecDepth 100000 in
set_option maxHeartbeats 4000000 in
theorem c_T_at {l : Launch} (hfl : l.flags = flags0) {D : va_G} {g : Nat → ClassId} {ad : Nat → Nat} {N : Nat} {F : Nat → va_E} {k : Nat} {w : List Nat} {hh : Nat → Int} {n : Int}
    (hk : k + 1 < N) (hF : F k = oT ad k (w.length : Int)) (hA : F (k + 1) = aT g hh) (tt : tx hh w) (hl : w.length ≤ 200) (hn : inI n) :
    JC l y_T_at b_T_at 2 (Option.some Jvm.ClassFile.FieldType.int) rm_T_at (0, 0) D jCl (jTys g) ad N F [.ref (ad k), .int (iI n)] (ji ad N (fun z F' => z = tat w n ∧ F' = F)) := by
  refine JC.go hfl (own := "NumberTower$Text") (lv := [(0, .ref (ad k)), (1, .int (iI n))]) rfl (by decide +kernel) (Nat.le_of_ble_eq_true rfl) rfl (fun A => ?_)
  refine J_iload_n 1 d_T_at_0 rfl rfl ?_
  refine J_iflt (tgt := 28) d_T_at_1 (by decide) ⟨by omega, by omega⟩ (fun c1 => ?_) (fun c1 => ?_)
  · refine J_iconst d_T_at_28 ?_
    refine J_iret rfl rfl d_T_at_29 ⟨by decide, by decide⟩ ?_
    exact ⟨_, rfl, rfl, rfl, by first | rw [tat_out (by omega)] | rw [tat_in tt (by omega) (by omega)], rfl⟩
  · refine J_iload_n 1 d_T_at_4 rfl rfl ?_
    refine J_aload_n 0 d_T_at_5 rfl rfl ?_
    refine gf_T_15 (by omega) hF rfl d_T_at_6 ?_
    refine J_if_icmpge (tgt := 28) d_T_at_9 (by decide) ⟨by omega, by omega⟩ ⟨by omega, by omega⟩ (fun c9 => ?_) (fun c9 => ?_)
    · refine J_iconst d_T_at_28 ?_
      refine J_iret rfl rfl d_T_at_29 ⟨by decide, by decide⟩ ?_
      exact ⟨_, rfl, rfl, rfl, by first | rw [tat_out (by omega)] | rw [tat_in tt (by omega) (by omega)], rfl⟩
    · refine J_iload_n 1 d_T_at_12 rfl rfl ?_
      refine J_sipush d_T_at_13 (i16_ok (by decide)) ?_
      refine J_if_icmpge (tgt := 28) d_T_at_16 (by decide) ⟨by omega, by omega⟩ ⟨by omega, by omega⟩ (fun c16 => ?_) (fun c16 => ?_)
      · refine J_iconst d_T_at_28 ?_
        refine J_iret rfl rfl d_T_at_29 ⟨by decide, by decide⟩ ?_
        exact ⟨_, rfl, rfl, rfl, by first | rw [tat_out (by omega)] | rw [tat_in tt (by omega) (by omega)], rfl⟩
      · refine J_aload_n 0 d_T_at_19 rfl rfl ?_
        refine gf_T_11 (by omega) hF rfl d_T_at_20 ?_
        refine J_iload_n 1 d_T_at_23 rfl rfl ?_
        refine J_caload 1 rfl (by omega) hA (by omega) d_T_at_24 ?_
        refine J_goto (tgt := 29) d_T_at_25 (by decide) ?_
        refine J_iret rfl rfl d_T_at_29 ⟨by decide, by decide⟩ ?_
        exact ⟨_, rfl, rfl, rfl, by first | rw [tat_out (by omega)] | rw [tat_in tt (by omega) (by omega)], rfl⟩
set_option maxRecDepth 100000 in
set_option maxHeartbeats 4000000 in
theorem c_T_put {l : Launch} (hfl : l.flags = flags0) {D : va_G} {g : Nat → ClassId} {ad : Nat → Nat} {N : Nat} {F : Nat → va_E} {k : Nat} {w : List Nat} {hh : Nat → Int} {c : Int}
    (hk : k + 1 < N) (hF : F k = oT ad k (w.length : Int)) (hA : F (k + 1) = aT g hh) (tt : tx hh w) (hl : w.length < 200) (hc : 0 ≤ c ∧ c < 65536) :
    JC l y_T_put b_T_put 2 (Option.none : Option Jvm.ClassFile.FieldType) rm_T_put (0, 0) D jCl (jTys g) ad N F [.ref (ad k), .int (iI c)] (jv ad N (fun F' => ∃ h' : Nat → Int, tx h' (w ++ [c.toNat]) ∧ F' = va_up (va_up F (k + 1) (aT g h')) k (oT ad k ((w ++ [c.toNat]).length : Int)))) := by
  refine JC.go hfl (own := "NumberTower$Text") (lv := [(0, .ref (ad k)), (1, .int (iI c))]) rfl (by decide +kernel) (Nat.le_of_ble_eq_true rfl) rfl (fun A => ?_)
  refine J_aload_n 0 d_T_put_0 rfl rfl ?_
  refine gf_T_15 (by omega) hF rfl d_T_put_1 ?_
  refine J_iflt (tgt := 38) d_T_put_4 (by decide) ⟨by omega, by omega⟩ (fun c4 => ?_) (fun c4 => ?_)
  · exact absurd c4 (by omega)
  · refine J_aload_n 0 d_T_put_7 rfl rfl ?_
    refine gf_T_15 (by omega) hF rfl d_T_put_8 ?_
    refine J_sipush d_T_put_11 (i16_ok (by decide)) ?_
    refine J_if_icmpge (tgt := 38) d_T_put_14 (by decide) ⟨by omega, by omega⟩ ⟨by omega, by omega⟩ (fun c14 => ?_) (fun c14 => ?_)
    · exact absurd c14 (by omega)
    · refine J_aload_n 0 d_T_put_17 rfl rfl ?_
      refine gf_T_11 (by omega) hF rfl d_T_put_18 ?_
      refine J_aload_n 0 d_T_put_21 rfl rfl ?_
      refine gf_T_15 (by omega) hF rfl d_T_put_22 ?_
      refine J_iload_n 1 d_T_put_25 rfl rfl ?_
      refine J_i2c d_T_put_26 (i2c_ok (by omega)) ?_
      refine J_castore 1 rfl (by omega) hA (by omega) (nar_c (by omega)) d_T_put_27 ?_
      refine J_eqF (F2 := va_up F (k + 1) (.inl (g 1, 200, .inl (aI (va_up hh w.length c))))) (congrArg (fun q => va_up F (k + 1) (.inl (g 1, 200, .inl (aI (va_up hh q c))))) (by omega : (w.length : Int).toNat = w.length)) ?_
      refine J_aload_n 0 d_T_put_28 rfl rfl ?_
      refine J_dup d_T_put_29 rfl ?_
      refine gf_T_15 (by omega) (by rw [va_up_ne _ _ (by omega)]; exact hF) rfl d_T_put_30 ?_
      refine J_iconst d_T_put_33 ?_
      refine J_iadd d_T_put_34 ?_
      refine pf_T_15 (by omega) (by rw [va_up_ne _ _ (by omega)]; exact hF) (Nat.le_of_ble_eq_true rfl) d_T_put_35 ?_
      refine J_eqF (F2 := va_up (va_up F (k + 1) (.inl (g 1, 200, .inl (aI (va_up hh w.length c))))) k (.inr (7, [.ref (ad (k + 1)), .int (iI ((w.length : Int) + 1))]))) rfl ?_
      refine J_vret rfl d_T_put_38 ⟨by decide, by decide⟩ ?_
      exact ⟨rfl, rfl, rfl, _, tx_put tt hc, by rw [len_put]⟩
set_option maxRecDepth 100000 in
set_option maxHeartbeats 4000000 in
theorem c_T_putMany {l : Launch} (hfl : l.flags = flags0) {D : va_G} {g : Nat → ClassId} {ad : Nat → Nat} {N : Nat} {F : Nat → va_E} {k : Nat} {w : List Nat} {hh : Nat → Int} {c n : Int}
    (hk : k + 1 < N) (hF : F k = oT ad k (w.length : Int)) (hA : F (k + 1) = aT g hh) (tt : tx hh w) (hl : w.length ≤ 200) (hc : 0 ≤ c ∧ c < 65536) (hn : inI n ∧ w.length + n.toNat ≤ 200) :
    JC l y_T_putMany b_T_putMany 4 (Option.none : Option Jvm.ClassFile.FieldType) rm_T_putMany (0, 0) D jCl (jTys g) ad N F [.ref (ad k), .int (iI c), .int (iI n)] (jv ad N (fun F' => ∃ h' : Nat → Int, tx h' (w ++ List.replicate n.toNat c.toNat) ∧ F' = va_up (va_up F (k + 1) (aT g h')) k (oT ad k ((w ++ List.replicate n.toNat c.toNat).length : Int)))) := by
  refine JC.go hfl (own := "NumberTower$Text") (lv := [(0, .ref (ad k)), (1, .int (iI c)), (2, .int (iI n))]) rfl (by decide +kernel) (Nat.le_of_ble_eq_true rfl) rfl (fun A => ?_)
  refine J_iconst d_T_putMany_0 ?_
  refine J_istore_n (lv' := [(3, .int (iI 0)), (0, .ref (ad k)), (1, .int (iI c)), (2, .int (iI n))]) d_T_putMany_1 rfl (by decide) rfl ?_
  refine J_pick (lv' := [(0, .ref (ad k)), (1, .int (iI c)), (2, .int (iI n)), (3, .int (iI 0))]) [1, 2, 3, 0] rfl ?_
  have loop2 : ∀ (fuel : Nat) (i : Nat) (u : List Nat) (hh : Nat → Int) (h1 : i ≤ n.toNat) (hu : u = w ++ List.replicate i c.toNat) (tt : tx hh u) (hfu : n.toNat - i < fuel), J l rm_T_putMany (0, 0) "NumberTower$Text" b_T_putMany 4 (Option.none : Option Jvm.ClassFile.FieldType) D jCl (jTys g) A (fun _ me => me.name = y_T_putMany.name) (jv ad N (fun F' => ∃ h' : Nat → Int, tx h' (w ++ List.replicate n.toNat c.toNat) ∧ F' = va_up (va_up F (k + 1) (aT g h')) k (oT ad k ((w ++ List.replicate n.toNat c.toNat).length : Int)))) ad N 0 0 2 [(0, .ref (ad k)), (1, .int (iI c)), (2, .int (iI n)), (3, .int (iI (i : Int)))] [] (va_up (va_up F (k + 1) (.inl (g 1, 200, .inl (aI hh)))) k (.inr (7, [.ref (ad (k + 1)), .int (iI (u.length : Int))]))) := by
    intro fuel
    induction fuel with
    | zero => intro i u hh h1 hu tt hfu; exact absurd hfu (Nat.not_lt_zero _)
    | succ fuel ih =>
      intro i u hh h1 hu tt hfu
      refine J_iload_n 3 d_T_putMany_2 rfl rfl ?_
      refine J_iload_n 2 d_T_putMany_3 rfl rfl ?_
      refine J_if_icmpge (tgt := 25) d_T_putMany_4 (by decide) ⟨by omega, by omega⟩ ⟨by omega, by omega⟩ (fun c4 => ?_) (fun c4 => ?_)
      · refine J_vret rfl d_T_putMany_25 ⟨by decide, by decide⟩ ?_
        exact ⟨rfl, rfl, rfl, hh, by rw [show n.toNat = i by omega, ← hu]; exact tt, by rw [show n.toNat = i by omega, ← hu]⟩
      · refine J_iload_n 3 d_T_putMany_7 rfl rfl ?_
        refine J_sipush d_T_putMany_8 (i16_ok (by decide)) ?_
        refine J_if_icmpge (tgt := 25) d_T_putMany_11 (by decide) ⟨by omega, by omega⟩ ⟨by omega, by omega⟩ (fun c11 => ?_) (fun c11 => ?_)
        · refine J_vret rfl d_T_putMany_25 ⟨by decide, by decide⟩ ?_
          exact ⟨rfl, rfl, rfl, hh, by rw [show n.toNat = i by omega, ← hu]; exact tt, by rw [show n.toNat = i by omega, ← hu]⟩
        · refine J_aload_n 0 d_T_putMany_14 rfl rfl ?_
          refine J_iload_n 1 d_T_putMany_15 rfl rfl ?_
          refine J_callVv cw_T_19 nh_T_put pn_T_put rfl rfl (by omega) (by rw [va_up_self]) (As := [.int (iI c)]) (rest := []) rfl (Nat.le_of_ble_eq_true rfl) ⟨by decide, by decide⟩ rfl ⟨by decide, by decide⟩ d_T_putMany_16 (c_T_put hfl (k := k) (w := u) (hh := hh) (by omega) (by rw [va_up_self]) (by rw [va_up_ne _ _ (by omega), va_up_self]) tt (by rw [hu, List.length_append, List.length_replicate]; omega) hc) (fun  F1 hq => ?_)
          obtain ⟨hhn, ttn, eF1⟩ := hq
          refine J_eqF (F2 := va_up (va_up F (k + 1) (.inl (g 1, 200, .inl (aI hhn)))) k (.inr (7, [.ref (ad (k + 1)), .int (iI ((u ++ [c.toNat]).length : Int))]))) (eF1.trans (Eq.trans (congrArg (fun q : Nat → va_E => va_up q k (.inr (7, [.ref (ad (k + 1)), .int (iI ((u ++ [c.toNat]).length : Int))]))) (up_in1 (by omega))) (up_in0))) ?_
          refine J_iinc (j := 3) (b := (i : Int) + 1) (lv' := [(3, .int (iI ((i : Int) + 1))), (0, .ref (ad k)), (1, .int (iI c)), (2, .int (iI n))]) d_T_putMany_19 rfl (by omega) (by decide) rfl ?_
          refine J_goto (tgt := 2) d_T_putMany_22 (by decide) ?_
          refine J_pick (lv' := [(0, .ref (ad k)), (1, .int (iI c)), (2, .int (iI n)), (3, .int (iI ((i : Int) + 1)))]) [1, 2, 3, 0] rfl ?_
          exact ih (i + 1) (u ++ [c.toNat]) hhn (by omega) (by rw [hu, List.append_assoc, List.replicate_succ']) ttn (by omega)
  refine J_eqF (F2 := va_up (va_up F (k + 1) (.inl (g 1, 200, .inl (aI hh)))) k (.inr (7, [.ref (ad (k + 1)), .int (iI (w.length : Int))]))) (up_same2 hA hF) ?_
  exact loop2 ((n.toNat - 0) + 1) 0 w hh (by omega) (by simp) tt (Nat.lt_succ_self _)
set_option maxRecDepth 100000 in
set_option maxHeartbeats 4000000 in
theorem c_T_putFrom {l : Launch} (hfl : l.flags = flags0) {D : va_G} {g : Nat → ClassId} {ad : Nat → Nat} {N : Nat} {F : Nat → va_E} {k m : Nat} {w v : List Nat} {hh yh : Nat → Int} {p q : Int}
    (hk : k + 1 < N) (hF : F k = oT ad k (w.length : Int)) (hA : F (k + 1) = aT g hh) (tt : tx hh w) (hl : w.length ≤ 200) (yhk : m + 1 < N) (yhF : F m = oT ad m (v.length : Int)) (yhA : F (m + 1) = aT g yh) (ytt : tx yh v) (yhl : v.length ≤ 200) (hd : k + 1 < m ∨ m + 1 < k) (hp : 0 ≤ p ∧ p ≤ 2147483647) (hq : inI q) (hn2 : (w ++ (v.drop p.toNat).take (q.toNat - p.toNat)).length ≤ 200) :
    JC l y_T_putFrom b_T_putFrom 5 (Option.none : Option Jvm.ClassFile.FieldType) rm_T_putFrom (0, 0) D jCl (jTys g) ad N F [.ref (ad k), .ref (ad m), .int (iI p), .int (iI q)] (jv ad N (fun F' => ∃ h' : Nat → Int, tx h' (w ++ (v.drop p.toNat).take (q.toNat - p.toNat)) ∧ F' = va_up (va_up F (k + 1) (aT g h')) k (oT ad k ((w ++ (v.drop p.toNat).take (q.toNat - p.toNat)).length : Int)))) := by
  refine JC.go hfl (own := "NumberTower$Text") (lv := [(0, .ref (ad k)), (1, .ref (ad m)), (2, .int (iI p)), (3, .int (iI q))]) rfl (by decide +kernel) (Nat.le_of_ble_eq_true rfl) rfl (fun A => ?_)
  refine J_iload_n 2 d_T_putFrom_0 rfl rfl ?_
  refine J_istore (lv' := [(4, .int (iI p)), (0, .ref (ad k)), (1, .ref (ad m)), (2, .int (iI p)), (3, .int (iI q))]) d_T_putFrom_1 (by decide) rfl ?_
  have lab34 : ∀ (u : List Nat) (hh : Nat → Int) (hu : u = w ++ (v.drop p.toNat).take (q.toNat - p.toNat)) (tt : tx hh u) , J l rm_T_putFrom (0, 0) "NumberTower$Text" b_T_putFrom 5 (Option.none : Option Jvm.ClassFile.FieldType) D jCl (jTys g) A (fun _ me => me.name = y_T_putFrom.name) (jv ad N (fun F' => ∃ h' : Nat → Int, tx h' (w ++ (v.drop p.toNat).take (q.toNat - p.toNat)) ∧ F' = va_up (va_up F (k + 1) (aT g h')) k (oT ad k ((w ++ (v.drop p.toNat).take (q.toNat - p.toNat)).length : Int)))) ad N 0 0 34 [] [] (va_up (va_up F (k + 1) (.inl (g 1, 200, .inl (aI hh)))) k (.inr (7, [.ref (ad (k + 1)), .int (iI (u.length : Int))]))) := by
    intro u hh hu tt
    refine J_vret rfl d_T_putFrom_34 ⟨by decide, by decide⟩ ?_
    exact ⟨rfl, rfl, rfl, hh, by rw [← hu]; exact tt, by rw [← hu]⟩
  refine J_pick (lv' := [(0, .ref (ad k)), (1, .ref (ad m)), (3, .int (iI q)), (4, .int (iI p))]) [1, 2, 4, 0] rfl ?_
  have loop3 : ∀ (fuel : Nat) (i : Int) (u : List Nat) (hh : Nat → Int) (h1 : p ≤ i ∧ i ≤ 2147483647 ∧ (i = p ∨ (i ≤ q ∧ i ≤ v.length))) (hu : u = w ++ (v.drop p.toNat).take (i.toNat - p.toNat)) (tt : tx hh u) (hfu : (q - i).toNat < fuel), J l rm_T_putFrom (0, 0) "NumberTower$Text" b_T_putFrom 5 (Option.none : Option Jvm.ClassFile.FieldType) D jCl (jTys g) A (fun _ me => me.name = y_T_putFrom.name) (jv ad N (fun F' => ∃ h' : Nat → Int, tx h' (w ++ (v.drop p.toNat).take (q.toNat - p.toNat)) ∧ F' = va_up (va_up F (k + 1) (aT g h')) k (oT ad k ((w ++ (v.drop p.toNat).take (q.toNat - p.toNat)).length : Int)))) ad N 0 0 3 [(0, .ref (ad k)), (1, .ref (ad m)), (3, .int (iI q)), (4, .int (iI i))] [] (va_up (va_up F (k + 1) (.inl (g 1, 200, .inl (aI hh)))) k (.inr (7, [.ref (ad (k + 1)), .int (iI (u.length : Int))]))) := by
    intro fuel
    induction fuel with
    | zero => intro i u hh h1 hu tt hfu; exact absurd hfu (Nat.not_lt_zero _)
    | succ fuel ih =>
      intro i u hh h1 hu tt hfu
      refine J_iload 3 d_T_putFrom_3 rfl ?_
      refine J_iload_n 2 d_T_putFrom_5 rfl rfl ?_
      refine J_if_icmpge (tgt := 34) d_T_putFrom_6 (by decide) ⟨by omega, by omega⟩ ⟨by omega, by omega⟩ (fun c6 => ?_) (fun c6 => ?_)
      · refine J_pick (lv' := []) [] rfl ?_
        exact lab34 u hh (by
          rw [hu]
          by_cases e1 : q ≤ i
          · by_cases e2 : i = p
            · rw [show i.toNat - p.toNat = q.toNat - p.toNat by omega]
            · rw [show i.toNat = q.toNat by omega]
          · rw [take_all (v := v) (p := p.toNat) (a := i.toNat - p.toNat) (b := q.toNat - p.toNat) (by omega) (by omega)]) tt
      · refine J_iload 3 d_T_putFrom_9 rfl ?_
        refine J_aload_n 1 d_T_putFrom_11 rfl rfl ?_
        refine gf_T_15 (by omega) (by rw [va_up_ne _ _ (by omega), va_up_ne _ _ (by omega)]; exact yhF) rfl d_T_putFrom_12 ?_
        refine J_if_icmpge (tgt := 34) d_T_putFrom_15 (by decide) ⟨by omega, by omega⟩ ⟨by omega, by omega⟩ (fun c15 => ?_) (fun c15 => ?_)
        · refine J_pick (lv' := []) [] rfl ?_
          exact lab34 u hh (by
            rw [hu]
            by_cases e1 : q ≤ i
            · by_cases e2 : i = p
              · rw [show i.toNat - p.toNat = q.toNat - p.toNat by omega]
              · rw [show i.toNat = q.toNat by omega]
            · rw [take_all (v := v) (p := p.toNat) (a := i.toNat - p.toNat) (b := q.toNat - p.toNat) (by omega) (by omega)]) tt
        · refine J_aload_n 0 d_T_putFrom_18 rfl rfl ?_
          refine J_aload_n 1 d_T_putFrom_19 rfl rfl ?_
          refine J_iload 3 d_T_putFrom_20 rfl ?_
          refine J_callVi cw_T_23 nh_T_at pn_T_at rfl rfl (by omega) (by rw [va_up_ne _ _ (by omega), va_up_ne _ _ (by omega)]; exact yhF) (As := [.int (iI i)]) (rest := [.ref (ad k)]) rfl (Nat.le_of_ble_eq_true rfl) ⟨by decide, by decide⟩ rfl ⟨by decide, by decide⟩ d_T_putFrom_22 (c_T_at hfl (k := m) (w := v) (hh := yh) (n := i) (by omega) (by rw [va_up_ne _ _ (by omega), va_up_ne _ _ (by omega)]; exact yhF) (by rw [va_up_ne _ _ (by omega), va_up_ne _ _ (by omega)]; exact yhA) ytt yhl ⟨by omega, by omega⟩) (fun ta1 F2 hq => ?_)
          obtain ⟨hta1, eF2⟩ := hq
          refine J_eqF eF2 ?_
          have hat := tat_v (w := v) (k := i) (by omega) (by omega)
          have hati := ytt.2 i.toNat (by omega)
          have hlu : u.length < 200 := by rw [hu]; rw [List.length_append, List.length_take, List.length_drop] at hn2 ⊢; omega
          refine J_topi (r := (v.getD i.toNat 0 : Int)) (congrArg iI (by omega)) ?_
          refine J_callVv cw_T_19 nh_T_put pn_T_put rfl rfl (by omega) (by rw [va_up_self]) (As := [.int (iI (v.getD i.toNat 0 : Int))]) (rest := []) rfl (Nat.le_of_ble_eq_true rfl) ⟨by decide, by decide⟩ rfl ⟨by decide, by decide⟩ d_T_putFrom_25 (c_T_put hfl (k := k) (w := u) (hh := hh) (by omega) (by rw [va_up_self]) (by rw [va_up_ne _ _ (by omega), va_up_self]) tt hlu ⟨by omega, by omega⟩) (fun  F3 hq => ?_)
          obtain ⟨hhn, ttn, eF3⟩ := hq
          refine J_eqF (F2 := va_up (va_up F (k + 1) (.inl (g 1, 200, .inl (aI hhn)))) k (.inr (7, [.ref (ad (k + 1)), .int (iI ((u ++ [v.getD i.toNat 0]).length : Int))]))) (eF3.trans (Eq.trans (congrArg (fun q : Nat → va_E => va_up q k (.inr (7, [.ref (ad (k + 1)), .int (iI ((u ++ [v.getD i.toNat 0]).length : Int))]))) (up_in1 (by omega))) (up_in0))) ?_
          refine J_iinc (j := 3) (b := i + 1) (lv' := [(4, .int (iI (i + 1))), (0, .ref (ad k)), (1, .ref (ad m)), (3, .int (iI q))]) d_T_putFrom_28 rfl (by omega) (by decide) rfl ?_
          refine J_goto (tgt := 3) d_T_putFrom_31 (by decide) ?_
          refine J_pick (lv' := [(0, .ref (ad k)), (1, .ref (ad m)), (3, .int (iI q)), (4, .int (iI (i + 1)))]) [1, 2, 3, 0] rfl ?_
          exact ih (i + 1) (u ++ [v.getD i.toNat 0]) hhn (by omega) (by rw [hu, List.append_assoc, show (i + 1).toNat = i.toNat + 1 by omega, take_next (by omega) (by omega)]) ttn (by omega)
  refine J_eqF (F2 := va_up (va_up F (k + 1) (.inl (g 1, 200, .inl (aI hh)))) k (.inr (7, [.ref (ad (k + 1)), .int (iI (w.length : Int))]))) (up_same2 hA hF) ?_
  exact loop3 (((q - p).toNat) + 1) p w hh (by omega) (by simp) tt (Nat.lt_succ_self _)
set_option maxRecDepth 100000 in
set_option maxHeartbeats 4000000 in
theorem c_T_reverse {l : Launch} (hfl : l.flags = flags0) {D : va_G} {g : Nat → ClassId} {ad : Nat → Nat} {N : Nat} {F : Nat → va_E} {k : Nat} {w : List Nat} {hh : Nat → Int}
    (hk : k + 1 < N) (hF : F k = oT ad k (w.length : Int)) (hA : F (k + 1) = aT g hh) (tt : tx hh w) (hl : w.length ≤ 200) :
    JC l y_T_reverse b_T_reverse 4 (Option.none : Option Jvm.ClassFile.FieldType) rm_T_reverse (0, 0) D jCl (jTys g) ad N F [.ref (ad k)] (jv ad N (fun F' => ∃ h' : Nat → Int, tx h' w.reverse ∧ F' = va_up (va_up F (k + 1) (aT g h')) k (oT ad k (w.reverse.length : Int)))) := by
  refine JC.go hfl (own := "NumberTower$Text") (lv := [(0, .ref (ad k))]) rfl (by decide +kernel) (Nat.le_of_ble_eq_true rfl) rfl (fun A => ?_)
  refine J_iconst d_T_reverse_0 ?_
  refine J_istore_n (lv' := [(1, .int (iI 0)), (0, .ref (ad k))]) d_T_reverse_1 rfl (by decide) rfl ?_
  refine J_aload_n 1 d_T_reverse_2 rfl rfl ?_
  refine gf_T_15 (by omega) hF rfl d_T_reverse_3 ?_
  refine J_sipush d_T_reverse_6 (i16_ok (by decide)) ?_
  refine J_callSi cw_T_27 nh_JMath_min pn_JMath_min rfl (As := [.int (iI (w.length : Int)), .int (iI 200)]) (rest := []) rfl (Nat.le_of_ble_eq_true rfl) ⟨by decide, by decide⟩ rfl ⟨by decide, by decide⟩ d_T_reverse_9 (c_JMath_min hfl ⟨by omega, by omega⟩ ⟨by omega, by omega⟩) (fun mn F1 hq => ?_)
  obtain ⟨hmin, eF1⟩ := hq
  refine J_eqF eF1 ?_
  refine J_iconst d_T_reverse_12 ?_
  refine J_isub d_T_reverse_13 ?_
  refine J_istore_n (lv' := [(2, .int (iI (mn - 1))), (1, .int (iI 0)), (0, .ref (ad k))]) d_T_reverse_14 rfl (by decide) rfl ?_
  refine J_pick (lv' := [(0, .ref (ad k)), (1, .int (iI 0)), (2, .int (iI (mn - 1)))]) [2, 1, 0] rfl ?_
  have loop15 : ∀ (fuel : Nat) (i : Nat) (j : Int) (f : Nat → Int) (h1 : i ≤ w.length) (h2 : j = (w.length : Int) - 1 - i) (hf : ∀ x, x < w.length → f x = ((w.getD (if x < i ∨ j < x then w.length - 1 - x else x) 0 : Nat) : Int)) (hfu : w.length - i < fuel), J l rm_T_reverse (0, 0) "NumberTower$Text" b_T_reverse 4 (Option.none : Option Jvm.ClassFile.FieldType) D jCl (jTys g) A (fun _ me => me.name = y_T_reverse.name) (jv ad N (fun F' => ∃ h' : Nat → Int, tx h' w.reverse ∧ F' = va_up (va_up F (k + 1) (aT g h')) k (oT ad k (w.reverse.length : Int)))) ad N 0 0 15 [(0, .ref (ad k)), (1, .int (iI (i : Int))), (2, .int (iI j))] [] (va_up F (k + 1) (.inl (g 1, 200, .inl (aI f)))) := by
    intro fuel
    induction fuel with
    | zero => intro i j f h1 h2 hf hfu; exact absurd hfu (Nat.not_lt_zero _)
    | succ fuel ih =>
      intro i j f h1 h2 hf hfu
      refine J_iload_n 1 d_T_reverse_15 rfl rfl ?_
      refine J_iload_n 2 d_T_reverse_16 rfl rfl ?_
      refine J_if_icmpge (tgt := 55) d_T_reverse_17 (by decide) ⟨by omega, by omega⟩ ⟨by omega, by omega⟩ (fun c17 => ?_) (fun c17 => ?_)
      · refine J_vret rfl d_T_reverse_55 ⟨by decide, by decide⟩ ?_
        refine ⟨rfl, rfl, rfl, f, ?_, ?_⟩
        · have key : ∀ x, x < w.length → w.reverse.getD x 0 = w.getD (w.length - 1 - x) 0 := fun x hx => by
            simp only [List.getD_eq_getElem?_getD]
            rw [List.getElem?_reverse hx]
          constructor
          · intro x hx
            rw [List.length_reverse] at hx
            rw [hf x hx, key x hx]
            congr 2
            split
            · rfl
            · omega
          · intro x hx
            rw [List.length_reverse] at hx
            rw [key x hx]
            exact tt.2 _ (by omega)
        · rw [List.length_reverse]
          exact up_same1 (by rw [va_up_ne _ _ (by omega)]; exact hF)
      · refine J_aload_n 0 d_T_reverse_20 rfl rfl ?_
        refine gf_T_11 (by omega) (by rw [va_up_ne _ _ (by omega)]; exact hF) rfl d_T_reverse_21 ?_
        refine J_iload_n 1 d_T_reverse_24 rfl rfl ?_
        refine J_caload 1 rfl (by omega) (by rw [va_up_self]) (by omega) d_T_reverse_25 ?_
        refine J_topi (r := f i) (congrArg (fun q => iI (f q)) (by omega)) ?_
        refine J_istore_n (lv' := [(3, .int (iI (f i))), (0, .ref (ad k)), (1, .int (iI (i : Int))), (2, .int (iI j))]) d_T_reverse_26 rfl (by decide) rfl ?_
        refine J_aload_n 1 d_T_reverse_27 rfl rfl ?_
        refine gf_T_11 (by omega) (by rw [va_up_ne _ _ (by omega)]; exact hF) rfl d_T_reverse_28 ?_
        refine J_iload_n 2 d_T_reverse_31 rfl rfl ?_
        refine J_aload_n 1 d_T_reverse_32 rfl rfl ?_
        refine gf_T_11 (by omega) (by rw [va_up_ne _ _ (by omega)]; exact hF) rfl d_T_reverse_33 ?_
        refine J_iload_n 3 d_T_reverse_36 rfl rfl ?_
        refine J_caload 1 rfl (by omega) (by rw [va_up_self]) (by omega) d_T_reverse_37 ?_
        refine J_castore 1 rfl (by omega) (by rw [va_up_self]) (by omega) (nar_c (by rw [hf _ (by omega), if_neg (by omega)]; have := tt.2 j.toNat (by omega); omega)) d_T_reverse_38 ?_
        refine J_eqF (F2 := va_up (va_up F (k + 1) (.inl (g 1, 200, .inl (aI f)))) (k + 1) (.inl (g 1, 200, .inl (aI (va_up f i (f j.toNat)))))) (congrArg (fun q => va_up (va_up F (k + 1) (.inl (g 1, 200, .inl (aI f)))) (k + 1) (.inl (g 1, 200, .inl (aI (va_up f q (f j.toNat)))))) (by omega : (i : Int).toNat = i)) ?_
        refine J_eqF (F2 := va_up F (k + 1) (.inl (g 1, 200, .inl (aI (va_up f i (f j.toNat)))))) (up_in0) ?_
        refine J_aload_n 1 d_T_reverse_39 rfl rfl ?_
        refine gf_T_11 (by omega) (by rw [va_up_ne _ _ (by omega)]; exact hF) rfl d_T_reverse_40 ?_
        refine J_iload_n 3 d_T_reverse_43 rfl rfl ?_
        refine J_iload_n 0 d_T_reverse_44 rfl rfl ?_
        refine J_castore 1 rfl (by omega) (by rw [va_up_self]) (by omega) (nar_c (by rw [hf _ (by omega), if_neg (by omega)]; have := tt.2 i (by omega); omega)) d_T_reverse_45 ?_
        refine J_eqF (F2 := va_up F (k + 1) (.inl (g 1, 200, .inl (aI (va_up (va_up f i (f j.toNat)) j.toNat (f i)))))) (up_in0) ?_
        refine J_iinc (j := 2) (b := (i : Int) + 1) (lv' := [(1, .int (iI ((i : Int) + 1))), (3, .int (iI (f i))), (0, .ref (ad k)), (2, .int (iI j))]) d_T_reverse_46 rfl (by omega) (by decide) rfl ?_
        refine J_iinc (j := 3) (b := j - 1) (lv' := [(2, .int (iI (j - 1))), (1, .int (iI ((i : Int) + 1))), (3, .int (iI (f i))), (0, .ref (ad k))]) d_T_reverse_49 rfl (by omega) (by decide) rfl ?_
        refine J_goto (tgt := 15) d_T_reverse_52 (by decide) ?_
        refine J_pick (lv' := [(0, .ref (ad k)), (1, .int (iI ((i : Int) + 1))), (2, .int (iI (j - 1)))]) [3, 1, 0] rfl ?_
        refine ih (i + 1) (j - 1) (va_up (va_up f i (f j.toNat)) j.toNat (f i)) (by omega) (by omega) ?_ (by omega)
        · intro x hx
          simp only [va_up]
          by_cases e1 : x = j.toNat
          · rw [if_pos e1, hf i (by omega), if_neg (by omega), if_pos (by omega)]
            congr 2; omega
          · rw [if_neg e1]
            by_cases e2 : x = i
            · rw [if_pos e2, hf _ (by omega), if_neg (by omega), if_pos (by omega)]
              congr 2; omega
            · rw [if_neg e2, hf x hx]
              by_cases e3 : x < i ∨ j < x
              · rw [if_pos e3, if_pos (by omega)]
              · rw [if_neg e3, if_neg (by omega)]
  refine J_eqF (F2 := va_up F (k + 1) (.inl (g 1, 200, .inl (aI hh)))) (up_same1 hA) ?_
  exact loop15 ((w.length - 0) + 1) 0 (mn - 1) hh (by omega) (by omega) (fun x hx => by rw [if_neg (by omega)]; exact tt.1 x hx) (Nat.lt_succ_self _)
set_option maxRecDepth 100000 in
set_option maxHeartbeats 4000000 in
theorem c_T_dropZeros {l : Launch} (hfl : l.flags = flags0) {D : va_G} {g : Nat → ClassId} {ad : Nat → Nat} {N : Nat} {F : Nat → va_E} {k : Nat} {w : List Nat} {hh : Nat → Int} {n : Int}
    (hk : k + 1 < N) (hF : F k = oT ad k (w.length : Int)) (hA : F (k + 1) = aT g hh) (tt : tx hh w) (hl : w.length ≤ 200) (hn : inI n) :
    JC l y_T_dropZeros b_T_dropZeros 4 (Option.some Jvm.ClassFile.FieldType.int) rm_T_dropZeros (0, 0) D jCl (jTys g) ad N F [.ref (ad k), .int (iI n)] (ji ad N (fun z F' => z = (tz n.toNat w : Int) ∧ F' = va_up F k (oT ad k ((w.take (w.length - tz n.toNat w)).length : Int)))) := by
  refine JC.go hfl (own := "NumberTower$Text") (lv := [(0, .ref (ad k)), (1, .int (iI n))]) rfl (by decide +kernel) (Nat.le_of_ble_eq_true rfl) rfl (fun A => ?_)
  refine J_iconst d_T_dropZeros_0 ?_
  refine J_istore_n (lv' := [(2, .int (iI 0)), (0, .ref (ad k)), (1, .int (iI n))]) d_T_dropZeros_1 rfl (by decide) rfl ?_
  refine J_iconst d_T_dropZeros_2 ?_
  refine J_istore_n (lv' := [(3, .int (iI 0)), (2, .int (iI 0)), (0, .ref (ad k)), (1, .int (iI n))]) d_T_dropZeros_3 rfl (by decide) rfl ?_
  have lab43 : ∀ (i : Nat) (u : List Nat) (hu : u = w.take (w.length - i)) (hz : tz n.toNat w = i) , J l rm_T_dropZeros (0, 0) "NumberTower$Text" b_T_dropZeros 4 (Option.some Jvm.ClassFile.FieldType.int) D jCl (jTys g) A (fun _ me => me.name = y_T_dropZeros.name) (ji ad N (fun z F' => z = (tz n.toNat w : Int) ∧ F' = va_up F k (oT ad k ((w.take (w.length - tz n.toNat w)).length : Int)))) ad N 0 0 43 [(0, .ref (ad k)), (2, .int (iI (i : Int)))] [] (va_up F k (.inr (7, [.ref (ad (k + 1)), .int (iI (u.length : Int))]))) := by
    intro i u hu hz
    refine J_iload_n 1 d_T_dropZeros_43 rfl rfl ?_
    refine J_iret rfl rfl d_T_dropZeros_44 ⟨by decide, by decide⟩ ?_
    exact ⟨_, rfl, rfl, rfl, by rw [hz], by rw [hz, hu]⟩
  refine J_pick (lv' := [(0, .ref (ad k)), (1, .int (iI n)), (2, .int (iI 0)), (3, .int (iI 0))]) [2, 3, 1, 0] rfl ?_
  have loop4 : ∀ (fuel : Nat) (i : Nat) (u : List Nat) (h1 : i ≤ n.toNat ∧ i ≤ w.length) (hu : u = w.take (w.length - i)) (hz : tz n.toNat w = i + tz (n.toNat - i) u) (hfu : n.toNat - i < fuel), J l rm_T_dropZeros (0, 0) "NumberTower$Text" b_T_dropZeros 4 (Option.some Jvm.ClassFile.FieldType.int) D jCl (jTys g) A (fun _ me => me.name = y_T_dropZeros.name) (ji ad N (fun z F' => z = (tz n.toNat w : Int) ∧ F' = va_up F k (oT ad k ((w.take (w.length - tz n.toNat w)).length : Int)))) ad N 0 0 4 [(0, .ref (ad k)), (1, .int (iI n)), (2, .int (iI (i : Int))), (3, .int (iI (i : Int)))] [] (va_up F k (.inr (7, [.ref (ad (k + 1)), .int (iI (u.length : Int))]))) := by
    intro fuel
    induction fuel with
    | zero => intro i u h1 hu hz hfu; exact absurd hfu (Nat.not_lt_zero _)
    | succ fuel ih =>
      intro i u h1 hu hz hfu
      have ttu : tx hh u := by rw [hu]; exact tx_take tt
      have hul : u.length = w.length - i := by rw [hu, List.length_take]; omega
      refine J_iload_n 3 d_T_dropZeros_4 rfl rfl ?_
      refine J_iload_n 1 d_T_dropZeros_5 rfl rfl ?_
      refine J_if_icmpge (tgt := 43) d_T_dropZeros_6 (by decide) ⟨by omega, by omega⟩ ⟨by omega, by omega⟩ (fun c6 => ?_) (fun c6 => ?_)
      · refine J_pick (lv' := [(0, .ref (ad k)), (2, .int (iI (i : Int)))]) [0, 2] rfl ?_
        exact lab43 i u hu (by
          rw [hz]
          by_cases e : n.toNat ≤ i
          · rw [show n.toNat - i = 0 by omega]; rfl
          · rw [show n.toNat - i = (n.toNat - (i + 1)) + 1 by omega, tz, if_neg (by omega)]; rfl)
      · refine J_aload_n 0 d_T_dropZeros_9 rfl rfl ?_
        refine J_aload_n 0 d_T_dropZeros_10 rfl rfl ?_
        refine gf_T_15 (by omega) (by rw [va_up_self]) rfl d_T_dropZeros_11 ?_
        refine J_iconst d_T_dropZeros_14 ?_
        refine J_isub d_T_dropZeros_15 ?_
        refine J_callVi cw_T_23 nh_T_at pn_T_at rfl rfl (by omega) (by rw [va_up_self]) (As := [.int (iI ((u.length : Int) - 1))]) (rest := []) rfl (Nat.le_of_ble_eq_true rfl) ⟨by decide, by decide⟩ rfl ⟨by decide, by decide⟩ d_T_dropZeros_16 (c_T_at hfl (k := k) (w := u) (hh := hh) (n := (u.length : Int) - 1) (by omega) (by rw [va_up_self]) (by rw [va_up_ne _ _ (by omega)]; exact hA) ttu (by rw [hu, List.length_take]; omega) ⟨by omega, by omega⟩) (fun ta F1 hq => ?_)
        obtain ⟨hta, eF1⟩ := hq
        have htr := tat_rng ttu ((u.length : Int) - 1)
        refine J_eqF eF1 ?_
        refine J_bipush d_T_dropZeros_19 (i8_ok (by decide)) ?_
        refine J_if_icmpne (tgt := 43) d_T_dropZeros_21 (by decide) ⟨by omega, by omega⟩ ⟨by omega, by omega⟩ (fun c21 => ?_) (fun c21 => ?_)
        · refine J_pick (lv' := [(0, .ref (ad k)), (2, .int (iI (i : Int)))]) [0, 2] rfl ?_
          exact lab43 i u hu (by
            rw [hz]
            by_cases e : n.toNat ≤ i
            · rw [show n.toNat - i = 0 by omega]; rfl
            · rw [show n.toNat - i = (n.toNat - (i + 1)) + 1 by omega, tz, if_neg (by omega)]; rfl)
        · refine J_aload_n 0 d_T_dropZeros_24 rfl rfl ?_
          refine J_dup d_T_dropZeros_25 rfl ?_
          refine gf_T_15 (by omega) (by rw [va_up_self]) rfl d_T_dropZeros_26 ?_
          refine J_iconst d_T_dropZeros_29 ?_
          refine J_isub d_T_dropZeros_30 ?_
          refine pf_T_15 (by omega) (by rw [va_up_self]) (Nat.le_of_ble_eq_true rfl) d_T_dropZeros_31 ?_
          refine J_eqF (F2 := va_up F k (.inr (7, [.ref (ad (k + 1)), .int (iI ((u.length : Int) - 1))]))) (up_in0) ?_
          refine J_iinc (j := 2) (b := (i : Int) + 1) (lv' := [(2, .int (iI ((i : Int) + 1))), (0, .ref (ad k)), (1, .int (iI n)), (3, .int (iI (i : Int)))]) d_T_dropZeros_34 rfl (by omega) (by decide) rfl ?_
          refine J_iinc (j := 3) (b := (i : Int) + 1) (lv' := [(3, .int (iI ((i : Int) + 1))), (2, .int (iI ((i : Int) + 1))), (0, .ref (ad k)), (1, .int (iI n))]) d_T_dropZeros_37 rfl (by omega) (by decide) rfl ?_
          refine J_goto (tgt := 4) d_T_dropZeros_40 (by decide) ?_
          refine J_pick (lv' := [(0, .ref (ad k)), (1, .int (iI n)), (2, .int (iI ((i : Int) + 1))), (3, .int (iI ((i : Int) + 1)))]) [2, 3, 1, 0] rfl ?_
          have hu0 : u.length ≠ 0 := by
            intro z0
            rw [tat_out (by omega)] at hta
            omega
          have hw1 : i + 1 ≤ n.toNat ∧ i + 1 ≤ w.length := by omega
          have hw2 : u.dropLast = w.take (w.length - (i + 1)) := by rw [List.dropLast_eq_take, hul, hu, List.take_take]; congr 1; omega
          have hw3 : tz n.toNat w = i + 1 + tz (n.toNat - (i + 1)) u.dropLast := by
            rw [hz, show n.toNat - i = (n.toNat - (i + 1)) + 1 by omega, tz, if_pos (by omega)]; omega
          have hw4 : (u.length : Int) - 1 = (u.dropLast.length : Int) := by rw [List.length_dropLast]; omega
          refine J_eqF (F2 := va_up F k (.inr (7, [.ref (ad (k + 1)), .int (iI (u.dropLast.length : Int))]))) (congrArg (fun qq => va_up F k (.inr (7, [.ref (ad (k + 1)), .int (iI qq)]))) hw4) ?_
          exact ih (i + 1) u.dropLast hw1 hw2 hw3 (by omega)
  refine J_eqF (F2 := va_up F k (.inr (7, [.ref (ad (k + 1)), .int (iI (w.length : Int))]))) (up_same1 hF) ?_
  exact loop4 ((n.toNat - 0) + 1) 0 w (by omega) (by rw [Nat.sub_zero, List.take_length]) (by rw [Nat.zero_add, Nat.sub_zero]) (Nat.lt_succ_self _)
