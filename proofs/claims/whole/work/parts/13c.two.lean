/-! reading numbers -/
theorem dgr10 {c : Int} : (0 ≤ dgr c 10 → dgr c 10 = c - 48 ∧ 48 ≤ c ∧ c ≤ 57) ∧ (¬ 0 ≤ dgr c 10 → ¬(48 ≤ c ∧ c ≤ 57)) := by
  unfold dgr dgc
  refine ⟨fun h => ?_, fun h => ?_⟩ <;> revert h <;> split <;> split <;> (try split) <;> (try split) <;> omega
/-- up to some digits from a place on, behind t -/
def ten3 (w : List Nat) : Nat → Nat → Nat → Nat × Nat
  | 0, q, t => (q, t)
  | f + 1, q, t => if 0 ≤ dgr (chr w q) 10 then ten3 w f (q + 1) (10 * t + (dgr (chr w q) 10).toNat) else (q, t)
theorem ten3_d {w : List Nat} {f q t : Nat} (h : 0 ≤ dgr (chr w q) 10) : ten3 w (f + 1) q t = ten3 w f (q + 1) (10 * t + (dgr (chr w q) 10).toNat) := by
  show (if _ then _ else _) = _
  rw [if_pos h]
theorem ten3_e {w : List Nat} {f q t : Nat} (h : ¬ 0 ≤ dgr (chr w q) 10) : ten3 w f q t = (q, t) := by
  cases f with
  | zero => rfl
  | succ f =>
    show (if _ then _ else _) = _
    rw [if_neg h]
def psg (w : List Nat) : Nat := if chr w 0 = 45 ∨ chr w 0 = 43 then 1 else 0
def pbs (w : List Nat) (a : Nat) : Nat := if chr w a = 48 then (if chr w (a + 1) = 120 then 16 else if chr w (a + 1) = 98 then 2 else 10) else 10
def psq (w : List Nat) (q : Nat) : Nat := if chr w q = 45 ∨ chr w q = 43 then q + 1 else q
/-- what was read: kind, upper and lower part, tens -/
abbrev Pr := Option (Int × Nat × Nat × Int)
def prE (w : List Nat) (n v q : Nat) : Pr :=
  if (ten3 w 3 (psq w q) 0).1 = psq w q then none else if (ten3 w 3 (psq w q) 0).1 = w.length then some (2, v, 1, (if chr w q = 45 then -((ten3 w 3 (psq w q) 0).2 : Int) else ((ten3 w 3 (psq w q) 0).2 : Int)) - n) else none
def prR (w : List Nat) (n : Nat) (y : Nat × Nat × Nat) : Pr :=
  if n = 0 ∧ y.2.1 = 0 then none else if chr w y.1 = 101 ∨ chr w y.1 = 69 then prE w y.2.1 y.2.2 (y.1 + 1) else if y.1 = w.length then some (2, y.2.2, 1, 0 - (y.2.1 : Int)) else none
def prQ (w : List Nat) (u : Nat) (y : Nat × Nat × Nat) : Pr := if 0 < y.2.1 ∧ y.1 = w.length then some (1, u, y.2.2, 0) else none
def prP (w : List Nat) (x : Nat × Nat × Nat) : Pr := if chr w x.1 = 46 then prR w x.2.1 (mdg w 10 41 (x.1 + 1) 0 x.2.2) else prR w x.2.1 (x.1, 0, x.2.2)
def prD (w : List Nat) (x : Nat × Nat × Nat) : Pr :=
  if 0 < x.2.1 ∧ x.1 = w.length then some (0, x.2.2, 1, 0)
  else if 0 < x.2.1 ∧ chr w x.1 = 47 then prQ w x.2.2 (mdg w 10 41 (x.1 + 1) 0 0) else prP w x
def prB (w : List Nat) (x : Nat × Nat × Nat) : Pr := if 0 < x.2.1 ∧ x.1 = w.length then some (0, x.2.2, 1, 0) else none
def prs (w : List Nat) : Pr :=
  if pbs w (psg w) = 10 then prD w (mdg w 10 41 (psg w) 0 0) else prB w (mdg w (pbs w (psg w)) 41 (psg w + 2) 0 0)
def clm (t : Int) : Int := if 70 < t then 70 else if t < -110 then -110 else t
def prsOut (o : Pr) (z : Int) (U D : Nat) : Prop := (o = none ∧ z = -1) ∨ ∃ (k : Int) (u d : Nat) (t : Int), o = some (k, u, d, t) ∧ z = k ∧ (0 ≤ k ∧ k ≤ 2) ∧ U = u * 10 ^ (clm t).toNat ∧ D = d * 10 ^ (-clm t).toNat ∧ u < 16 ^ 40 ∧ d < 16 ^ 40 ∧ (k ≠ 2 → t = 0) ∧ (k ≠ 1 → d = 1)
theorem prsOut_1 {o : Pr} {k : Int} {u d : Nat} (h : o = some (k, u, d, 0)) (hk : 0 ≤ k ∧ k ≤ 2) {p q : Nat} (hu : u < 16 ^ p) (hd : d < 16 ^ q) (hp : p ≤ 40) (hq : q ≤ 40) (h1 : k ≠ 1 → d = 1) : prsOut o k u d :=
  Or.inr ⟨k, u, d, 0, h, rfl, hk, (Nat.mul_one _).symm, (Nat.mul_one _).symm, Nat.lt_of_lt_of_le hu (Nat.pow_le_pow_right (by decide) hp), Nat.lt_of_lt_of_le hd (Nat.pow_le_pow_right (by decide) hq), fun _ => rfl, h1⟩
theorem t70 {u : Nat} {t : Int} {p : Nat} (h : u < 16 ^ p) (hp : p ≤ 40) (ht : t ≤ 70) : lnw 28 (u * 10 ^ t.toNat) ≤ 26 := by
  refine (lnw_le (by decide)).mpr ?_
  have h1 : u < 16 ^ 40 := Nat.lt_of_lt_of_le h (Nat.pow_le_pow_right (by decide) hp)
  have h2 : (10 : Nat) ^ t.toNat ≤ 10 ^ 70 := Nat.pow_le_pow_right (by decide) (by omega)
  exact Nat.lt_of_lt_of_le (Nat.mul_lt_mul_of_lt_of_le h1 h2 (Nat.pow_pos (by decide))) (by decide +kernel)
theorem t110 {t : Int} (ht : -110 ≤ t) : lnw 28 (1 * 10 ^ (-t).toNat) ≤ 26 := by
  refine (lnw_le (by decide)).mpr ?_
  have h2 : (10 : Nat) ^ (-t).toNat ≤ 10 ^ 110 := Nat.pow_le_pow_right (by decide) (by omega)
  rw [Nat.one_mul]
  exact Nat.lt_of_le_of_lt h2 (by decide +kernel)
/-- the two digits of a number from a place on; none: the second is the value so far -/
def two2 (w : List Nat) : Nat → Nat → Int → Int × Nat
  | 0, p, v => (v, p)
  | f + 1, p, v => if 0 ≤ dgr (chr w p) 10 then two2 w f (p + 1) ((if v < 0 then 0 else 10 * v) + (chr w p : Int) - 48) else (v, p)
theorem two2_d {w : List Nat} {f p : Nat} {v : Int} (h : 0 ≤ dgr (chr w p) 10) : two2 w (f + 1) p v = two2 w f (p + 1) ((if v < 0 then 0 else 10 * v) + (chr w p : Int) - 48) := by
  show (if _ then _ else _) = _
  rw [if_pos h]
theorem two2_e {w : List Nat} {f p : Nat} {v : Int} (h : ¬ 0 ≤ dgr (chr w p) 10) : two2 w f p v = (v, p) := by
  cases f with
  | zero => rfl
  | succ f =>
    show (if _ then _ else _) = _
    rw [if_neg h]
/-- a character taken: where it goes on -/
def tk (w : List Nat) (p c : Nat) : Nat := if chr w p = c then p + 1 else p
theorem tk_y {w : List Nat} {p c : Nat} (h : chr w p = c) : tk w p c = p + 1 := if_pos h
theorem tk_n {w : List Nat} {p c : Nat} (h : ¬ chr w p = c) : tk w p c = p := if_neg h
set_option maxRecDepth 100000 in
set_option maxHeartbeats 4000000 in
theorem c_M_takes2 {l : Launch} (hfl : l.flags = flags0) {D : va_G} {g : Nat → ClassId} {ad : Nat → Nat} {N : Nat} {F : Nat → va_E} {f : Nat → Int} {v : UInt64} {lh : Nat → Int} {ln : List Nat} {p c : Nat}
    (hN : 109 ≤ N) (hO : F 98 = oM ad f v) (h104 : F 104 = .inl (g 0, 40, .inl (aI lh))) (hml : mtx lh ln) (hf12 : f 12 = (ln.length : Int)) (hl40 : ln.length ≤ 40) (hch : ∀ c, c ∈ ln → 32 ≤ c ∧ c ≤ 126) (hf19 : f 19 = (p : Int)) (hp : p < 999) (hc : c < 200) :
    JC l y_M_takes2 b_M_takes2 2 (Option.some Jvm.ClassFile.FieldType.boolean) rm_M_takes2 (0, 0) D jCl (jTys g) ad N F [.ref (ad 98), .int (iI (c : Int))] (ji ad N (fun z F' => ((z = 1 ∧ chr ln p = c) ∨ (z = 0 ∧ chr ln p ≠ c)) ∧ F' = va_up F 98 (oM ad (va_up f 19 ((tk ln p c : Nat) : Int)) v))) := by
  refine JC.go hfl (own := "NumberTowerModel") (lv := [(0, .ref (ad 98)), (1, .int (iI (c : Int)))]) rfl (by decide +kernel) (Nat.le_of_ble_eq_true rfl) rfl (fun A => ?_)
  refine J_aload_n 0 d_M_takes2_0 rfl rfl ?_
  refine J_aload_n 0 d_M_takes2_1 rfl rfl ?_
  refine gf_M_244 (by omega) hO rfl d_M_takes2_2 ?_
  refine J_topi (r := (p : Int)) (congrArg iI hf19) ?_
  refine J_callVi cw_M_247 nh_M_here pn_M_here rfl rfl (by omega) hO (As := [.int (iI (p : Int))]) (rest := []) rfl (Nat.le_of_ble_eq_true rfl) ⟨by decide, by decide⟩ rfl ⟨by decide, by decide⟩ d_M_takes2_5 (c_M_here hfl (f := f) (v := v) (lh := lh) (ln := ln) (k := p) hN hO h104 hml (hf12) hl40 hch (by omega)) (fun z1 F1 hq => ?_)
  obtain ⟨hz1, eF1⟩ := hq
  refine J_eqF eF1 ?_
  refine J_topi (r := (((chr ln p : Nat)) : Int)) (congrArg iI hz1) ?_
  have hcb := chr_b hch p
  refine J_iload_n 1 d_M_takes2_8 rfl rfl ?_
  refine J_if_icmpeq (tgt := 14) d_M_takes2_9 (by decide) ⟨by omega, by omega⟩ ⟨by omega, by omega⟩ (fun c9 => ?_) (fun c9 => ?_)
  · refine J_aload_n 0 d_M_takes2_14 rfl rfl ?_
    refine J_dup d_M_takes2_15 rfl ?_
    refine gf_M_244 (by omega) hO rfl d_M_takes2_16 ?_
    refine J_topi (r := (p : Int)) (congrArg iI hf19) ?_
    refine J_iconst d_M_takes2_19 ?_
    refine J_iadd d_M_takes2_20 ?_
    refine pm_M_244 (by omega) hO d_M_takes2_21 ?_
    refine J_iconst d_M_takes2_24 ?_
    refine J_iret rfl (nb01 (by omega)).1 d_M_takes2_25 ⟨by decide, by decide⟩ ?_
    exact ⟨_, rfl, rfl, rfl, Or.inl ⟨rfl, by omega⟩, by rw [tk_y (by omega)]; rfl⟩
  · refine J_iconst d_M_takes2_12 ?_
    refine J_iret rfl (nb01 (by omega)).1 d_M_takes2_13 ⟨by decide, by decide⟩ ?_
    refine ⟨_, rfl, rfl, rfl, Or.inr ⟨rfl, by omega⟩, ?_⟩
    rw [tk_n (by omega)]
    have e1 : va_up f 19 (p : Int) = f := (up_same1 hf19).symm
    rw [e1]
    exact up_same1 hO
set_option maxRecDepth 100000 in
set_option maxHeartbeats 4000000 in
theorem c_M_two {l : Launch} (hfl : l.flags = flags0) {D : va_G} {g : Nat → ClassId} {ad : Nat → Nat} {N : Nat} {F : Nat → va_E} {f : Nat → Int} {v : UInt64} {lh : Nat → Int} {ln : List Nat} {p0 pe : Nat} {ve : Int}
    (hN : 109 ≤ N) (hO : F 98 = oM ad f v) (h104 : F 104 = .inl (g 0, 40, .inl (aI lh))) (hml : mtx lh ln) (hf12 : f 12 = (ln.length : Int)) (hl40 : ln.length ≤ 40) (hch : ∀ c, c ∈ ln → 32 ≤ c ∧ c ≤ 126) (hf19 : f 19 = (p0 : Int)) (hp : p0 < 900) (hres : two2 ln 2 p0 (-1) = (ve, pe)) :
    JC l y_M_two b_M_two 3 (Option.some Jvm.ClassFile.FieldType.int) rm_M_two (0, 0) D jCl (jTys g) ad N F [.ref (ad 98)] (ji ad N (fun z F' => z = ve ∧ (-1 ≤ ve ∧ ve < 100) ∧ pe ≤ p0 + 2 ∧ F' = va_up F 98 (oM ad (va_up f 19 (pe : Int)) v))) := by
  refine JC.go hfl (own := "NumberTowerModel") (lv := [(0, .ref (ad 98))]) rfl (by decide +kernel) (Nat.le_of_ble_eq_true rfl) rfl (fun A => ?_)
  refine J_iconst d_M_two_0 ?_
  refine J_istore_n (lv' := [(1, .int (iI (-1))), (0, .ref (ad 98))]) d_M_two_1 rfl (by decide) rfl ?_
  refine J_iconst d_M_two_2 ?_
  refine J_istore_n (lv' := [(2, .int (iI 0)), (1, .int (iI (-1))), (0, .ref (ad 98))]) d_M_two_3 rfl (by decide) rfl ?_
  refine J_pick (lv' := [(0, .ref (ad 98)), (1, .int (iI (-1))), (2, .int (iI 0))]) [2, 1, 0] rfl ?_
  refine J_eqF (F2 := va_up F 98 (oM ad f v)) (up_same1 hO) ?_
  refine J_eqF (F2 := va_up F 98 (oM ad (va_up f 19 (p0 : Int)) v)) (congrArg (fun qq : Nat → Int => va_up F 98 (oM ad qq v)) (up_same1 (i := 19) (a := (p0 : Int)) (hf19))) ?_
  have loop4 : ∀ (fuel : Nat) (p : Nat) (vv : Int) (i : Nat) (hi : i ≤ 2) (hpi : p = p0 + i) (hvr : hold ((i = 0 ∧ vv = -1) ∨ (i = 1 ∧ 0 ≤ vv ∧ vv < 10) ∨ (i = 2 ∧ 0 ≤ vv ∧ vv < 100))) (hv1 : -1 ≤ vv ∧ vv < 100) (htw : two2 ln (2 - i) p vv = (ve, pe)) (hfu : 2 - i < fuel), J l rm_M_two (0, 0) "NumberTowerModel" b_M_two 3 (Option.some Jvm.ClassFile.FieldType.int) D jCl (jTys g) A (fun _ me => me.name = y_M_two.name) (ji ad N (fun z F' => z = ve ∧ (-1 ≤ ve ∧ ve < 100) ∧ pe ≤ p0 + 2 ∧ F' = va_up F 98 (oM ad (va_up f 19 (pe : Int)) v))) ad N 0 0 4 [(0, .ref (ad 98)), (1, .int (iI vv)), (2, .int (iI (i : Int)))] [] (va_up F 98 (oM ad (va_up f 19 (p : Int)) v)) := by
    intro fuel
    induction fuel with
    | zero => intro p vv i hi hpi hvr hv1 htw hfu; exact absurd hfu (Nat.not_lt_zero _)
    | succ fuel ih =>
      intro p vv i hi hpi hvr hv1 htw hfu
      have hcb := chr_b hch p
      refine J_iload_n 2 d_M_two_4 rfl rfl ?_
      refine J_iconst d_M_two_5 ?_
      refine J_if_icmpge (tgt := 66) d_M_two_6 (by decide) ⟨by omega, by omega⟩ ⟨by omega, by omega⟩ (fun c6 => ?_) (fun c6 => ?_)
      · refine J_iload_n 1 d_M_two_66 rfl rfl ?_
        refine J_iret rfl rfl d_M_two_67 ⟨by decide, by decide⟩ ?_
        have h8 := htw
        rw [show 2 - i = 0 by omega] at h8
        injection h8 with h9 h10
        subst h9 h10
        exact ⟨_, rfl, rfl, rfl, rfl, hv1, by omega, rfl⟩
      · refine J_aload_n 0 d_M_two_9 rfl rfl ?_
        refine J_aload_n 0 d_M_two_10 rfl rfl ?_
        refine gf_M_244 (by omega) (by rw [va_up_self]) rfl d_M_two_11 ?_
        refine J_topi (r := (p : Int)) (congrArg iI (va_up_self ..)) ?_
        refine J_callVi cw_M_247 nh_M_here pn_M_here rfl rfl (by omega) (by rw [va_up_self]) (As := [.int (iI (p : Int))]) (rest := []) rfl (Nat.le_of_ble_eq_true rfl) ⟨by decide, by decide⟩ rfl ⟨by decide, by decide⟩ d_M_two_14 (c_M_here hfl (f := va_up f 19 (p : Int)) (v := v) (lh := lh) (ln := ln) (k := p) hN (by rw [va_up_self]) (by rw [va_up_ne _ _ (by decide)]; exact h104) hml ((va_up_ne _ _ (by decide)).trans hf12) hl40 hch (by omega)) (fun z2 F1 hq => ?_)
        obtain ⟨hz2, eF1⟩ := hq
        refine J_eqF eF1 ?_
        refine J_topi (r := (((chr ln p : Nat)) : Int)) (congrArg iI hz2) ?_
        refine J_bipush d_M_two_17 (i8_ok (by decide)) ?_
        have hcbz3 := chr_b hch (p)
        refine J_callSi cw_M_253 nh_M_digitOf pn_M_digitOf rfl (As := [.int (iI (((chr ln p : Nat)) : Int)), .int (iI 10)]) (rest := []) rfl (Nat.le_of_ble_eq_true rfl) ⟨by decide, by decide⟩ rfl ⟨by decide, by decide⟩ d_M_two_19 (c_M_digitOf hfl (c := (((chr ln p : Nat)) : Int)) (r := 10) ⟨by omega, by omega⟩ (by omega)) (fun z3 F2 hq => ?_)
        obtain ⟨hz3, eF2⟩ := hq
        refine J_eqF eF2 ?_
        have hdbz3 := dgr_b (c := (((chr ln p : Nat)) : Int)) (r := 10)
        refine J_topi (r := dgr (((chr ln p : Nat)) : Int) 10) (congrArg iI hz3) ?_
        refine J_iflt (tgt := 66) d_M_two_22 (by decide) ⟨by omega, by omega⟩ (fun c22 => ?_) (fun c22 => ?_)
        · refine J_iload_n 1 d_M_two_66 rfl rfl ?_
          refine J_iret rfl rfl d_M_two_67 ⟨by decide, by decide⟩ ?_
          have h8 := htw
          rw [two2_e (by omega)] at h8
          injection h8 with h9 h10
          subst h9 h10
          exact ⟨_, rfl, rfl, rfl, rfl, hv1, by omega, rfl⟩
        · have hdd := (dgr10 (c := (chr ln p : Int))).1 (by omega)
          refine J_iload_n 1 d_M_two_25 rfl rfl ?_
          refine J_ifge (tgt := 33) d_M_two_26 (by decide) ⟨by omega, by omega⟩ (fun c26 => ?_) (fun c26 => ?_)
          · refine J_bipush d_M_two_33 (i8_ok (by decide)) ?_
            refine J_iload_n 1 d_M_two_35 rfl rfl ?_
            refine J_imul d_M_two_36 ?_
            refine J_aload_n 0 d_M_two_37 rfl rfl ?_
            refine J_aload_n 0 d_M_two_38 rfl rfl ?_
            refine gf_M_244 (by omega) (by rw [va_up_self]) rfl d_M_two_39 ?_
            refine J_topi (r := (p : Int)) (congrArg iI (va_up_self ..)) ?_
            refine J_callVi cw_M_247 nh_M_here pn_M_here rfl rfl (by omega) (by rw [va_up_self]) (As := [.int (iI (p : Int))]) (rest := [.int (iI (10 * vv))]) rfl (Nat.le_of_ble_eq_true rfl) ⟨by decide, by decide⟩ rfl ⟨by decide, by decide⟩ d_M_two_42 (c_M_here hfl (f := va_up f 19 (p : Int)) (v := v) (lh := lh) (ln := ln) (k := p) hN (by rw [va_up_self]) (by rw [va_up_ne _ _ (by decide)]; exact h104) hml ((va_up_ne _ _ (by decide)).trans hf12) hl40 hch (by omega)) (fun z4 F3 hq => ?_)
            obtain ⟨hz4, eF3⟩ := hq
            refine J_eqF eF3 ?_
            refine J_topi (r := (((chr ln p : Nat)) : Int)) (congrArg iI hz4) ?_
            refine J_iadd d_M_two_45 ?_
            refine J_bipush d_M_two_46 (i8_ok (by decide)) ?_
            refine J_isub d_M_two_48 ?_
            refine J_topi (r := (10 * vv) + (((chr ln p : Nat)) : Int) - 48) (congrArg iI (by omega)) ?_
            refine J_istore_n (lv' := [(1, .int (iI ((10 * vv) + (((chr ln p : Nat)) : Int) - 48))), (0, .ref (ad 98)), (2, .int (iI (i : Int)))]) d_M_two_49 rfl (by decide) rfl ?_
            refine J_aload_n 1 d_M_two_50 rfl rfl ?_
            refine J_dup d_M_two_51 rfl ?_
            refine gf_M_244 (by omega) (by rw [va_up_self]) rfl d_M_two_52 ?_
            refine J_topi (r := (p : Int)) (congrArg iI (va_up_self ..)) ?_
            refine J_iconst d_M_two_55 ?_
            refine J_iadd d_M_two_56 ?_
            refine pm_M_244 (by omega) (by rw [va_up_self]) d_M_two_57 ?_
            refine J_eqF (F2 := va_up (va_up F 98 (oM ad (va_up f 19 (p : Int)) v)) 98 (oM ad (va_up f 19 ((p : Int) + 1)) v)) (congrArg (fun qq : Nat → Int => va_up (va_up F 98 (oM ad (va_up f 19 (p : Int)) v)) 98 (oM ad qq v)) (up_in0)) ?_
            refine J_eqF (F2 := va_up F 98 (oM ad (va_up f 19 ((p : Int) + 1)) v)) (up_in0) ?_
            refine J_iinc (j := 2) (b := (i : Int) + 1) (lv' := [(2, .int (iI ((i : Int) + 1))), (1, .int (iI ((10 * vv) + (((chr ln p : Nat)) : Int) - 48))), (0, .ref (ad 98))]) d_M_two_60 rfl (by omega) (by decide) rfl ?_
            refine J_goto (tgt := 4) d_M_two_63 (by decide) ?_
            refine J_pick (lv' := [(0, .ref (ad 98)), (1, .int (iI ((10 * vv) + (((chr ln p : Nat)) : Int) - 48))), (2, .int (iI ((i : Int) + 1)))]) [2, 1, 0] rfl ?_
            refine ih (p + 1) ((10 * vv) + (((chr ln p : Nat)) : Int) - 48) (i + 1) (by omega) (by omega) ?_ ?_ ?_ (by omega)
            · rcases hvr with w | w | w
              · exact Or.inr (Or.inl ⟨by omega, by omega, by omega⟩)
              · exact Or.inr (Or.inr ⟨by omega, by omega, by omega⟩)
              · omega
            · rcases hvr with w | w | w <;> omega
            · have h8 := htw
              rw [show 2 - i = 2 - (i + 1) + 1 by omega, two2_d (by omega)] at h8
              rw [← h8]
              congr 1
              split <;> omega
          · refine J_iconst d_M_two_29 ?_
            refine J_goto (tgt := 37) d_M_two_30 (by decide) ?_
            refine J_aload_n 0 d_M_two_37 rfl rfl ?_
            refine J_aload_n 0 d_M_two_38 rfl rfl ?_
            refine gf_M_244 (by omega) (by rw [va_up_self]) rfl d_M_two_39 ?_
            refine J_topi (r := (p : Int)) (congrArg iI (va_up_self ..)) ?_
            refine J_callVi cw_M_247 nh_M_here pn_M_here rfl rfl (by omega) (by rw [va_up_self]) (As := [.int (iI (p : Int))]) (rest := [.int (iI 0)]) rfl (Nat.le_of_ble_eq_true rfl) ⟨by decide, by decide⟩ rfl ⟨by decide, by decide⟩ d_M_two_42 (c_M_here hfl (f := va_up f 19 (p : Int)) (v := v) (lh := lh) (ln := ln) (k := p) hN (by rw [va_up_self]) (by rw [va_up_ne _ _ (by decide)]; exact h104) hml ((va_up_ne _ _ (by decide)).trans hf12) hl40 hch (by omega)) (fun z5 F4 hq => ?_)
            obtain ⟨hz5, eF4⟩ := hq
            refine J_eqF eF4 ?_
            refine J_topi (r := (((chr ln p : Nat)) : Int)) (congrArg iI hz5) ?_
            refine J_iadd d_M_two_45 ?_
            refine J_bipush d_M_two_46 (i8_ok (by decide)) ?_
            refine J_isub d_M_two_48 ?_
            refine J_istore_n (lv' := [(1, .int (iI ((0 + (((chr ln p : Nat)) : Int)) - 48))), (0, .ref (ad 98)), (2, .int (iI (i : Int)))]) d_M_two_49 rfl (by decide) rfl ?_
            refine J_aload_n 1 d_M_two_50 rfl rfl ?_
            refine J_dup d_M_two_51 rfl ?_
            refine gf_M_244 (by omega) (by rw [va_up_self]) rfl d_M_two_52 ?_
            refine J_topi (r := (p : Int)) (congrArg iI (va_up_self ..)) ?_
            refine J_iconst d_M_two_55 ?_
            refine J_iadd d_M_two_56 ?_
            refine pm_M_244 (by omega) (by rw [va_up_self]) d_M_two_57 ?_
            refine J_eqF (F2 := va_up (va_up F 98 (oM ad (va_up f 19 (p : Int)) v)) 98 (oM ad (va_up f 19 ((p : Int) + 1)) v)) (congrArg (fun qq : Nat → Int => va_up (va_up F 98 (oM ad (va_up f 19 (p : Int)) v)) 98 (oM ad qq v)) (up_in0)) ?_
            refine J_eqF (F2 := va_up F 98 (oM ad (va_up f 19 ((p : Int) + 1)) v)) (up_in0) ?_
            refine J_iinc (j := 2) (b := (i : Int) + 1) (lv' := [(2, .int (iI ((i : Int) + 1))), (1, .int (iI ((0 + (((chr ln p : Nat)) : Int)) - 48))), (0, .ref (ad 98))]) d_M_two_60 rfl (by omega) (by decide) rfl ?_
            refine J_goto (tgt := 4) d_M_two_63 (by decide) ?_
            refine J_pick (lv' := [(0, .ref (ad 98)), (1, .int (iI ((0 + (((chr ln p : Nat)) : Int)) - 48))), (2, .int (iI ((i : Int) + 1)))]) [2, 1, 0] rfl ?_
            refine ih (p + 1) ((0 + (((chr ln p : Nat)) : Int)) - 48) (i + 1) (by omega) (by omega) ?_ ?_ ?_ (by omega)
            · rcases hvr with w | w | w
              · exact Or.inr (Or.inl ⟨by omega, by omega, by omega⟩)
              · exact Or.inr (Or.inr ⟨by omega, by omega, by omega⟩)
              · omega
            · rcases hvr with w | w | w <;> omega
            · have h8 := htw
              rw [show 2 - i = 2 - (i + 1) + 1 by omega, two2_d (by omega)] at h8
              rw [← h8]
              congr 1
              split <;> omega
  exact loop4 ((2 - 0) + 1) p0 (-1) 0 (by decide) rfl (Or.inl ⟨rfl, rfl⟩) (by decide) hres (Nat.lt_succ_self _)
