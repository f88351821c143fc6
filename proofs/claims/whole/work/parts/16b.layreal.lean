/-! the class writes: reals -/

/-- a real's text out of its digits -/
def layG (dg : List Nat) (e : Int) : List Nat :=
  if -4 ≤ e ∧ e ≤ 15 then (if e < 0 then [48, 46] ++ List.replicate (-e - 1).toNat 48 ++ dg
    else ((dg ++ List.replicate (e + 2 - (dg.length : Int)).toNat 48).take (e.toNat + 1)) ++ [46] ++ ((dg ++ List.replicate (e + 2 - (dg.length : Int)).toNat 48).drop (e.toNat + 1)))
  else [dg.getD 0 0] ++ (if 1 < dg.length then [46] ++ dg.drop 1 else []) ++ expT e 101
/-- the digits of a number without the zeros at its end -/
def dgR (H : Nat) : List Nat := sgr (dgv 10 H) 0 3 0 (lz10 H) (ndg 10 H - lz10 H)
def seqD (c : Int → Nat) : Nat → Int → List Nat
  | 0, _ => []
  | n + 1, p => c p :: seqD c n (p - 1)
theorem seqD_l {c : Int → Nat} : ∀ n p, (seqD c n p).length = n := by
  intro n
  induction n with
  | zero => intro p; rfl
  | succ n ih => intro p; show (_ :: seqD c n (p - 1)).length = _; rw [List.length_cons, ih]
theorem seqD_app {c : Int → Nat} {m : Nat} : ∀ n p, seqD c (n + m) p = seqD c n p ++ seqD c m (p - n) := by
  intro n
  induction n with
  | zero => intro p; rw [Nat.zero_add, show p - ((0 : Nat) : Int) = p by omega]; rfl
  | succ n ih =>
    intro p
    rw [show n + 1 + m = n + m + 1 by omega]
    show c p :: seqD c (n + m) (p - 1) = c p :: seqD c n (p - 1) ++ _
    rw [ih, show p - 1 - (n : Int) = p - ((n + 1 : Nat) : Int) by omega]; rfl
theorem layP_neg {c : Int → Nat} : ∀ n p, p < 0 → layP c n p = seqD c n p := by
  intro n
  induction n with
  | zero => intro p hp; rfl
  | succ n ih => intro p hp; rw [layP_1 (by omega), ih _ (by omega)]; rfl
theorem layP_pos {c : Int → Nat} {m : Nat} : ∀ k : Nat, layP c (k + 1 + m) (k : Int) = seqD c (k + 1) (k : Int) ++ [46] ++ seqD c m (-1) := by
  intro k
  induction k with
  | zero =>
    rw [show 0 + 1 + m = m + 1 by omega, layP_0 (by rfl), layP_neg _ _ (by decide)]; rfl
  | succ k ih =>
    rw [show k + 1 + 1 + m = k + 1 + m + 1 by omega, layP_1 (by omega), show ((k + 1 : Nat) : Int) - 1 = (k : Int) by omega, ih]
    show _ = (c _ :: seqD c (k + 1) (((k + 1 : Nat) : Int) - 1)) ++ [46] ++ _
    rw [show ((k + 1 : Nat) : Int) - 1 = (k : Int) by omega]; rfl
theorem sgr_seq {c : Int → Nat} {dv : Nat → Nat} {cap : Int} {grp to : Nat} : ∀ n p, (∀ j : Nat, j < n → c (p - j) = chd cap (dv (to + n - 1 - j))) → sgr dv cap grp 0 to n = seqD c n p := by
  intro n
  induction n with
  | zero => intro p h; rfl
  | succ n ih =>
    intro p h
    rw [sgr_n (by omega), ih (p - 1) (fun j hj => by
      have h1 := h (j + 1) (by omega)
      rw [show p - ((j + 1 : Nat) : Int) = p - 1 - (j : Int) by omega, show to + (n + 1) - 1 - (j + 1) = to + n - 1 - j by omega] at h1
      exact h1)]
    have h0 := h 0 (by omega)
    rw [show p - ((0 : Nat) : Int) = p by omega, show to + (n + 1) - 1 - 0 = to + n by omega] at h0
    rw [← h0]; rfl
theorem rep_seq {c : Int → Nat} {x : Nat} : ∀ n p, (∀ j : Nat, j < n → c (p - j) = x) → List.replicate n x = seqD c n p := by
  intro n
  induction n with
  | zero => intro p h; rfl
  | succ n ih =>
    intro p h
    have h0 := h 0 (by omega)
    rw [show p - ((0 : Nat) : Int) = p by omega] at h0
    rw [List.replicate_succ, ih (p - 1) (fun j hj => by
      have h1 := h (j + 1) (by omega)
      rw [show p - ((j + 1 : Nat) : Int) = p - 1 - (j : Int) by omega] at h1
      exact h1)]
    show x :: _ = c p :: _
    rw [h0]
theorem lzF_p : ∀ f H, H ≤ f → 0 < H → dgv 10 H (lzF f H) ≠ 0 ∧ ∀ k, k < lzF f H → dgv 10 H k = 0 := by
  intro f
  induction f with
  | zero => intro H h1 h2; omega
  | succ f ih =>
    intro H h1 h2
    by_cases h : H % 10 = 0
    · have e : lzF (f + 1) H = lzF f (H / 10) + 1 := if_pos h
      rw [e]
      obtain ⟨a, b⟩ := ih (H / 10) (by omega) (by omega)
      refine ⟨by rw [dgv_s]; exact a, fun k hk => ?_⟩
      cases k with
      | zero => rw [dgv_z]; exact h
      | succ k => rw [dgv_s]; exact b k (by omega)
    · have e : lzF (f + 1) H = 0 := if_neg h
      rw [e]
      exact ⟨by rw [dgv_z]; exact h, fun k hk => absurd hk (Nat.not_lt_zero _)⟩
theorem dgv_hi {b v k : Nat} (hb : 2 ≤ b) (h : ndg b v ≤ k) : dgv b v k = 0 := by
  unfold dgv
  rw [Nat.div_eq_of_lt ((ndg_le hb).mp h), Nat.zero_mod]
theorem lz_lt {H : Nat} (h : 0 < H) : lz10 H < ndg 10 H := by
  apply Nat.lt_of_not_le
  intro w
  exact (lzF_p H H (Nat.le_refl _) h).1 (dgv_hi (by decide) w)
theorem dgR_l (H : Nat) : (dgR H).length = ndg 10 H - lz10 H := sgr_1 _
theorem dgR_seq {H : Nat} {e : Int} (h : 0 < H) : dgR H = seqD (layC H e) (ndg 10 H - lz10 H) e := by
  have h1 := lz_lt h
  refine sgr_seq _ _ (fun j hj => ?_)
  unfold layC
  rw [if_pos ⟨by omega, by omega⟩, chd_d, show ((ndg 10 H : Int) - 1 - (e - (e - (j : Int)))).toNat = lz10 H + (ndg 10 H - lz10 H) - 1 - j by omega]
theorem layC_48 {H : Nat} {e p : Int} (h : e < p ∨ p ≤ e - ((ndg 10 H : Int) - (lz10 H : Int))) : layC H e p = 48 := by
  unfold layC
  rw [if_neg (fun w => by have := w.1; have := w.2; omega)]
theorem layG_real {H : Nat} {e : Int} (h : 0 < H) : layG (dgR H) e = realT H e := by
  have h1 := lz_lt h
  have hl := dgR_l H
  unfold layG realT
  by_cases c : -4 ≤ e ∧ e ≤ 15
  · rw [if_pos c, if_pos c]
    obtain ⟨m, hm⟩ : ∃ m, m = ndg 10 H - lz10 H := ⟨_, rfl⟩
    have hm2 : (ndg 10 H : Int) - (lz10 H : Int) = (m : Int) := by omega
    have hs := dgR_seq (e := e) h
    have hz : ∀ p : Int, e < p ∨ p ≤ e - (m : Int) → layC H e p = 48 := fun p hp => layC_48 (by rw [hm2]; exact hp)
    rw [← hm] at hs hl
    by_cases c2 : e < 0
    · rw [if_pos c2]
      unfold layF
      have e1 : (if 0 < e then e else 0) = ((0 : Nat) : Int) := by rw [if_neg (by omega)]; rfl
      have e2 : (if e - ((ndg 10 H : Int) - (lz10 H : Int)) + 1 < -1 then e - ((ndg 10 H : Int) - (lz10 H : Int)) + 1 else -1) = e - (m : Int) + 1 := by
        rw [hm2]; split <;> omega
      rw [e1, e2, show (((0 : Nat) : Int) - (e - (m : Int) + 1) + 1).toNat = 0 + 1 + ((-e - 1).toNat + m) by omega, layP_pos, seqD_app (c := layC H e) (m := m) (-e - 1).toNat (-1), hs]
      rw [rep_seq (c := layC H e) (x := 48) (-e - 1).toNat (-1) (fun j hj => hz _ (by omega)), show (-1 : Int) - (((-e - 1).toNat : Nat) : Int) = e by omega]
      have e3 : seqD (layC H e) (0 + 1) ((0 : Nat) : Int) = [48] := by
        show [layC H e _] = _
        rw [hz _ (by omega)]
      rw [e3]
      simp only [List.append_assoc]
      rfl
    · rw [if_neg c2]
      unfold layF
      obtain ⟨k, hk⟩ : ∃ k : Nat, e = (k : Int) := ⟨e.toNat, by omega⟩
      obtain ⟨mm, hmm⟩ : ∃ mm : Nat, (mm : Int) = -(if e - ((ndg 10 H : Int) - (lz10 H : Int)) + 1 < -1 then e - ((ndg 10 H : Int) - (lz10 H : Int)) + 1 else -1) := ⟨(-(if e - ((ndg 10 H : Int) - (lz10 H : Int)) + 1 < -1 then e - ((ndg 10 H : Int) - (lz10 H : Int)) + 1 else -1)).toNat, by split <;> omega⟩
      have hmm2 : (m : Int) ≤ k + 1 + mm ∧ k + 1 + mm = m + (e + 2 - (m : Int)).toNat := by
        rw [hm2] at hmm
        split at hmm <;> omega
      have e1 : (if 0 < e then e else 0) = (k : Int) := by split <;> omega
      rw [e1, show ((k : Int) - (if e - ((ndg 10 H : Int) - (lz10 H : Int)) + 1 < -1 then e - ((ndg 10 H : Int) - (lz10 H : Int)) + 1 else -1) + 1).toNat = k + 1 + mm by omega, layP_pos]
      have e2 : dgR H ++ List.replicate (e + 2 - ((dgR H).length : Int)).toNat 48 = seqD (layC H e) (k + 1) (k : Int) ++ seqD (layC H e) mm (-1) := by
        have a1 := seqD_app (c := layC H e) (m := mm) (k + 1) (k : Int)
        rw [show (k : Int) - ((k + 1 : Nat) : Int) = -1 by omega] at a1
        rw [← a1, hmm2.2, seqD_app, hl, hs, ← hk]
        rw [rep_seq (c := layC H e) (x := 48) _ (e - (m : Int)) (fun j hj => hz _ (by omega))]
      have e3 : e.toNat + 1 = k + 1 := by omega
      rw [e2, e3, List.take_left' (seqD_l _ _), List.drop_left' (seqD_l _ _)]
  · rw [if_neg c, if_neg c]
    unfold layE
    have e1 : dgR H = chd 0 (dgv 10 H (ndg 10 H - 1)) :: sgr (dgv 10 H) 0 3 0 (lz10 H) (ndg 10 H - 1 - lz10 H) := by
      unfold dgR
      rw [show ndg 10 H - lz10 H = ndg 10 H - 1 - lz10 H + 1 by omega, sgr_n (by omega), show lz10 H + (ndg 10 H - 1 - lz10 H) = ndg 10 H - 1 by omega]
    rw [hl]
    have e2 : (dgR H).getD 0 0 = 48 + dgv 10 H (ndg 10 H - 1) := by rw [e1, ← chd_d]; rfl
    have e3 : (dgR H).drop 1 = sgr (dgv 10 H) 0 3 0 (lz10 H) (ndg 10 H - 1 - lz10 H) := by rw [e1]; rfl
    rw [e2, e3]
    by_cases c2 : 1 < ndg 10 H - lz10 H
    · rw [if_pos c2, if_pos c2]
      simp only [List.append_assoc]
      rfl
    · rw [if_neg c2, if_neg c2, show ndg 10 H - 1 - lz10 H = 0 by omega]
      rfl
theorem layG_zero : layG [48] 0 = [48, 46, 48] := by decide
theorem layG_ok {dg : List Nat} {e : Int} (h1 : 1 ≤ dg.length ∧ dg.length ≤ 20) : (layG dg e).length ≤ 50 := by
  unfold layG
  split
  · split
    · simp only [List.length_append, List.length_replicate, List.length_cons, List.length_nil]; omega
    · simp only [List.length_append, List.length_take, List.length_drop, List.length_replicate, List.length_cons, List.length_nil]; omega
  · have h9 : (if 1 < dg.length then [46] ++ dg.drop 1 else []).length ≤ 21 := by
      split
      · simp only [List.length_append, List.length_drop, List.length_cons, List.length_nil]; omega
      · exact Nat.zero_le _
    have h8 : (expT e 101).length = 4 := rfl
    simp only [List.length_append, List.length_cons, List.length_nil]
    omega
theorem take_len {v : List Nat} {p : Nat} : (v.drop p).take (v.length - p) = v.drop p := by rw [← List.length_drop, List.take_length]
theorem take_0 {v : List Nat} {q : Nat} : (v.drop 0).take (q - 0) = v.take q := by rw [List.drop_zero, Nat.sub_zero]
set_option maxRecDepth 100000 in
set_option maxHeartbeats 4000000 in
theorem c_P_layReal {l : Launch} (hfl : l.flags = flags0) {D : va_G} {g : Nat → ClassId} {ad : Nat → Nat} {N : Nat} {F0 : Nat → va_E} {W : Nat → Nat} {K S : Nat → Int} {ex : Int} {wS : List Nat} {hS : Nat → Int} {wD : List Nat} {hD : Nat → Int} {e : Int}
    (hN : 109 ≤ N) (hW : bW W) (hPn : F0 43 = oP ad ex) (hTS : F0 44 = oT ad 44 (wS.length : Int)) (hAS : F0 45 = aT g hS) (ttS : tx hS wS) (hlS : wS.length ≤ 200) (hTD : F0 50 = oT ad 50 (wD.length : Int)) (hAD : F0 51 = aT g hD) (ttD : tx hD wD) (hlD : wD.length ≤ 200) (hdl : 1 ≤ wD.length ∧ wD.length ≤ 20) (hch : ∀ j, wD.getD j 0 < 128) (he : -60 ≤ e ∧ e ≤ 60) (hsl : wS.length ≤ 10) :
    JC l y_P_layReal b_P_layReal 2 (Option.none : Option Jvm.ClassFile.FieldType) rm_P_layReal (0, 0) D jCl (jTys g) ad N (cF ad g F0 W K S) [.ref (ad 43), .int (iI e)] (jv ad N (fun F' => ∃ (h1 h2 : Nat → Int) (w1 : List Nat), w1.length ≤ 200 ∧ tx h1 w1 ∧ tx h2 (wS ++ layG wD e) ∧ F' = cF ad g (va_up (va_up (va_up (va_up F0 51 (aT g h1)) 50 (oT ad 50 (w1.length : Int))) 45 (aT g h2)) 44 (oT ad 44 ((wS ++ layG wD e).length : Int))) W K S)) := by
  refine JC.go hfl (own := "NumberTower$Pen") (lv := [(0, .ref (ad 43)), (1, .int (iI e))]) rfl (by decide +kernel) (Nat.le_of_ble_eq_true rfl) rfl (fun A => ?_)
  have lab12 : ∀  (hne : hold (¬(-4 ≤ e ∧ e ≤ 15))) , J l rm_P_layReal (0, 0) "NumberTower$Pen" b_P_layReal 2 (Option.none : Option Jvm.ClassFile.FieldType) D jCl (jTys g) A (fun _ me => me.name = y_P_layReal.name) (jv ad N (fun F' => ∃ (h1 h2 : Nat → Int) (w1 : List Nat), w1.length ≤ 200 ∧ tx h1 w1 ∧ tx h2 (wS ++ layG wD e) ∧ F' = cF ad g (va_up (va_up (va_up (va_up F0 51 (aT g h1)) 50 (oT ad 50 (w1.length : Int))) 45 (aT g h2)) 44 (oT ad 44 ((wS ++ layG wD e).length : Int))) W K S)) ad N 0 0 12 [(0, .ref (ad 43)), (1, .int (iI e))] [] (cF ad g F0 W K S) := by
    intro  hne
    refine J_aload_n 0 d_P_layReal_12 rfl rfl ?_
    refine gf_P_12 (by omega) ((cF_0 (by decide)).trans hPn) rfl d_P_layReal_13 ?_
    refine J_aload_n 0 d_P_layReal_16 rfl rfl ?_
    refine gf_P_24 (by omega) ((cF_0 (by decide)).trans hPn) rfl d_P_layReal_17 ?_
    refine J_iconst d_P_layReal_20 ?_
    refine J_callVi cw_P_105 nh_T_at pn_T_at rfl rfl (by omega) ((cF_0 (by decide)).trans hTD) (As := [.int (iI 0)]) (rest := [.ref (ad 44)]) rfl (Nat.le_of_ble_eq_true rfl) ⟨by decide, by decide⟩ rfl ⟨by decide, by decide⟩ d_P_layReal_21 (c_T_at hfl (k := 50) (w := wD) (hh := hD) (n := 0) (by omega) ((cF_0 (by decide)).trans hTD) ((cF_0 (by decide)).trans hAD) ttD hlD (by decide)) (fun ta1 F1 hq => ?_)
    obtain ⟨hta1, eF1⟩ := hq
    refine J_eqF eF1 ?_
    refine J_topi (r := tat wD 0) (congrArg iI hta1) ?_
    have hd0 : tat wD 0 = ((wD.getD 0 0 : Nat) : Int) := tat_v (by decide) (by omega)
    have hdb := hch 0
    refine J_topi (r := (((wD.getD 0 0 : Nat)) : Int)) (congrArg iI hd0) ?_
    refine J_callVv cw_P_49 nh_T_put pn_T_put rfl rfl (by omega) ((cF_0 (by decide)).trans hTS) (As := [.int (iI (((wD.getD 0 0 : Nat)) : Int))]) (rest := []) rfl (Nat.le_of_ble_eq_true rfl) ⟨by decide, by decide⟩ rfl ⟨by decide, by decide⟩ d_P_layReal_24 (c_T_putN hfl (k := 44) (w := wS) (hh := hS) (c := wD.getD 0 0) (by omega) ((cF_0 (by decide)).trans hTS) ((cF_0 (by decide)).trans hAS) ttS (by omega) (by omega)) (fun  F2 hq => ?_)
    obtain ⟨hh2, htx3, eF2⟩ := hq
    refine J_eqF (F2 := cF ad g (va_up (va_up F0 45 (.inl (g 1, 200, .inl (aI hh2)))) 44 (.inr (7, [.ref (ad 45), .int (iI (((wS ++ [wD.getD 0 0]).length : Nat) : Int))]))) W K S) (eF2.trans (Eq.trans (congrArg (fun qF : Nat → va_E => va_up qF 44 (.inr (7, [.ref (ad 45), .int (iI (((wS ++ [wD.getD 0 0]).length : Nat) : Int))]))) (cF_up0 (by decide))) (cF_up0 (by decide)))) ?_
    refine J_aload_n 0 d_P_layReal_27 rfl rfl ?_
    refine gf_P_24 (by omega) ((cF_0 (by decide)).trans (by rw [va_up_ne _ _ (by decide), va_up_ne _ _ (by decide)]; exact hPn)) rfl d_P_layReal_28 ?_
    refine gf_P_88 (by omega) ((cF_0 (by decide)).trans (by rw [va_up_ne _ _ (by decide), va_up_ne _ _ (by decide)]; exact hTD)) rfl d_P_layReal_31 ?_
    refine J_iconst d_P_layReal_34 ?_
    refine J_if_icmple (tgt := 66) d_P_layReal_35 (by decide) ⟨by omega, by omega⟩ ⟨by omega, by omega⟩ (fun c35 => ?_) (fun c35 => ?_)
    · refine J_aload_n 0 d_P_layReal_66 rfl rfl ?_
      refine gf_P_12 (by omega) ((cF_0 (by decide)).trans (by rw [va_up_ne _ _ (by decide), va_up_ne _ _ (by decide)]; exact hPn)) rfl d_P_layReal_67 ?_
      refine J_iload_n 1 d_P_layReal_70 rfl rfl ?_
      refine J_bipush d_P_layReal_71 (i8_ok (by decide)) ?_
      refine J_callSv cw_P_108 nh_P_putExponent pn_P_putExponent rfl (As := [.ref (ad 44), .int (iI e), .int (iI 101)]) (rest := []) rfl (Nat.le_of_ble_eq_true rfl) ⟨by decide, by decide⟩ rfl ⟨by decide, by decide⟩ d_P_layReal_73 (c_P_putExponent hfl (k := 44) (w := (wS ++ [wD.getD 0 0])) (hh := hh2) (e := e) (lt := 101) (by omega) ((cF_0 (by decide)).trans (by rw [va_up_self])) ((cF_0 (by decide)).trans (by rw [va_up_ne _ _ (by decide), va_up_self])) htx3 (by simp only [List.length_append, List.length_cons, List.length_nil, List.length_replicate]; omega) ⟨by omega, by omega⟩ (by omega)) (fun  F3 hq => ?_)
      obtain ⟨hh4, htx5, eF3⟩ := hq
      refine J_eqF (F2 := cF ad g (va_up (va_up F0 45 (.inl (g 1, 200, .inl (aI hh4)))) 44 (.inr (7, [.ref (ad 45), .int (iI ((((wS ++ [wD.getD 0 0]) ++ expT e 101).length : Nat) : Int))]))) W K S) (eF3.trans (Eq.trans (congrArg (fun qF : Nat → va_E => va_up qF 44 (.inr (7, [.ref (ad 45), .int (iI ((((wS ++ [wD.getD 0 0]) ++ expT e 101).length : Nat) : Int))]))) ((cF_up0 (by decide)).trans (congrArg (fun qq => cF ad g qq W K S) (up_in1 (by decide))))) ((cF_up0 (by decide)).trans (congrArg (fun qq => cF ad g qq W K S) (up_in0))))) ?_
      refine J_goto (tgt := 201) d_P_layReal_76 (by decide) ?_
      refine J_eqF (F2 := cF ad g (va_up (va_up (va_up F0 45 (.inl (g 1, 200, .inl (aI hh4)))) 44 (.inr (7, [.ref (ad 45), .int (iI ((((wS ++ [wD.getD 0 0]) ++ expT e 101).length : Nat) : Int))]))) 51 (.inl (g 1, 200, .inl (aI hD)))) W K S) (congrArg (fun qq : Nat → va_E => cF ad g qq W K S) (up_same1 (i := 51) (a := ((.inl (g 1, 200, .inl (aI hD))) : va_E)) (by rw [va_up_ne _ _ (by decide), va_up_ne _ _ (by decide)]; exact hAD))) ?_
      refine J_eqF (F2 := cF ad g (va_up (va_up (va_up (va_up F0 45 (.inl (g 1, 200, .inl (aI hh4)))) 44 (.inr (7, [.ref (ad 45), .int (iI ((((wS ++ [wD.getD 0 0]) ++ expT e 101).length : Nat) : Int))]))) 51 (.inl (g 1, 200, .inl (aI hD)))) 50 (.inr (7, [.ref (ad 51), .int (iI ((wD.length : Nat) : Int))]))) W K S) (congrArg (fun qq : Nat → va_E => cF ad g qq W K S) (up_same1 (i := 50) (a := ((.inr (7, [.ref (ad 51), .int (iI ((wD.length : Nat) : Int))])) : va_E)) (by rw [va_up_ne _ _ (by decide), va_up_ne _ _ (by decide), va_up_ne _ _ (by decide)]; exact hTD))) ?_
      refine J_eqF (F2 := cF ad g (va_up (va_up (va_up (va_up F0 51 (.inl (g 1, 200, .inl (aI hD)))) 50 (.inr (7, [.ref (ad 51), .int (iI ((wD.length : Nat) : Int))]))) 45 (.inl (g 1, 200, .inl (aI hh4)))) 44 (.inr (7, [.ref (ad 45), .int (iI ((((wS ++ [wD.getD 0 0]) ++ expT e 101).length : Nat) : Int))]))) W K S) (congrArg (fun qq : Nat → va_E => cF ad g qq W K S) (Eq.trans (congrArg (fun qq : Nat → va_E => va_up qq 50 (.inr (7, [.ref (ad 51), .int (iI ((wD.length : Nat) : Int))]))) (up_cm (by decide))) (Eq.trans (congrArg (fun qq : Nat → va_E => va_up (va_up qq 44 (.inr (7, [.ref (ad 45), .int (iI ((((wS ++ [wD.getD 0 0]) ++ expT e 101).length : Nat) : Int))]))) 50 (.inr (7, [.ref (ad 51), .int (iI ((wD.length : Nat) : Int))]))) (up_cm (by decide))) (Eq.trans (up_cm (by decide)) (congrArg (fun qq : Nat → va_E => va_up qq 44 (.inr (7, [.ref (ad 45), .int (iI ((((wS ++ [wD.getD 0 0]) ++ expT e 101).length : Nat) : Int))]))) (up_cm (by decide))))))) ?_
      have eT6 : ((wS ++ [wD.getD 0 0]) ++ expT e 101) = wS ++ layG wD e := (by unfold layG; rw [if_neg (show ¬(-4 ≤ e ∧ e ≤ 15) from hne), if_neg (by omega)]; simp only [List.append_assoc, List.nil_append])
      have htx7 : tx hh4 (wS ++ layG wD e) := eT6 ▸ htx5
      refine J_eqF (F2 := cF ad g (va_up (va_up (va_up (va_up F0 51 (.inl (g 1, 200, .inl (aI hD)))) 50 (.inr (7, [.ref (ad 51), .int (iI ((wD.length : Nat) : Int))]))) 45 (.inl (g 1, 200, .inl (aI hh4)))) 44 (.inr (7, [.ref (ad 45), .int (iI (((wS ++ layG wD e).length : Nat) : Int))]))) W K S) (congrArg (fun qq : List Nat => cF ad g (va_up (va_up (va_up (va_up F0 51 (.inl (g 1, 200, .inl (aI hD)))) 50 (.inr (7, [.ref (ad 51), .int (iI ((wD.length : Nat) : Int))]))) 45 (.inl (g 1, 200, .inl (aI hh4)))) 44 (oT ad 44 ((qq.length : Nat) : Int))) W K S) eT6) ?_
      refine J_vret rfl d_P_layReal_201 ⟨by decide, by decide⟩ ?_
      exact ⟨rfl, rfl, rfl, _, _, _, hlD, ttD, htx7, rfl⟩
    · refine J_aload_n 0 d_P_layReal_38 rfl rfl ?_
      refine gf_P_12 (by omega) ((cF_0 (by decide)).trans (by rw [va_up_ne _ _ (by decide), va_up_ne _ _ (by decide)]; exact hPn)) rfl d_P_layReal_39 ?_
      refine J_bipush d_P_layReal_42 (i8_ok (by decide)) ?_
      refine J_callVv cw_P_49 nh_T_put pn_T_put rfl rfl (by omega) ((cF_0 (by decide)).trans (by rw [va_up_self])) (As := [.int (iI 46)]) (rest := []) rfl (Nat.le_of_ble_eq_true rfl) ⟨by decide, by decide⟩ rfl ⟨by decide, by decide⟩ d_P_layReal_44 (c_T_putN hfl (k := 44) (w := (wS ++ [wD.getD 0 0])) (hh := hh2) (c := (46 : Nat)) (by omega) ((cF_0 (by decide)).trans (by rw [va_up_self])) ((cF_0 (by decide)).trans (by rw [va_up_ne _ _ (by decide), va_up_self])) htx3 (by simp only [List.length_append, List.length_cons, List.length_nil, List.length_replicate]; omega) (by omega)) (fun  F4 hq => ?_)
      obtain ⟨hh8, htx9, eF4⟩ := hq
      refine J_eqF (F2 := cF ad g (va_up (va_up F0 45 (.inl (g 1, 200, .inl (aI hh8)))) 44 (.inr (7, [.ref (ad 45), .int (iI ((((wS ++ [wD.getD 0 0]) ++ [(46 : Nat)]).length : Nat) : Int))]))) W K S) (eF4.trans (Eq.trans (congrArg (fun qF : Nat → va_E => va_up qF 44 (.inr (7, [.ref (ad 45), .int (iI ((((wS ++ [wD.getD 0 0]) ++ [(46 : Nat)]).length : Nat) : Int))]))) ((cF_up0 (by decide)).trans (congrArg (fun qq => cF ad g qq W K S) (up_in1 (by decide))))) ((cF_up0 (by decide)).trans (congrArg (fun qq => cF ad g qq W K S) (up_in0))))) ?_
      refine J_aload_n 0 d_P_layReal_47 rfl rfl ?_
      refine gf_P_12 (by omega) ((cF_0 (by decide)).trans (by rw [va_up_ne _ _ (by decide), va_up_ne _ _ (by decide)]; exact hPn)) rfl d_P_layReal_48 ?_
      refine J_aload_n 0 d_P_layReal_51 rfl rfl ?_
      refine gf_P_24 (by omega) ((cF_0 (by decide)).trans (by rw [va_up_ne _ _ (by decide), va_up_ne _ _ (by decide)]; exact hPn)) rfl d_P_layReal_52 ?_
      refine J_iconst d_P_layReal_55 ?_
      refine J_aload_n 0 d_P_layReal_56 rfl rfl ?_
      refine gf_P_24 (by omega) ((cF_0 (by decide)).trans (by rw [va_up_ne _ _ (by decide), va_up_ne _ _ (by decide)]; exact hPn)) rfl d_P_layReal_57 ?_
      refine gf_P_88 (by omega) ((cF_0 (by decide)).trans (by rw [va_up_ne _ _ (by decide), va_up_ne _ _ (by decide)]; exact hTD)) rfl d_P_layReal_60 ?_
      refine J_callVv cw_P_91 nh_T_putFrom pn_T_putFrom rfl rfl (by omega) ((cF_0 (by decide)).trans (by rw [va_up_self])) (As := [.ref (ad 50), .int (iI 1), .int (iI ((wD.length : Nat) : Int))]) (rest := []) rfl (Nat.le_of_ble_eq_true rfl) ⟨by decide, by decide⟩ rfl ⟨by decide, by decide⟩ d_P_layReal_63 (c_T_putFromN hfl (k := 44) (m := 50) (w := ((wS ++ [wD.getD 0 0]) ++ [(46 : Nat)])) (v := wD) (u := wD.drop 1) (hh := hh8) (yh := hD) (p := 1) (q := wD.length) (by omega) ((cF_0 (by decide)).trans (by rw [va_up_self])) ((cF_0 (by decide)).trans (by rw [va_up_ne _ _ (by decide), va_up_self])) htx9 (by simp only [List.length_append, List.length_cons, List.length_nil, List.length_replicate]; omega) (by omega) ((cF_0 (by decide)).trans (by rw [va_up_ne _ _ (by decide), va_up_ne _ _ (by decide)]; exact hTD)) ((cF_0 (by decide)).trans (by rw [va_up_ne _ _ (by decide), va_up_ne _ _ (by decide)]; exact hAD)) ttD hlD (by omega) (by omega) (by omega) take_len (by simp only [List.length_append, List.length_cons, List.length_nil, List.length_drop]; omega)) (fun  F5 hq => ?_)
      obtain ⟨hh10, htx11, eF5⟩ := hq
      refine J_eqF (F2 := cF ad g (va_up (va_up F0 45 (.inl (g 1, 200, .inl (aI hh10)))) 44 (.inr (7, [.ref (ad 45), .int (iI (((((wS ++ [wD.getD 0 0]) ++ [(46 : Nat)]) ++ wD.drop 1).length : Nat) : Int))]))) W K S) (eF5.trans (Eq.trans (congrArg (fun qF : Nat → va_E => va_up qF 44 (.inr (7, [.ref (ad 45), .int (iI (((((wS ++ [wD.getD 0 0]) ++ [(46 : Nat)]) ++ wD.drop 1).length : Nat) : Int))]))) ((cF_up0 (by decide)).trans (congrArg (fun qq => cF ad g qq W K S) (up_in1 (by decide))))) ((cF_up0 (by decide)).trans (congrArg (fun qq => cF ad g qq W K S) (up_in0))))) ?_
      refine J_aload_n 0 d_P_layReal_66 rfl rfl ?_
      refine gf_P_12 (by omega) ((cF_0 (by decide)).trans (by rw [va_up_ne _ _ (by decide), va_up_ne _ _ (by decide)]; exact hPn)) rfl d_P_layReal_67 ?_
      refine J_iload_n 1 d_P_layReal_70 rfl rfl ?_
      refine J_bipush d_P_layReal_71 (i8_ok (by decide)) ?_
      refine J_callSv cw_P_108 nh_P_putExponent pn_P_putExponent rfl (As := [.ref (ad 44), .int (iI e), .int (iI 101)]) (rest := []) rfl (Nat.le_of_ble_eq_true rfl) ⟨by decide, by decide⟩ rfl ⟨by decide, by decide⟩ d_P_layReal_73 (c_P_putExponent hfl (k := 44) (w := (((wS ++ [wD.getD 0 0]) ++ [(46 : Nat)]) ++ wD.drop 1)) (hh := hh10) (e := e) (lt := 101) (by omega) ((cF_0 (by decide)).trans (by rw [va_up_self])) ((cF_0 (by decide)).trans (by rw [va_up_ne _ _ (by decide), va_up_self])) htx11 (by simp only [List.length_append, List.length_cons, List.length_nil, List.length_replicate, List.length_take, List.length_drop]; omega) ⟨by omega, by omega⟩ (by omega)) (fun  F6 hq => ?_)
      obtain ⟨hh12, htx13, eF6⟩ := hq
      refine J_eqF (F2 := cF ad g (va_up (va_up F0 45 (.inl (g 1, 200, .inl (aI hh12)))) 44 (.inr (7, [.ref (ad 45), .int (iI ((((((wS ++ [wD.getD 0 0]) ++ [(46 : Nat)]) ++ wD.drop 1) ++ expT e 101).length : Nat) : Int))]))) W K S) (eF6.trans (Eq.trans (congrArg (fun qF : Nat → va_E => va_up qF 44 (.inr (7, [.ref (ad 45), .int (iI ((((((wS ++ [wD.getD 0 0]) ++ [(46 : Nat)]) ++ wD.drop 1) ++ expT e 101).length : Nat) : Int))]))) ((cF_up0 (by decide)).trans (congrArg (fun qq => cF ad g qq W K S) (up_in1 (by decide))))) ((cF_up0 (by decide)).trans (congrArg (fun qq => cF ad g qq W K S) (up_in0))))) ?_
      refine J_goto (tgt := 201) d_P_layReal_76 (by decide) ?_
      refine J_eqF (F2 := cF ad g (va_up (va_up (va_up F0 45 (.inl (g 1, 200, .inl (aI hh12)))) 44 (.inr (7, [.ref (ad 45), .int (iI ((((((wS ++ [wD.getD 0 0]) ++ [(46 : Nat)]) ++ wD.drop 1) ++ expT e 101).length : Nat) : Int))]))) 51 (.inl (g 1, 200, .inl (aI hD)))) W K S) (congrArg (fun qq : Nat → va_E => cF ad g qq W K S) (up_same1 (i := 51) (a := ((.inl (g 1, 200, .inl (aI hD))) : va_E)) (by rw [va_up_ne _ _ (by decide), va_up_ne _ _ (by decide)]; exact hAD))) ?_
      refine J_eqF (F2 := cF ad g (va_up (va_up (va_up (va_up F0 45 (.inl (g 1, 200, .inl (aI hh12)))) 44 (.inr (7, [.ref (ad 45), .int (iI ((((((wS ++ [wD.getD 0 0]) ++ [(46 : Nat)]) ++ wD.drop 1) ++ expT e 101).length : Nat) : Int))]))) 51 (.inl (g 1, 200, .inl (aI hD)))) 50 (.inr (7, [.ref (ad 51), .int (iI ((wD.length : Nat) : Int))]))) W K S) (congrArg (fun qq : Nat → va_E => cF ad g qq W K S) (up_same1 (i := 50) (a := ((.inr (7, [.ref (ad 51), .int (iI ((wD.length : Nat) : Int))])) : va_E)) (by rw [va_up_ne _ _ (by decide), va_up_ne _ _ (by decide), va_up_ne _ _ (by decide)]; exact hTD))) ?_
      refine J_eqF (F2 := cF ad g (va_up (va_up (va_up (va_up F0 51 (.inl (g 1, 200, .inl (aI hD)))) 50 (.inr (7, [.ref (ad 51), .int (iI ((wD.length : Nat) : Int))]))) 45 (.inl (g 1, 200, .inl (aI hh12)))) 44 (.inr (7, [.ref (ad 45), .int (iI ((((((wS ++ [wD.getD 0 0]) ++ [(46 : Nat)]) ++ wD.drop 1) ++ expT e 101).length : Nat) : Int))]))) W K S) (congrArg (fun qq : Nat → va_E => cF ad g qq W K S) (Eq.trans (congrArg (fun qq : Nat → va_E => va_up qq 50 (.inr (7, [.ref (ad 51), .int (iI ((wD.length : Nat) : Int))]))) (up_cm (by decide))) (Eq.trans (congrArg (fun qq : Nat → va_E => va_up (va_up qq 44 (.inr (7, [.ref (ad 45), .int (iI ((((((wS ++ [wD.getD 0 0]) ++ [(46 : Nat)]) ++ wD.drop 1) ++ expT e 101).length : Nat) : Int))]))) 50 (.inr (7, [.ref (ad 51), .int (iI ((wD.length : Nat) : Int))]))) (up_cm (by decide))) (Eq.trans (up_cm (by decide)) (congrArg (fun qq : Nat → va_E => va_up qq 44 (.inr (7, [.ref (ad 45), .int (iI ((((((wS ++ [wD.getD 0 0]) ++ [(46 : Nat)]) ++ wD.drop 1) ++ expT e 101).length : Nat) : Int))]))) (up_cm (by decide))))))) ?_
      have eT14 : ((((wS ++ [wD.getD 0 0]) ++ [(46 : Nat)]) ++ wD.drop 1) ++ expT e 101) = wS ++ layG wD e := (by unfold layG; rw [if_neg (show ¬(-4 ≤ e ∧ e ≤ 15) from hne), if_pos (by omega)]; simp only [List.append_assoc])
      have htx15 : tx hh12 (wS ++ layG wD e) := eT14 ▸ htx13
      refine J_eqF (F2 := cF ad g (va_up (va_up (va_up (va_up F0 51 (.inl (g 1, 200, .inl (aI hD)))) 50 (.inr (7, [.ref (ad 51), .int (iI ((wD.length : Nat) : Int))]))) 45 (.inl (g 1, 200, .inl (aI hh12)))) 44 (.inr (7, [.ref (ad 45), .int (iI (((wS ++ layG wD e).length : Nat) : Int))]))) W K S) (congrArg (fun qq : List Nat => cF ad g (va_up (va_up (va_up (va_up F0 51 (.inl (g 1, 200, .inl (aI hD)))) 50 (.inr (7, [.ref (ad 51), .int (iI ((wD.length : Nat) : Int))]))) 45 (.inl (g 1, 200, .inl (aI hh12)))) 44 (oT ad 44 ((qq.length : Nat) : Int))) W K S) eT14) ?_
      refine J_vret rfl d_P_layReal_201 ⟨by decide, by decide⟩ ?_
      exact ⟨rfl, rfl, rfl, _, _, _, hlD, ttD, htx15, rfl⟩
  refine J_iload_n 1 d_P_layReal_0 rfl rfl ?_
  refine J_bipush d_P_layReal_1 (i8_ok (by decide)) ?_
  refine J_if_icmplt (tgt := 12) d_P_layReal_3 (by decide) ⟨by omega, by omega⟩ ⟨by omega, by omega⟩ (fun c3 => ?_) (fun c3 => ?_)
  · exact lab12  (show ¬(-4 ≤ e ∧ e ≤ 15) by omega)
  · refine J_iload_n 1 d_P_layReal_6 rfl rfl ?_
    refine J_bipush d_P_layReal_7 (i8_ok (by decide)) ?_
    refine J_if_icmple (tgt := 79) d_P_layReal_9 (by decide) ⟨by omega, by omega⟩ ⟨by omega, by omega⟩ (fun c9 => ?_) (fun c9 => ?_)
    · refine J_iload_n 1 d_P_layReal_79 rfl rfl ?_
      refine J_ifge (tgt := 136) d_P_layReal_80 (by decide) ⟨by omega, by omega⟩ (fun c80 => ?_) (fun c80 => ?_)
      · refine J_aload_n 0 d_P_layReal_136 rfl rfl ?_
        refine gf_P_24 (by omega) ((cF_0 (by decide)).trans hPn) rfl d_P_layReal_137 ?_
        refine J_bipush d_P_layReal_140 (i8_ok (by decide)) ?_
        refine J_iload_n 1 d_P_layReal_142 rfl rfl ?_
        refine J_iconst d_P_layReal_143 ?_
        refine J_iadd d_P_layReal_144 ?_
        refine J_aload_n 0 d_P_layReal_145 rfl rfl ?_
        refine gf_P_24 (by omega) ((cF_0 (by decide)).trans hPn) rfl d_P_layReal_146 ?_
        refine gf_P_88 (by omega) ((cF_0 (by decide)).trans hTD) rfl d_P_layReal_149 ?_
        refine J_isub d_P_layReal_152 ?_
        refine J_callVv cw_P_111 nh_T_putMany pn_T_putMany rfl rfl (by omega) ((cF_0 (by decide)).trans hTD) (As := [.int (iI 48), .int (iI ((e + 2) - ((wD.length : Nat) : Int)))]) (rest := []) rfl (Nat.le_of_ble_eq_true rfl) ⟨by decide, by decide⟩ rfl ⟨by decide, by decide⟩ d_P_layReal_153 (c_T_putManyI hfl (k := 50) (w := wD) (hh := hD) (c := (48 : Nat)) (n := (e + 2) - ((wD.length : Nat) : Int)) (by omega) ((cF_0 (by decide)).trans hTD) ((cF_0 (by decide)).trans hAD) ttD hlD (by omega) ⟨by omega, by omega⟩) (fun  F7 hq => ?_)
        obtain ⟨hh16, htx17, eF7⟩ := hq
        refine J_eqF (F2 := cF ad g (va_up (va_up F0 51 (.inl (g 1, 200, .inl (aI hh16)))) 50 (.inr (7, [.ref (ad 51), .int (iI (((wD ++ List.replicate (((e + 2) - ((wD.length : Nat) : Int)).toNat) (48 : Nat)).length : Nat) : Int))]))) W K S) (eF7.trans (Eq.trans (congrArg (fun qF : Nat → va_E => va_up qF 50 (.inr (7, [.ref (ad 51), .int (iI (((wD ++ List.replicate (((e + 2) - ((wD.length : Nat) : Int)).toNat) (48 : Nat)).length : Nat) : Int))]))) (cF_up0 (by decide))) (cF_up0 (by decide)))) ?_
        refine J_aload_n 0 d_P_layReal_156 rfl rfl ?_
        refine gf_P_12 (by omega) ((cF_0 (by decide)).trans (by rw [va_up_ne _ _ (by decide), va_up_ne _ _ (by decide)]; exact hPn)) rfl d_P_layReal_157 ?_
        refine J_aload_n 0 d_P_layReal_160 rfl rfl ?_
        refine gf_P_24 (by omega) ((cF_0 (by decide)).trans (by rw [va_up_ne _ _ (by decide), va_up_ne _ _ (by decide)]; exact hPn)) rfl d_P_layReal_161 ?_
        refine J_iconst d_P_layReal_164 ?_
        refine J_iload_n 1 d_P_layReal_165 rfl rfl ?_
        refine J_iconst d_P_layReal_166 ?_
        refine J_iadd d_P_layReal_167 ?_
        refine J_topi (r := (((e.toNat + 1 : Nat)) : Int)) (congrArg iI (by omega)) ?_
        refine J_callVv cw_P_91 nh_T_putFrom pn_T_putFrom rfl rfl (by omega) ((cF_0 (by decide)).trans (by rw [va_up_ne _ _ (by decide), va_up_ne _ _ (by decide)]; exact hTS)) (As := [.ref (ad 50), .int (iI 0), .int (iI (((e.toNat + 1 : Nat)) : Int))]) (rest := []) rfl (Nat.le_of_ble_eq_true rfl) ⟨by decide, by decide⟩ rfl ⟨by decide, by decide⟩ d_P_layReal_168 (c_T_putFromN hfl (k := 44) (m := 50) (w := wS) (v := (wD ++ List.replicate (((e + 2) - ((wD.length : Nat) : Int)).toNat) (48 : Nat))) (u := (wD ++ List.replicate (e + 2 - (wD.length : Int)).toNat 48).take (e.toNat + 1)) (hh := hS) (yh := hh16) (p := 0) (q := e.toNat + 1) (by omega) ((cF_0 (by decide)).trans (by rw [va_up_ne _ _ (by decide), va_up_ne _ _ (by decide)]; exact hTS)) ((cF_0 (by decide)).trans (by rw [va_up_ne _ _ (by decide), va_up_ne _ _ (by decide)]; exact hAS)) ttS hlS (by omega) ((cF_0 (by decide)).trans (by rw [va_up_self])) ((cF_0 (by decide)).trans (by rw [va_up_ne _ _ (by decide), va_up_self])) htx17 (by simp only [List.length_append, List.length_cons, List.length_nil, List.length_replicate]; omega) (by omega) (by omega) (by omega) take_0 (by simp only [List.length_append, List.length_take, List.length_replicate]; omega)) (fun  F8 hq => ?_)
        obtain ⟨hh18, htx19, eF8⟩ := hq
        refine J_eqF (F2 := cF ad g (va_up (va_up (va_up (va_up F0 51 (.inl (g 1, 200, .inl (aI hh16)))) 50 (.inr (7, [.ref (ad 51), .int (iI (((wD ++ List.replicate (((e + 2) - ((wD.length : Nat) : Int)).toNat) (48 : Nat)).length : Nat) : Int))]))) 45 (.inl (g 1, 200, .inl (aI hh18)))) 44 (.inr (7, [.ref (ad 45), .int (iI (((wS ++ (wD ++ List.replicate (e + 2 - (wD.length : Int)).toNat 48).take (e.toNat + 1)).length : Nat) : Int))]))) W K S) (eF8.trans (Eq.trans (congrArg (fun qF : Nat → va_E => va_up qF 44 (.inr (7, [.ref (ad 45), .int (iI (((wS ++ (wD ++ List.replicate (e + 2 - (wD.length : Int)).toNat 48).take (e.toNat + 1)).length : Nat) : Int))]))) (cF_up0 (by decide))) (cF_up0 (by decide)))) ?_
        refine J_aload_n 0 d_P_layReal_171 rfl rfl ?_
        refine gf_P_12 (by omega) ((cF_0 (by decide)).trans (by rw [va_up_ne _ _ (by decide), va_up_ne _ _ (by decide), va_up_ne _ _ (by decide), va_up_ne _ _ (by decide)]; exact hPn)) rfl d_P_layReal_172 ?_
        refine J_bipush d_P_layReal_175 (i8_ok (by decide)) ?_
        refine J_callVv cw_P_49 nh_T_put pn_T_put rfl rfl (by omega) ((cF_0 (by decide)).trans (by rw [va_up_self])) (As := [.int (iI 46)]) (rest := []) rfl (Nat.le_of_ble_eq_true rfl) ⟨by decide, by decide⟩ rfl ⟨by decide, by decide⟩ d_P_layReal_177 (c_T_putN hfl (k := 44) (w := (wS ++ (wD ++ List.replicate (e + 2 - (wD.length : Int)).toNat 48).take (e.toNat + 1))) (hh := hh18) (c := (46 : Nat)) (by omega) ((cF_0 (by decide)).trans (by rw [va_up_self])) ((cF_0 (by decide)).trans (by rw [va_up_ne _ _ (by decide), va_up_self])) htx19 (by simp only [List.length_append, List.length_take, List.length_replicate]; omega) (by omega)) (fun  F9 hq => ?_)
        obtain ⟨hh20, htx21, eF9⟩ := hq
        refine J_eqF (F2 := cF ad g (va_up (va_up (va_up (va_up F0 51 (.inl (g 1, 200, .inl (aI hh16)))) 50 (.inr (7, [.ref (ad 51), .int (iI (((wD ++ List.replicate (((e + 2) - ((wD.length : Nat) : Int)).toNat) (48 : Nat)).length : Nat) : Int))]))) 45 (.inl (g 1, 200, .inl (aI hh20)))) 44 (.inr (7, [.ref (ad 45), .int (iI ((((wS ++ (wD ++ List.replicate (e + 2 - (wD.length : Int)).toNat 48).take (e.toNat + 1)) ++ [(46 : Nat)]).length : Nat) : Int))]))) W K S) (eF9.trans (Eq.trans (congrArg (fun qF : Nat → va_E => va_up qF 44 (.inr (7, [.ref (ad 45), .int (iI ((((wS ++ (wD ++ List.replicate (e + 2 - (wD.length : Int)).toNat 48).take (e.toNat + 1)) ++ [(46 : Nat)]).length : Nat) : Int))]))) ((cF_up0 (by decide)).trans (congrArg (fun qq => cF ad g qq W K S) (up_in1 (by decide))))) ((cF_up0 (by decide)).trans (congrArg (fun qq => cF ad g qq W K S) (up_in0))))) ?_
        refine J_aload_n 0 d_P_layReal_180 rfl rfl ?_
        refine gf_P_12 (by omega) ((cF_0 (by decide)).trans (by rw [va_up_ne _ _ (by decide), va_up_ne _ _ (by decide), va_up_ne _ _ (by decide), va_up_ne _ _ (by decide)]; exact hPn)) rfl d_P_layReal_181 ?_
        refine J_aload_n 0 d_P_layReal_184 rfl rfl ?_
        refine gf_P_24 (by omega) ((cF_0 (by decide)).trans (by rw [va_up_ne _ _ (by decide), va_up_ne _ _ (by decide), va_up_ne _ _ (by decide), va_up_ne _ _ (by decide)]; exact hPn)) rfl d_P_layReal_185 ?_
        refine J_iload_n 1 d_P_layReal_188 rfl rfl ?_
        refine J_iconst d_P_layReal_189 ?_
        refine J_iadd d_P_layReal_190 ?_
        have hpdl : (wD ++ List.replicate (e + 2 - (wD.length : Int)).toNat 48).length ≤ 200 := by simp only [List.length_append, List.length_replicate]; omega
        refine J_topi (r := (((e.toNat + 1 : Nat)) : Int)) (congrArg iI (by omega)) ?_
        refine J_aload_n 0 d_P_layReal_191 rfl rfl ?_
        refine gf_P_24 (by omega) ((cF_0 (by decide)).trans (by rw [va_up_ne _ _ (by decide), va_up_ne _ _ (by decide), va_up_ne _ _ (by decide), va_up_ne _ _ (by decide)]; exact hPn)) rfl d_P_layReal_192 ?_
        refine gf_P_88 (by omega) ((cF_0 (by decide)).trans (by rw [va_up_ne _ _ (by decide), va_up_ne _ _ (by decide), va_up_self])) rfl d_P_layReal_195 ?_
        refine J_callVv cw_P_91 nh_T_putFrom pn_T_putFrom rfl rfl (by omega) ((cF_0 (by decide)).trans (by rw [va_up_self])) (As := [.ref (ad 50), .int (iI (((e.toNat + 1 : Nat)) : Int)), .int (iI (((wD ++ List.replicate (((e + 2) - ((wD.length : Nat) : Int)).toNat) (48 : Nat)).length : Nat) : Int))]) (rest := []) rfl (Nat.le_of_ble_eq_true rfl) ⟨by decide, by decide⟩ rfl ⟨by decide, by decide⟩ d_P_layReal_198 (c_T_putFromN hfl (k := 44) (m := 50) (w := ((wS ++ (wD ++ List.replicate (e + 2 - (wD.length : Int)).toNat 48).take (e.toNat + 1)) ++ [(46 : Nat)])) (v := (wD ++ List.replicate (((e + 2) - ((wD.length : Nat) : Int)).toNat) (48 : Nat))) (u := (wD ++ List.replicate (e + 2 - (wD.length : Int)).toNat 48).drop (e.toNat + 1)) (hh := hh20) (yh := hh16) (p := e.toNat + 1) (q := (wD ++ List.replicate (((e + 2) - ((wD.length : Nat) : Int)).toNat) (48 : Nat)).length) (by omega) ((cF_0 (by decide)).trans (by rw [va_up_self])) ((cF_0 (by decide)).trans (by rw [va_up_ne _ _ (by decide), va_up_self])) htx21 (by simp only [List.length_append, List.length_cons, List.length_nil, List.length_replicate, List.length_take, List.length_drop]; omega) (by omega) ((cF_0 (by decide)).trans (by rw [va_up_ne _ _ (by decide), va_up_ne _ _ (by decide), va_up_self])) ((cF_0 (by decide)).trans (by rw [va_up_ne _ _ (by decide), va_up_ne _ _ (by decide), va_up_ne _ _ (by decide), va_up_self])) htx17 (by simp only [List.length_append, List.length_cons, List.length_nil, List.length_replicate]; omega) (by omega) (by omega) (by omega) take_len (by simp only [List.length_append, List.length_cons, List.length_nil, List.length_take, List.length_drop, List.length_replicate]; omega)) (fun  F10 hq => ?_)
        obtain ⟨hh22, htx23, eF10⟩ := hq
        refine J_eqF (F2 := cF ad g (va_up (va_up (va_up (va_up F0 51 (.inl (g 1, 200, .inl (aI hh16)))) 50 (.inr (7, [.ref (ad 51), .int (iI (((wD ++ List.replicate (((e + 2) - ((wD.length : Nat) : Int)).toNat) (48 : Nat)).length : Nat) : Int))]))) 45 (.inl (g 1, 200, .inl (aI hh22)))) 44 (.inr (7, [.ref (ad 45), .int (iI (((((wS ++ (wD ++ List.replicate (e + 2 - (wD.length : Int)).toNat 48).take (e.toNat + 1)) ++ [(46 : Nat)]) ++ (wD ++ List.replicate (e + 2 - (wD.length : Int)).toNat 48).drop (e.toNat + 1)).length : Nat) : Int))]))) W K S) (eF10.trans (Eq.trans (congrArg (fun qF : Nat → va_E => va_up qF 44 (.inr (7, [.ref (ad 45), .int (iI (((((wS ++ (wD ++ List.replicate (e + 2 - (wD.length : Int)).toNat 48).take (e.toNat + 1)) ++ [(46 : Nat)]) ++ (wD ++ List.replicate (e + 2 - (wD.length : Int)).toNat 48).drop (e.toNat + 1)).length : Nat) : Int))]))) ((cF_up0 (by decide)).trans (congrArg (fun qq => cF ad g qq W K S) (up_in1 (by decide))))) ((cF_up0 (by decide)).trans (congrArg (fun qq => cF ad g qq W K S) (up_in0))))) ?_
        have eT24 : (((wS ++ (wD ++ List.replicate (e + 2 - (wD.length : Int)).toNat 48).take (e.toNat + 1)) ++ [(46 : Nat)]) ++ (wD ++ List.replicate (e + 2 - (wD.length : Int)).toNat 48).drop (e.toNat + 1)) = wS ++ layG wD e := (by unfold layG; rw [if_pos ⟨by omega, by omega⟩, if_neg (by omega)]; simp only [List.append_assoc])
        have htx25 : tx hh22 (wS ++ layG wD e) := eT24 ▸ htx23
        refine J_eqF (F2 := cF ad g (va_up (va_up (va_up (va_up F0 51 (.inl (g 1, 200, .inl (aI hh16)))) 50 (.inr (7, [.ref (ad 51), .int (iI (((wD ++ List.replicate (((e + 2) - ((wD.length : Nat) : Int)).toNat) (48 : Nat)).length : Nat) : Int))]))) 45 (.inl (g 1, 200, .inl (aI hh22)))) 44 (.inr (7, [.ref (ad 45), .int (iI (((wS ++ layG wD e).length : Nat) : Int))]))) W K S) (congrArg (fun qq : List Nat => cF ad g (va_up (va_up (va_up (va_up F0 51 (.inl (g 1, 200, .inl (aI hh16)))) 50 (.inr (7, [.ref (ad 51), .int (iI (((wD ++ List.replicate (((e + 2) - ((wD.length : Nat) : Int)).toNat) (48 : Nat)).length : Nat) : Int))]))) 45 (.inl (g 1, 200, .inl (aI hh22)))) 44 (oT ad 44 ((qq.length : Nat) : Int))) W K S) eT24) ?_
        refine J_vret rfl d_P_layReal_201 ⟨by decide, by decide⟩ ?_
        exact ⟨rfl, rfl, rfl, _, _, _, (by simp only [List.length_append, List.length_replicate]; omega), htx17, htx25, rfl⟩
      · refine J_aload_n 0 d_P_layReal_83 rfl rfl ?_
        refine gf_P_12 (by omega) ((cF_0 (by decide)).trans hPn) rfl d_P_layReal_84 ?_
        refine J_bipush d_P_layReal_87 (i8_ok (by decide)) ?_
        refine J_callVv cw_P_49 nh_T_put pn_T_put rfl rfl (by omega) ((cF_0 (by decide)).trans hTS) (As := [.int (iI 48)]) (rest := []) rfl (Nat.le_of_ble_eq_true rfl) ⟨by decide, by decide⟩ rfl ⟨by decide, by decide⟩ d_P_layReal_89 (c_T_putN hfl (k := 44) (w := wS) (hh := hS) (c := (48 : Nat)) (by omega) ((cF_0 (by decide)).trans hTS) ((cF_0 (by decide)).trans hAS) ttS (by omega) (by omega)) (fun  F11 hq => ?_)
        obtain ⟨hh26, htx27, eF11⟩ := hq
        refine J_eqF (F2 := cF ad g (va_up (va_up F0 45 (.inl (g 1, 200, .inl (aI hh26)))) 44 (.inr (7, [.ref (ad 45), .int (iI (((wS ++ [(48 : Nat)]).length : Nat) : Int))]))) W K S) (eF11.trans (Eq.trans (congrArg (fun qF : Nat → va_E => va_up qF 44 (.inr (7, [.ref (ad 45), .int (iI (((wS ++ [(48 : Nat)]).length : Nat) : Int))]))) (cF_up0 (by decide))) (cF_up0 (by decide)))) ?_
        refine J_aload_n 0 d_P_layReal_92 rfl rfl ?_
        refine gf_P_12 (by omega) ((cF_0 (by decide)).trans (by rw [va_up_ne _ _ (by decide), va_up_ne _ _ (by decide)]; exact hPn)) rfl d_P_layReal_93 ?_
        refine J_bipush d_P_layReal_96 (i8_ok (by decide)) ?_
        refine J_callVv cw_P_49 nh_T_put pn_T_put rfl rfl (by omega) ((cF_0 (by decide)).trans (by rw [va_up_self])) (As := [.int (iI 46)]) (rest := []) rfl (Nat.le_of_ble_eq_true rfl) ⟨by decide, by decide⟩ rfl ⟨by decide, by decide⟩ d_P_layReal_98 (c_T_putN hfl (k := 44) (w := (wS ++ [(48 : Nat)])) (hh := hh26) (c := (46 : Nat)) (by omega) ((cF_0 (by decide)).trans (by rw [va_up_self])) ((cF_0 (by decide)).trans (by rw [va_up_ne _ _ (by decide), va_up_self])) htx27 (by simp only [List.length_append, List.length_cons, List.length_nil, List.length_replicate]; omega) (by omega)) (fun  F12 hq => ?_)
        obtain ⟨hh28, htx29, eF12⟩ := hq
        refine J_eqF (F2 := cF ad g (va_up (va_up F0 45 (.inl (g 1, 200, .inl (aI hh28)))) 44 (.inr (7, [.ref (ad 45), .int (iI ((((wS ++ [(48 : Nat)]) ++ [(46 : Nat)]).length : Nat) : Int))]))) W K S) (eF12.trans (Eq.trans (congrArg (fun qF : Nat → va_E => va_up qF 44 (.inr (7, [.ref (ad 45), .int (iI ((((wS ++ [(48 : Nat)]) ++ [(46 : Nat)]).length : Nat) : Int))]))) ((cF_up0 (by decide)).trans (congrArg (fun qq => cF ad g qq W K S) (up_in1 (by decide))))) ((cF_up0 (by decide)).trans (congrArg (fun qq => cF ad g qq W K S) (up_in0))))) ?_
        refine J_aload_n 0 d_P_layReal_101 rfl rfl ?_
        refine gf_P_12 (by omega) ((cF_0 (by decide)).trans (by rw [va_up_ne _ _ (by decide), va_up_ne _ _ (by decide)]; exact hPn)) rfl d_P_layReal_102 ?_
        refine J_bipush d_P_layReal_105 (i8_ok (by decide)) ?_
        refine J_iload_n 1 d_P_layReal_107 rfl rfl ?_
        refine J_ineg d_P_layReal_108 ?_
        refine J_iconst d_P_layReal_109 ?_
        refine J_isub d_P_layReal_110 ?_
        refine J_topi (r := -e - 1) (congrArg iI (by omega)) ?_
        refine J_callVv cw_P_111 nh_T_putMany pn_T_putMany rfl rfl (by omega) ((cF_0 (by decide)).trans (by rw [va_up_self])) (As := [.int (iI 48), .int (iI (-e - 1))]) (rest := []) rfl (Nat.le_of_ble_eq_true rfl) ⟨by decide, by decide⟩ rfl ⟨by decide, by decide⟩ d_P_layReal_111 (c_T_putManyI hfl (k := 44) (w := ((wS ++ [(48 : Nat)]) ++ [(46 : Nat)])) (hh := hh28) (c := (48 : Nat)) (n := -e - 1) (by omega) ((cF_0 (by decide)).trans (by rw [va_up_self])) ((cF_0 (by decide)).trans (by rw [va_up_ne _ _ (by decide), va_up_self])) htx29 (by simp only [List.length_append, List.length_cons, List.length_nil, List.length_replicate]; omega) (by omega) ⟨by omega, by simp only [List.length_append, List.length_cons, List.length_nil]; omega⟩) (fun  F13 hq => ?_)
        obtain ⟨hh30, htx31, eF13⟩ := hq
        refine J_eqF (F2 := cF ad g (va_up (va_up F0 45 (.inl (g 1, 200, .inl (aI hh30)))) 44 (.inr (7, [.ref (ad 45), .int (iI (((((wS ++ [(48 : Nat)]) ++ [(46 : Nat)]) ++ List.replicate ((-e - 1).toNat) (48 : Nat)).length : Nat) : Int))]))) W K S) (eF13.trans (Eq.trans (congrArg (fun qF : Nat → va_E => va_up qF 44 (.inr (7, [.ref (ad 45), .int (iI (((((wS ++ [(48 : Nat)]) ++ [(46 : Nat)]) ++ List.replicate ((-e - 1).toNat) (48 : Nat)).length : Nat) : Int))]))) ((cF_up0 (by decide)).trans (congrArg (fun qq => cF ad g qq W K S) (up_in1 (by decide))))) ((cF_up0 (by decide)).trans (congrArg (fun qq => cF ad g qq W K S) (up_in0))))) ?_
        refine J_aload_n 0 d_P_layReal_114 rfl rfl ?_
        refine gf_P_12 (by omega) ((cF_0 (by decide)).trans (by rw [va_up_ne _ _ (by decide), va_up_ne _ _ (by decide)]; exact hPn)) rfl d_P_layReal_115 ?_
        refine J_aload_n 0 d_P_layReal_118 rfl rfl ?_
        refine gf_P_24 (by omega) ((cF_0 (by decide)).trans (by rw [va_up_ne _ _ (by decide), va_up_ne _ _ (by decide)]; exact hPn)) rfl d_P_layReal_119 ?_
        refine J_iconst d_P_layReal_122 ?_
        refine J_aload_n 0 d_P_layReal_123 rfl rfl ?_
        refine gf_P_24 (by omega) ((cF_0 (by decide)).trans (by rw [va_up_ne _ _ (by decide), va_up_ne _ _ (by decide)]; exact hPn)) rfl d_P_layReal_124 ?_
        refine gf_P_88 (by omega) ((cF_0 (by decide)).trans (by rw [va_up_ne _ _ (by decide), va_up_ne _ _ (by decide)]; exact hTD)) rfl d_P_layReal_127 ?_
        refine J_callVv cw_P_91 nh_T_putFrom pn_T_putFrom rfl rfl (by omega) ((cF_0 (by decide)).trans (by rw [va_up_self])) (As := [.ref (ad 50), .int (iI 0), .int (iI ((wD.length : Nat) : Int))]) (rest := []) rfl (Nat.le_of_ble_eq_true rfl) ⟨by decide, by decide⟩ rfl ⟨by decide, by decide⟩ d_P_layReal_130 (c_T_putFromN hfl (k := 44) (m := 50) (w := (((wS ++ [(48 : Nat)]) ++ [(46 : Nat)]) ++ List.replicate ((-e - 1).toNat) (48 : Nat))) (v := wD) (u := wD) (hh := hh30) (yh := hD) (p := 0) (q := wD.length) (by omega) ((cF_0 (by decide)).trans (by rw [va_up_self])) ((cF_0 (by decide)).trans (by rw [va_up_ne _ _ (by decide), va_up_self])) htx31 (by simp only [List.length_append, List.length_cons, List.length_nil, List.length_replicate]; omega) (by omega) ((cF_0 (by decide)).trans (by rw [va_up_ne _ _ (by decide), va_up_ne _ _ (by decide)]; exact hTD)) ((cF_0 (by decide)).trans (by rw [va_up_ne _ _ (by decide), va_up_ne _ _ (by decide)]; exact hAD)) ttD hlD (by omega) (by omega) (by omega) take_all0 (by simp only [List.length_append, List.length_cons, List.length_nil, List.length_replicate]; omega)) (fun  F14 hq => ?_)
        obtain ⟨hh32, htx33, eF14⟩ := hq
        refine J_eqF (F2 := cF ad g (va_up (va_up F0 45 (.inl (g 1, 200, .inl (aI hh32)))) 44 (.inr (7, [.ref (ad 45), .int (iI ((((((wS ++ [(48 : Nat)]) ++ [(46 : Nat)]) ++ List.replicate ((-e - 1).toNat) (48 : Nat)) ++ wD).length : Nat) : Int))]))) W K S) (eF14.trans (Eq.trans (congrArg (fun qF : Nat → va_E => va_up qF 44 (.inr (7, [.ref (ad 45), .int (iI ((((((wS ++ [(48 : Nat)]) ++ [(46 : Nat)]) ++ List.replicate ((-e - 1).toNat) (48 : Nat)) ++ wD).length : Nat) : Int))]))) ((cF_up0 (by decide)).trans (congrArg (fun qq => cF ad g qq W K S) (up_in1 (by decide))))) ((cF_up0 (by decide)).trans (congrArg (fun qq => cF ad g qq W K S) (up_in0))))) ?_
        refine J_goto (tgt := 201) d_P_layReal_133 (by decide) ?_
        refine J_eqF (F2 := cF ad g (va_up (va_up (va_up F0 45 (.inl (g 1, 200, .inl (aI hh32)))) 44 (.inr (7, [.ref (ad 45), .int (iI ((((((wS ++ [(48 : Nat)]) ++ [(46 : Nat)]) ++ List.replicate ((-e - 1).toNat) (48 : Nat)) ++ wD).length : Nat) : Int))]))) 51 (.inl (g 1, 200, .inl (aI hD)))) W K S) (congrArg (fun qq : Nat → va_E => cF ad g qq W K S) (up_same1 (i := 51) (a := ((.inl (g 1, 200, .inl (aI hD))) : va_E)) (by rw [va_up_ne _ _ (by decide), va_up_ne _ _ (by decide)]; exact hAD))) ?_
        refine J_eqF (F2 := cF ad g (va_up (va_up (va_up (va_up F0 45 (.inl (g 1, 200, .inl (aI hh32)))) 44 (.inr (7, [.ref (ad 45), .int (iI ((((((wS ++ [(48 : Nat)]) ++ [(46 : Nat)]) ++ List.replicate ((-e - 1).toNat) (48 : Nat)) ++ wD).length : Nat) : Int))]))) 51 (.inl (g 1, 200, .inl (aI hD)))) 50 (.inr (7, [.ref (ad 51), .int (iI ((wD.length : Nat) : Int))]))) W K S) (congrArg (fun qq : Nat → va_E => cF ad g qq W K S) (up_same1 (i := 50) (a := ((.inr (7, [.ref (ad 51), .int (iI ((wD.length : Nat) : Int))])) : va_E)) (by rw [va_up_ne _ _ (by decide), va_up_ne _ _ (by decide), va_up_ne _ _ (by decide)]; exact hTD))) ?_
        refine J_eqF (F2 := cF ad g (va_up (va_up (va_up (va_up F0 51 (.inl (g 1, 200, .inl (aI hD)))) 50 (.inr (7, [.ref (ad 51), .int (iI ((wD.length : Nat) : Int))]))) 45 (.inl (g 1, 200, .inl (aI hh32)))) 44 (.inr (7, [.ref (ad 45), .int (iI ((((((wS ++ [(48 : Nat)]) ++ [(46 : Nat)]) ++ List.replicate ((-e - 1).toNat) (48 : Nat)) ++ wD).length : Nat) : Int))]))) W K S) (congrArg (fun qq : Nat → va_E => cF ad g qq W K S) (Eq.trans (congrArg (fun qq : Nat → va_E => va_up qq 50 (.inr (7, [.ref (ad 51), .int (iI ((wD.length : Nat) : Int))]))) (up_cm (by decide))) (Eq.trans (congrArg (fun qq : Nat → va_E => va_up (va_up qq 44 (.inr (7, [.ref (ad 45), .int (iI ((((((wS ++ [(48 : Nat)]) ++ [(46 : Nat)]) ++ List.replicate ((-e - 1).toNat) (48 : Nat)) ++ wD).length : Nat) : Int))]))) 50 (.inr (7, [.ref (ad 51), .int (iI ((wD.length : Nat) : Int))]))) (up_cm (by decide))) (Eq.trans (up_cm (by decide)) (congrArg (fun qq : Nat → va_E => va_up qq 44 (.inr (7, [.ref (ad 45), .int (iI ((((((wS ++ [(48 : Nat)]) ++ [(46 : Nat)]) ++ List.replicate ((-e - 1).toNat) (48 : Nat)) ++ wD).length : Nat) : Int))]))) (up_cm (by decide))))))) ?_
        have eT34 : ((((wS ++ [(48 : Nat)]) ++ [(46 : Nat)]) ++ List.replicate ((-e - 1).toNat) (48 : Nat)) ++ wD) = wS ++ layG wD e := (by unfold layG; rw [if_pos ⟨by omega, by omega⟩, if_pos (by omega)]; simp only [List.append_assoc]; rfl)
        have htx35 : tx hh32 (wS ++ layG wD e) := eT34 ▸ htx33
        refine J_eqF (F2 := cF ad g (va_up (va_up (va_up (va_up F0 51 (.inl (g 1, 200, .inl (aI hD)))) 50 (.inr (7, [.ref (ad 51), .int (iI ((wD.length : Nat) : Int))]))) 45 (.inl (g 1, 200, .inl (aI hh32)))) 44 (.inr (7, [.ref (ad 45), .int (iI (((wS ++ layG wD e).length : Nat) : Int))]))) W K S) (congrArg (fun qq : List Nat => cF ad g (va_up (va_up (va_up (va_up F0 51 (.inl (g 1, 200, .inl (aI hD)))) 50 (.inr (7, [.ref (ad 51), .int (iI ((wD.length : Nat) : Int))]))) 45 (.inl (g 1, 200, .inl (aI hh32)))) 44 (oT ad 44 ((qq.length : Nat) : Int))) W K S) eT34) ?_
        refine J_vret rfl d_P_layReal_201 ⟨by decide, by decide⟩ ?_
        exact ⟨rfl, rfl, rfl, _, _, _, hlD, ttD, htx35, rfl⟩
    · exact lab12  (show ¬(-4 ≤ e ∧ e ≤ 15) by omega)
